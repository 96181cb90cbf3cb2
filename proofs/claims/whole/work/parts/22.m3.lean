theorem yd_X8_isLight : yX8_isLight.cls = RX8 ∧ yX8_isLight.cls ≠ "java/lang/invoke/MethodHandle" ∧ yX8_isLight.cls ≠ "java/lang/invoke/VarHandle" ∧ (parseMethodDescriptor yX8_isLight.desc).map (fun d => d.parameters.length) = some 1 := by decide +kernel
theorem yd_X8_lookNow : yX8_lookNow.cls = RX8 ∧ yX8_lookNow.cls ≠ "java/lang/invoke/MethodHandle" ∧ yX8_lookNow.cls ≠ "java/lang/invoke/VarHandle" ∧ (parseMethodDescriptor yX8_lookNow.desc).map (fun d => d.parameters.length) = some 3 := by decide +kernel
theorem yd_X8_size : yX8_size.cls = RX8 ∧ yX8_size.cls ≠ "java/lang/invoke/MethodHandle" ∧ yX8_size.cls ≠ "java/lang/invoke/VarHandle" ∧ (parseMethodDescriptor yX8_size.desc).map (fun d => d.parameters.length) = some 1 := by decide +kernel
set_option maxRecDepth 20000 in
theorem in_X8_back_X8 : ∀ w ∈ u_ws RX8 TX8 35, w ∈ wsX8_back := by decide +kernel
set_option maxRecDepth 20000 in
theorem lk_X8_back_22 : Cond.fieldLink RX8 22 (TX8 11).1 (TX8 11).2.1 (TX8 11).2.2.1 ∈ wsX8_back := by decide +kernel
set_option maxRecDepth 20000 in
theorem lk_X8_back_25 : Cond.fieldLink RX8 25 (TX8 12).1 (TX8 12).2.1 (TX8 12).2.2.1 ∈ wsX8_back := by decide +kernel
set_option maxRecDepth 20000 in
theorem lk_X8_back_28 : Cond.fieldLink RX8 28 (TX8 13).1 (TX8 13).2.1 (TX8 13).2.2.1 ∈ wsX8_back := by decide +kernel
set_option maxRecDepth 20000 in
theorem in_X8_addCoat_X8 : ∀ w ∈ u_ws RX8 TX8 35, w ∈ wsX8_addCoat := by decide +kernel
set_option maxRecDepth 20000 in
theorem lk_X8_addCoat_38 : Cond.fieldLink RX8 38 (TX8 20).1 (TX8 20).2.1 (TX8 20).2.2.1 ∈ wsX8_addCoat := by decide +kernel
set_option maxRecDepth 20000 in
theorem lk_X8_addCoat_124 : Cond.fieldLink RX8 124 (TX8 19).1 (TX8 19).2.1 (TX8 19).2.2.1 ∈ wsX8_addCoat := by decide +kernel
set_option maxRecDepth 20000 in
theorem lk_X8_addCoat_41 : Cond.fieldLink RX8 41 (TX8 21).1 (TX8 21).2.1 (TX8 21).2.2.1 ∈ wsX8_addCoat := by decide +kernel
set_option maxRecDepth 20000 in
theorem in_X8_coat_X8 : ∀ w ∈ u_ws RX8 TX8 35, w ∈ wsX8_coat := by decide +kernel
set_option maxRecDepth 20000 in
theorem lk_X8_coat_124 : Cond.fieldLink RX8 124 (TX8 19).1 (TX8 19).2.1 (TX8 19).2.2.1 ∈ wsX8_coat := by decide +kernel
theorem yd_X8_addCoat : yX8_addCoat.cls = RX8 ∧ yX8_addCoat.cls ≠ "java/lang/invoke/MethodHandle" ∧ yX8_addCoat.cls ≠ "java/lang/invoke/VarHandle" ∧ (parseMethodDescriptor yX8_addCoat.desc).map (fun d => d.parameters.length) = some 4 := by decide +kernel
theorem yd_X8_isCoat : yX8_isCoat.cls = RX8 ∧ yX8_isCoat.cls ≠ "java/lang/invoke/MethodHandle" ∧ yX8_isCoat.cls ≠ "java/lang/invoke/VarHandle" ∧ (parseMethodDescriptor yX8_isCoat.desc).map (fun d => d.parameters.length) = some 1 := by decide +kernel
set_option maxRecDepth 20000 in
theorem in_X8_ofCoat_X8 : ∀ w ∈ u_ws RX8 TX8 35, w ∈ wsX8_ofCoat := by decide +kernel
set_option maxRecDepth 20000 in
theorem lk_X8_ofCoat_41 : Cond.fieldLink RX8 41 (TX8 21).1 (TX8 21).2.1 (TX8 21).2.2.1 ∈ wsX8_ofCoat := by decide +kernel
set_option maxRecDepth 20000 in
theorem lk_X8_ofCoat_38 : Cond.fieldLink RX8 38 (TX8 20).1 (TX8 20).2.1 (TX8 20).2.2.1 ∈ wsX8_ofCoat := by decide +kernel
set_option maxRecDepth 20000 in
theorem in_X8_paint_X8 : ∀ w ∈ u_ws RX8 TX8 35, w ∈ wsX8_paint := by decide +kernel
set_option maxRecDepth 20000 in
theorem lk_X8_paint_22 : Cond.fieldLink RX8 22 (TX8 11).1 (TX8 11).2.1 (TX8 11).2.2.1 ∈ wsX8_paint := by decide +kernel
set_option maxRecDepth 20000 in
theorem lk_X8_paint_25 : Cond.fieldLink RX8 25 (TX8 12).1 (TX8 12).2.1 (TX8 12).2.2.1 ∈ wsX8_paint := by decide +kernel
set_option maxRecDepth 20000 in
theorem lk_X8_paint_28 : Cond.fieldLink RX8 28 (TX8 13).1 (TX8 13).2.1 (TX8 13).2.2.1 ∈ wsX8_paint := by decide +kernel
set_option maxRecDepth 20000 in
theorem in_X8_light_X8 : ∀ w ∈ u_ws RX8 TX8 35, w ∈ wsX8_light := by decide +kernel
set_option maxRecDepth 20000 in
theorem lk_X8_light_121 : Cond.fieldLink RX8 121 (TX8 22).1 (TX8 22).2.1 (TX8 22).2.2.1 ∈ wsX8_light := by decide +kernel
set_option maxRecDepth 20000 in
theorem lk_X8_light_44 : Cond.fieldLink RX8 44 (TX8 23).1 (TX8 23).2.1 (TX8 23).2.2.1 ∈ wsX8_light := by decide +kernel
set_option maxRecDepth 20000 in
theorem in_X8_on_X8 : ∀ w ∈ u_ws RX8 TX8 35, w ∈ wsX8_on := by decide +kernel
set_option maxRecDepth 20000 in
theorem lk_X8_on_31 : Cond.fieldLink RX8 31 (TX8 14).1 (TX8 14).2.1 (TX8 14).2.2.1 ∈ wsX8_on := by decide +kernel
set_option maxRecDepth 20000 in
theorem lk_X8_on_22 : Cond.fieldLink RX8 22 (TX8 11).1 (TX8 11).2.1 (TX8 11).2.2.1 ∈ wsX8_on := by decide +kernel
set_option maxRecDepth 20000 in
theorem lk_X8_on_25 : Cond.fieldLink RX8 25 (TX8 12).1 (TX8 12).2.1 (TX8 12).2.2.1 ∈ wsX8_on := by decide +kernel
set_option maxRecDepth 20000 in
theorem lk_X8_on_19 : Cond.fieldLink RX8 19 (TX8 10).1 (TX8 10).2.1 (TX8 10).2.2.1 ∈ wsX8_on := by decide +kernel
set_option maxRecDepth 20000 in
theorem lk_X8_on_28 : Cond.fieldLink RX8 28 (TX8 13).1 (TX8 13).2.1 (TX8 13).2.2.1 ∈ wsX8_on := by decide +kernel
set_option maxRecDepth 20000 in
theorem in_X8_name_X8 : ∀ w ∈ u_ws RX8 TX8 35, w ∈ wsX8_name := by decide +kernel
set_option maxRecDepth 20000 in
theorem lk_X8_name_38 : Cond.fieldLink RX8 38 (TX8 20).1 (TX8 20).2.1 (TX8 20).2.2.1 ∈ wsX8_name := by decide +kernel
theorem yd_X8_begins : yX8_begins.cls = RX8 ∧ yX8_begins.cls ≠ "java/lang/invoke/MethodHandle" ∧ yX8_begins.cls ≠ "java/lang/invoke/VarHandle" ∧ (parseMethodDescriptor yX8_begins.desc).map (fun d => d.parameters.length) = some 1 := by decide +kernel
set_option maxRecDepth 20000 in
theorem in_X8_tell_X8 : ∀ w ∈ u_ws RX8 TX8 35, w ∈ wsX8_tell := by decide +kernel
set_option maxRecDepth 20000 in
theorem lk_X8_tell_41 : Cond.fieldLink RX8 41 (TX8 21).1 (TX8 21).2.1 (TX8 21).2.2.1 ∈ wsX8_tell := by decide +kernel
set_option maxRecDepth 20000 in
theorem lk_X8_tell_38 : Cond.fieldLink RX8 38 (TX8 20).1 (TX8 20).2.1 (TX8 20).2.2.1 ∈ wsX8_tell := by decide +kernel
set_option maxRecDepth 20000 in
theorem in_X8_as_X8 : ∀ w ∈ u_ws RX8 TX8 35, w ∈ wsX8_as := by decide +kernel
set_option maxRecDepth 20000 in
theorem lk_X8_as_65 : Cond.fieldLink RX8 65 (TX8 0).1 (TX8 0).2.1 (TX8 0).2.2.1 ∈ wsX8_as := by decide +kernel
set_option maxRecDepth 20000 in
theorem lk_X8_as_38 : Cond.fieldLink RX8 38 (TX8 20).1 (TX8 20).2.1 (TX8 20).2.2.1 ∈ wsX8_as := by decide +kernel
theorem yd_X8_fails : yX8_fails.cls = RX8 ∧ yX8_fails.cls ≠ "java/lang/invoke/MethodHandle" ∧ yX8_fails.cls ≠ "java/lang/invoke/VarHandle" ∧ (parseMethodDescriptor yX8_fails.desc).map (fun d => d.parameters.length) = some 1 := by decide +kernel
set_option maxHeartbeats 4000000 in
set_option maxRecDepth 100000 in
theorem kX8_look (c : tv_c) (s r : ts_T)  (p0 p1 p2 : Int32) (hI : iv s) : tv_Fi c 19 yX8_look wsX8_look { frames := 4, cells := 0, slots := 0, locals := 103 } [.ref (tv_ad c 0), .int p0, .int p1, .int p2] (eM c s r) (sp_look s p0 p1 p2) (eM c s r) := by
  refine tv_metI (by decide +kernel) rfl rfl (Nat.le_of_ble_eq_true rfl) (fun X C hR => ?_)
  show tv_V c 19 X (eM c s r) 0 [(0, .ref (tv_ad c 0)), (1, .int p0), (2, .int p1), (3, .int p2)] []
  have hC := iv.hC hI
  obtain ⟨h, w, n, nk, nl, ny, nm, li, e2, e3, e9, hnw, hh, hw, hn, hz, hp, e7, hk, e8, hl, e4, hy, e5, hm, e6, hli, hcel, hkin, hban, hwei, hshe⟩ := id hI
  refine tv_aload_n C dX8_look_0 rfl 0 rfl ?_
  refine tv_iload_n C dX8_look_1 rfl 1 rfl ?_
  refine tv_calli (As := [.int p0]) (rest := []) (ci := 8) (cn := RX8) (T := TX8) (Nf := 35) C 0 (kX8_isCell c s r  p0 hC) gX8_look_X8_isCell rfl yd_X8_isCell ⟨rfl, rfl⟩ (by decide) (by decide) rfl rfl rfl rfl (Nat.le_of_ble_eq_true rfl) dX8_look_2 (fun q_1 u_1 z_1 => ?_)
  obtain ⟨rfl, rfl⟩ := z_1
  refine tv_if_eq C 26 dX8_look_5 (by decide) (fun c_2 => ?_) (fun c_2 => ?_)
  · skip
    refine tv_iconst (v := (-1)) C dX8_look_26 (by decide) ?_
    exact hR _ _ _ _ dX8_look_27 ⟨by first | (simp only [sp_look, eq_true c_2, if_true, ↓reduceIte]; done) | rfl | (simp [sp_look, eq_true c_2, if_true]; done) | (exfalso; clear hR C; simp_all; done), by first | (simp only [sp_look, eq_true c_2, if_true, ts_ss, ts_aa, ↓reduceIte]; done) | rfl | (simp [sp_look, eq_true c_2, if_true, ts_ss, ts_aa]; done) | (exfalso; clear hR C; simp_all; done)⟩
  · skip
    obtain ⟨j_p0, hj_p0, ej_p0, ek_p0⟩ := in_ix e9 (by omega) c_2
    obtain ⟨fs_p0, ⟨b_p0, hb_p0, eb_p0⟩, fh_p0, fa_p0, fz_p0⟩ := hcel j_p0 hj_p0
    refine tv_aload_n C dX8_look_8 rfl 0 rfl ?_
    refine tv_iload_n C dX8_look_9 rfl 2 rfl ?_
    refine tv_calli (As := [.int p1]) (rest := []) (ci := 8) (cn := RX8) (T := TX8) (Nf := 35) C 0 (kX8_isLight c s r  p1 ) gX8_look_X8_isLight rfl yd_X8_isLight ⟨rfl, rfl⟩ (by decide) (by decide) rfl rfl rfl rfl (Nat.le_of_ble_eq_true rfl) dX8_look_10 (fun q_3 u_3 z_3 => ?_)
    obtain ⟨rfl, rfl⟩ := z_3
    refine tv_if_eq C 26 dX8_look_13 (by decide) (fun c_4 => ?_) (fun c_4 => ?_)
    · skip
      refine tv_iconst (v := (-1)) C dX8_look_26 (by decide) ?_
      exact hR _ _ _ _ dX8_look_27 ⟨by first | (simp only [sp_look, c_2, ek_p0, eq_true c_4, if_true, ↓reduceIte]; done) | rfl | (simp [sp_look, c_2, ek_p0, eq_true c_4, if_true]; done) | (exfalso; clear hR C; simp_all; done), by first | (simp only [sp_look, c_2, ek_p0, eq_true c_4, if_true, ts_ss, ts_aa, ↓reduceIte]; done) | rfl | (simp [sp_look, c_2, ek_p0, eq_true c_4, if_true, ts_ss, ts_aa]; done) | (exfalso; clear hR C; simp_all; done)⟩
    · skip
      obtain ⟨j_p1, hj_p1, ej_p1, ek_p1⟩ := in_ix e8 (by omega) c_4
      refine tv_aload_n C dX8_look_16 rfl 0 rfl ?_
      refine tv_iload_n C dX8_look_17 rfl 1 rfl ?_
      refine tv_iload_n C dX8_look_18 rfl 2 rfl ?_
      refine tv_iload_n C dX8_look_19 rfl 3 rfl ?_
      refine tv_calli (As := [.int p0, .int p1, .int p2]) (rest := []) (ci := 8) (cn := RX8) (T := TX8) (Nf := 35) C 0 (kX8_lookNow c s r j_p0 j_p1 p0 p1 p2 ej_p0 (by omega) ej_p1 (by omega) ⟨b_p0, hb_p0, eb_p0⟩) gX8_look_X8_lookNow rfl yd_X8_lookNow ⟨rfl, rfl⟩ (by decide) (by decide) rfl rfl rfl rfl (Nat.le_of_ble_eq_true rfl) dX8_look_20 (fun q_5 u_5 z_5 => ?_)
      obtain ⟨rfl, rfl⟩ := z_5
      refine tv_goto C 27 dX8_look_23 (by decide) ?_
      exact hR _ _ _ _ dX8_look_27 ⟨by first | (simp only [sp_look, c_2, ek_p0, c_4, ek_p1, if_true, ↓reduceIte]; done) | rfl | (simp [sp_look, c_2, ek_p0, c_4, ek_p1, if_true]; done) | (exfalso; clear hR C; simp_all; done), by first | (simp only [sp_look, c_2, ek_p0, c_4, ek_p1, if_true, ts_ss, ts_aa, ↓reduceIte]; done) | rfl | (simp [sp_look, c_2, ek_p0, c_4, ek_p1, if_true, ts_ss, ts_aa]; done) | (exfalso; clear hR C; simp_all; done)⟩
set_option maxHeartbeats 4000000 in
set_option maxRecDepth 100000 in
theorem kX8_unlike (c : tv_c) (s r : ts_T)  (p0 p1 p2 p3 : Int32) (hI : iv s) : tv_Fi c 19 yX8_unlike wsX8_unlike { frames := 4, cells := 0, slots := 0, locals := 103 } [.ref (tv_ad c 0), .int p0, .int p1, .int p2, .int p3] (eM c s r) (sp_unlike s p0 p1 p2 p3) (eM c s r) := by
  refine tv_metI (by decide +kernel) rfl rfl (Nat.le_of_ble_eq_true rfl) (fun X C hR => ?_)
  show tv_V c 19 X (eM c s r) 0 [(0, .ref (tv_ad c 0)), (1, .int p0), (2, .int p1), (3, .int p2), (4, .int p3)] []
  have hC := iv.hC hI
  obtain ⟨h, w, n, nk, nl, ny, nm, li, e2, e3, e9, hnw, hh, hw, hn, hz, hp, e7, hk, e8, hl, e4, hy, e5, hm, e6, hli, hcel, hkin, hban, hwei, hshe⟩ := id hI
  refine tv_aload_n C dX8_unlike_0 rfl 0 rfl ?_
  refine tv_iload_n C dX8_unlike_1 rfl 1 rfl ?_
  refine tv_calli (As := [.int p0]) (rest := []) (ci := 8) (cn := RX8) (T := TX8) (Nf := 35) C 0 (kX8_isCell c s r  p0 hC) gX8_unlike_X8_isCell rfl yd_X8_isCell ⟨rfl, rfl⟩ (by decide) (by decide) rfl rfl rfl rfl (Nat.le_of_ble_eq_true rfl) dX8_unlike_2 (fun q_1 u_1 z_1 => ?_)
  obtain ⟨rfl, rfl⟩ := z_1
  refine tv_if_eq C 24 dX8_unlike_5 (by decide) (fun c_2 => ?_) (fun c_2 => ?_)
  · skip
    refine tv_iconst (v := (-1)) C dX8_unlike_24 (by decide) ?_
    exact hR _ _ _ _ dX8_unlike_25 ⟨by first | (simp only [sp_unlike, eq_true c_2, if_true, ↓reduceIte]; done) | rfl | (simp [sp_unlike, eq_true c_2, if_true]; done) | (exfalso; clear hR C; simp_all; done), by first | (simp only [sp_unlike, eq_true c_2, if_true, ts_ss, ts_aa, ↓reduceIte]; done) | rfl | (simp [sp_unlike, eq_true c_2, if_true, ts_ss, ts_aa]; done) | (exfalso; clear hR C; simp_all; done)⟩
  · skip
    obtain ⟨j_p0, hj_p0, ej_p0, ek_p0⟩ := in_ix e9 (by omega) c_2
    obtain ⟨fs_p0, ⟨b_p0, hb_p0, eb_p0⟩, fh_p0, fa_p0, fz_p0⟩ := hcel j_p0 hj_p0
    refine tv_aload_n C dX8_unlike_8 rfl 0 rfl ?_
    refine tv_iload_n C dX8_unlike_9 rfl 2 rfl ?_
    refine tv_calli (As := [.int p1]) (rest := []) (ci := 8) (cn := RX8) (T := TX8) (Nf := 35) C 0 (kX8_isCell c s r  p1 hC) gX8_unlike_X8_isCell rfl yd_X8_isCell ⟨rfl, rfl⟩ (by decide) (by decide) rfl rfl rfl rfl (Nat.le_of_ble_eq_true rfl) dX8_unlike_10 (fun q_3 u_3 z_3 => ?_)
    obtain ⟨rfl, rfl⟩ := z_3
    refine tv_if_eq C 24 dX8_unlike_13 (by decide) (fun c_4 => ?_) (fun c_4 => ?_)
    · skip
      refine tv_iconst (v := (-1)) C dX8_unlike_24 (by decide) ?_
      exact hR _ _ _ _ dX8_unlike_25 ⟨by first | (simp only [sp_unlike, c_2, ek_p0, eq_true c_4, if_true, ↓reduceIte]; done) | rfl | (simp [sp_unlike, c_2, ek_p0, eq_true c_4, if_true]; done) | (exfalso; clear hR C; simp_all; done), by first | (simp only [sp_unlike, c_2, ek_p0, eq_true c_4, if_true, ts_ss, ts_aa, ↓reduceIte]; done) | rfl | (simp [sp_unlike, c_2, ek_p0, eq_true c_4, if_true, ts_ss, ts_aa]; done) | (exfalso; clear hR C; simp_all; done)⟩
    · skip
      obtain ⟨j_p1, hj_p1, ej_p1, ek_p1⟩ := in_ix e9 (by omega) c_4
      obtain ⟨fs_p1, ⟨b_p1, hb_p1, eb_p1⟩, fh_p1, fa_p1, fz_p1⟩ := hcel j_p1 hj_p1
      refine tv_aload_n C dX8_unlike_16 rfl 0 rfl ?_
      refine tv_iload_n C dX8_unlike_17 rfl 3 rfl ?_
      refine tv_calli (As := [.int p2]) (rest := []) (ci := 8) (cn := RX8) (T := TX8) (Nf := 35) C 0 (kX8_isLight c s r  p2 ) gX8_unlike_X8_isLight rfl yd_X8_isLight ⟨rfl, rfl⟩ (by decide) (by decide) rfl rfl rfl rfl (Nat.le_of_ble_eq_true rfl) dX8_unlike_18 (fun q_5 u_5 z_5 => ?_)
      obtain ⟨rfl, rfl⟩ := z_5
      refine tv_if_ne C 26 dX8_unlike_21 (by decide) (fun c_6 => ?_) (fun c_6 => ?_)
      · skip
        obtain ⟨j_p2, hj_p2, ej_p2, ek_p2⟩ := in_ix e8 (by omega) c_6
        refine tv_aload_n C dX8_unlike_26 rfl 0 rfl ?_
        refine tv_iload_n C dX8_unlike_27 rfl 1 rfl ?_
        refine tv_iload_n C dX8_unlike_28 rfl 3 rfl ?_
        refine tv_iload C dX8_unlike_29 4 rfl ?_
        refine tv_calli (As := [.int p0, .int p2, .int p3]) (rest := []) (ci := 8) (cn := RX8) (T := TX8) (Nf := 35) C 0 (kX8_lookNow c s r j_p0 j_p2 p0 p2 p3 ej_p0 (by omega) ej_p2 (by omega) ⟨b_p0, hb_p0, eb_p0⟩) gX8_unlike_X8_lookNow rfl yd_X8_lookNow ⟨rfl, rfl⟩ (by decide) (by decide) rfl rfl rfl rfl (Nat.le_of_ble_eq_true rfl) dX8_unlike_31 (fun q_7 u_7 z_7 => ?_)
        obtain ⟨rfl, rfl⟩ := z_7
        refine tv_aload_n C dX8_unlike_34 rfl 0 rfl ?_
        refine tv_iload_n C dX8_unlike_35 rfl 2 rfl ?_
        refine tv_iload_n C dX8_unlike_36 rfl 3 rfl ?_
        refine tv_iload C dX8_unlike_37 4 rfl ?_
        refine tv_calli (As := [.int p1, .int p2, .int p3]) (rest := [.int (sp_ln s j_p0 j_p2 p3)]) (ci := 8) (cn := RX8) (T := TX8) (Nf := 35) C 0 (kX8_lookNow c s r j_p1 j_p2 p1 p2 p3 ej_p1 (by omega) ej_p2 (by omega) ⟨b_p1, hb_p1, eb_p1⟩) gX8_unlike_X8_lookNow rfl yd_X8_lookNow ⟨rfl, rfl⟩ (by decide) (by decide) rfl rfl rfl rfl (Nat.le_of_ble_eq_true rfl) dX8_unlike_39 (fun q_8 u_8 z_8 => ?_)
        obtain ⟨rfl, rfl⟩ := z_8
        refine tv_isub C dX8_unlike_42 ?_
        refine tv_callis (As := [.int ((sp_ln s j_p0 j_p2 p3) - (sp_ln s j_p1 j_p2 p3))]) (rest := []) C (kX8_size c s r  ((sp_ln s j_p0 j_p2 p3) - (sp_ln s j_p1 j_p2 p3)) ) gX8_unlike_X8_size rfl yd_X8_size ⟨rfl, rfl⟩ (by decide) rfl rfl (Nat.le_of_ble_eq_true rfl) dX8_unlike_43 (fun q_9 u_9 z_9 => ?_)
        obtain ⟨rfl, rfl⟩ := z_9
        exact hR _ _ _ _ dX8_unlike_46 ⟨by first | (simp only [sp_unlike, c_2, ek_p0, c_4, ek_p1, c_6, ek_p2, if_true, ↓reduceIte]; done) | rfl | (simp [sp_unlike, c_2, ek_p0, c_4, ek_p1, c_6, ek_p2, if_true]; done) | (exfalso; clear hR C; simp_all; done), by first | (simp only [sp_unlike, c_2, ek_p0, c_4, ek_p1, c_6, ek_p2, if_true, ts_ss, ts_aa, ↓reduceIte]; done) | rfl | (simp [sp_unlike, c_2, ek_p0, c_4, ek_p1, c_6, ek_p2, if_true, ts_ss, ts_aa]; done) | (exfalso; clear hR C; simp_all; done)⟩
      · skip
        refine tv_iconst (v := (-1)) C dX8_unlike_24 (by decide) ?_
        exact hR _ _ _ _ dX8_unlike_25 ⟨by first | (simp only [sp_unlike, c_2, ek_p0, c_4, ek_p1, eq_true c_6, if_true, ↓reduceIte]; done) | rfl | (simp [sp_unlike, c_2, ek_p0, c_4, ek_p1, eq_true c_6, if_true]; done) | (exfalso; clear hR C; simp_all; done), by first | (simp only [sp_unlike, c_2, ek_p0, c_4, ek_p1, eq_true c_6, if_true, ts_ss, ts_aa, ↓reduceIte]; done) | rfl | (simp [sp_unlike, c_2, ek_p0, c_4, ek_p1, eq_true c_6, if_true, ts_ss, ts_aa]; done) | (exfalso; clear hR C; simp_all; done)⟩
set_option maxHeartbeats 4000000 in
set_option maxRecDepth 100000 in
theorem kX8_back (c : tv_c) (s r : ts_T)  (p0 p1 p2 : Int32) (hI : iv s) : tv_Fi c 19 yX8_back wsX8_back { frames := 2, cells := 0, slots := 0, locals := 53 } [.ref (tv_ad c 0), .int p0, .int p1, .int p2] (eM c s r) (sp_back s p0 p1 p2) (eM c s r) := by
  refine tv_metI (by decide +kernel) rfl rfl (Nat.le_of_ble_eq_true rfl) (fun X C hR => ?_)
  show tv_V c 19 X (eM c s r) 0 [(0, .ref (tv_ad c 0)), (1, .int p0), (2, .int p1), (3, .int p2)] []
  have hC := iv.hC hI
  obtain ⟨h, w, n, nk, nl, ny, nm, li, e2, e3, e9, hnw, hh, hw, hn, hz, hp, e7, hk, e8, hl, e4, hy, e5, hm, e6, hli, hcel, hkin, hban, hwei, hshe⟩ := id hI
  refine tv_aload_n C dX8_back_0 rfl 0 rfl ?_
  refine tv_iload_n C dX8_back_1 rfl 1 rfl ?_
  refine tv_calli (As := [.int p0]) (rest := []) (ci := 8) (cn := RX8) (T := TX8) (Nf := 35) C 0 (kX8_isCell c s r  p0 hC) gX8_back_X8_isCell rfl yd_X8_isCell ⟨rfl, rfl⟩ (by decide) (by decide) rfl rfl rfl rfl (Nat.le_of_ble_eq_true rfl) dX8_back_2 (fun q_1 u_1 z_1 => ?_)
  obtain ⟨rfl, rfl⟩ := z_1
  refine tv_if_ne C 10 dX8_back_5 (by decide) (fun c_2 => ?_) (fun c_2 => ?_)
  · skip
    obtain ⟨j_p0, hj_p0, ej_p0, ek_p0⟩ := in_ix e9 (by omega) c_2
    obtain ⟨fs_p0, ⟨b_p0, hb_p0, eb_p0⟩, fh_p0, fa_p0, fz_p0⟩ := hcel j_p0 hj_p0
    refine tv_iload_n C dX8_back_10 rfl 2 rfl ?_
    refine tv_iconst (v := 0) C dX8_back_11 (by decide) ?_
    refine tv_iconst (v := 2) C dX8_back_12 (by decide) ?_
    refine tv_callis (As := [.int p1, .int 0, .int 2]) (rest := []) C (kX8_within c s r  p1 0 2 ) gX8_back_X8_within rfl yd_X8_within ⟨rfl, rfl⟩ (by decide) rfl rfl (Nat.le_of_ble_eq_true rfl) dX8_back_13 (fun q_3 u_3 z_3 => ?_)
    obtain ⟨rfl, rfl⟩ := z_3
    refine tv_if_eq C 46 dX8_back_16 (by decide) (fun c_4 => ?_) (fun c_4 => ?_)
    · skip
      refine tv_bipush (v := (-2)) C dX8_back_46 (by decide) ?_
      exact hR _ _ _ _ dX8_back_48 ⟨by simp only [sp_back, c_2, ek_p0, eq_true c_4, ↓reduceIte]; try (rw [tk_e eb_p0 (by omega)]), by first | (simp only [sp_back, c_2, ek_p0, eq_true c_4, if_true, ts_ss, ts_aa, ↓reduceIte]; done) | rfl | (simp [sp_back, c_2, ek_p0, eq_true c_4, if_true, ts_ss, ts_aa]; done) | (exfalso; clear hR C; simp_all; done)⟩
    · skip
      obtain ⟨j_p1, hj_p1, ej_p1, ek_p1⟩ := in_in (b := 2) (by decide) c_4
      refine tv_aload_n C dX8_back_19 rfl 0 rfl ?_
      refine tv_aload_n C dX8_back_20 rfl 0 rfl ?_
      refine tv_get (ci := 8) (Cn := RX8) (T := TX8) (Nf := 35) (v := .ref (tv_ad c 5)) C 0 (by decide) rfl rfl in_X8_back_X8 11 (by decide) lk_X8_back_22 rfl dX8_back_21 ?_
      refine tv_iload_n C dX8_back_24 rfl 1 rfl ?_
      refine tv_iald (f := (s 11)) (v := (s 11 j_p0)) C 5 (by decide) rfl j_p0 ej_p0 (show j_p0 < 24 by omega) (by decide) rfl dX8_back_25 ?_
      refine tv_iload_n C dX8_back_26 rfl 2 rfl ?_
      refine tv_aload_n C dX8_back_27 rfl 0 rfl ?_
      refine tv_get (ci := 8) (Cn := RX8) (T := TX8) (Nf := 35) (v := .ref (tv_ad c 6)) C 0 (by decide) rfl rfl in_X8_back_X8 12 (by decide) lk_X8_back_25 rfl dX8_back_28 ?_
      refine tv_iload_n C dX8_back_31 rfl 1 rfl ?_
      refine tv_iald (f := (s 12)) (v := (s 12 j_p0)) C 6 (by decide) rfl j_p0 ej_p0 (show j_p0 < 24 by omega) (by decide) rfl dX8_back_32 ?_
      refine tv_aload_n C dX8_back_33 rfl 0 rfl ?_
      refine tv_get (ci := 8) (Cn := RX8) (T := TX8) (Nf := 35) (v := .ref (tv_ad c 7)) C 0 (by decide) rfl rfl in_X8_back_X8 13 (by decide) lk_X8_back_28 rfl dX8_back_34 ?_
      refine tv_iload_n C dX8_back_37 rfl 1 rfl ?_
      refine tv_iald (f := (s 13)) (v := (s 13 j_p0)) C 7 (by decide) rfl j_p0 ej_p0 (show j_p0 < 24 by omega) (by decide) rfl dX8_back_38 ?_
      refine tv_iload_n C dX8_back_39 rfl 3 rfl ?_
      refine tv_calli (As := [.int (s 11 j_p0), .int p1, .int (s 12 j_p0), .int (s 13 j_p0), .int p2]) (rest := []) (ci := 8) (cn := RX8) (T := TX8) (Nf := 35) C 0 (kX8_comesOf c s r b_p0 j_p1 (s 11 j_p0) p1 (s 12 j_p0) (s 13 j_p0) p2 eb_p0 (by omega) ej_p1 (by omega)) gX8_back_X8_comesOf rfl yd_X8_comesOf ⟨rfl, rfl⟩ (by decide) (by decide) rfl rfl rfl rfl (Nat.le_of_ble_eq_true rfl) dX8_back_40 (fun q_5 u_5 z_5 => ?_)
      obtain ⟨rfl, rfl⟩ := z_5
      refine tv_goto C 48 dX8_back_43 (by decide) ?_
      exact hR _ _ _ _ dX8_back_48 ⟨by simp only [sp_back, c_2, ek_p0, c_4, ek_p1, ↓reduceIte]; try (rw [tk_e eb_p0 (by omega)]), by first | (simp only [sp_back, c_2, ek_p0, c_4, ek_p1, if_true, ts_ss, ts_aa, ↓reduceIte]; done) | rfl | (simp [sp_back, c_2, ek_p0, c_4, ek_p1, if_true, ts_ss, ts_aa]; done) | (exfalso; clear hR C; simp_all; done)⟩
  · skip
    refine tv_iconst (v := (-1)) C dX8_back_8 (by decide) ?_
    exact hR _ _ _ _ dX8_back_9 ⟨by simp only [sp_back, eq_true c_2, ↓reduceIte]; try (rw [tk_e eb_p0 (by omega)]), by first | (simp only [sp_back, eq_true c_2, if_true, ts_ss, ts_aa, ↓reduceIte]; done) | rfl | (simp [sp_back, eq_true c_2, if_true, ts_ss, ts_aa]; done) | (exfalso; clear hR C; simp_all; done)⟩
set_option maxHeartbeats 4000000 in
set_option maxRecDepth 100000 in
theorem kX8_addCoat (c : tv_c) (s r : ts_T) (k : Nat) (p0 p1 p2 p3 : Int32) (hk : k < 6) (ek : s 7 0 = nI k) : tv_Fi c 19 yX8_addCoat wsX8_addCoat { frames := 0, cells := 0, slots := 0, locals := 0 } [.ref (tv_ad c 0), .int p0, .int p1, .int p2, .int p3] (eM c s r) (s 7 0 + 1 - 1) (eM c (sp_add s k p0 p1 p2 p3) r) := by
  refine tv_metI (by decide +kernel) rfl rfl (Nat.le_of_ble_eq_true rfl) (fun X C hR => ?_)
  show tv_V c 19 X (eM c s r) 0 [(0, .ref (tv_ad c 0)), (1, .int p0), (2, .int p1), (3, .int p2), (4, .int p3)] []
  refine tv_aload_n C dX8_addCoat_0 rfl 0 rfl ?_
  refine tv_get (ci := 8) (Cn := RX8) (T := TX8) (Nf := 35) (v := .ref (tv_ad c 10)) C 0 (by decide) rfl rfl in_X8_addCoat_X8 20 (by decide) lk_X8_addCoat_38 rfl dX8_addCoat_1 ?_
  refine tv_aload_n C dX8_addCoat_4 rfl 0 rfl ?_
  refine tv_get (ci := 8) (Cn := RX8) (T := TX8) (Nf := 35) (v := .int (s 7 0)) C 0 (by decide) rfl rfl in_X8_addCoat_X8 19 (by decide) lk_X8_addCoat_124 rfl dX8_addCoat_5 ?_
  refine tv_iload_n C dX8_addCoat_8 rfl 1 rfl ?_
  refine tv_iast (E' := (eM c (ts_a s 15 (upd (s 15) k p0)) r)) C 10 (by decide) rfl k ek (show k < 6 by omega) (by decide) (eM_u_kind c s r (upd (s 15) k p0)) dX8_addCoat_9 ?_
  refine tv_aload_n C dX8_addCoat_10 rfl 0 rfl ?_
  refine tv_get (ci := 8) (Cn := RX8) (T := TX8) (Nf := 35) (v := .ref (tv_ad c 11)) C 0 (by decide) rfl rfl in_X8_addCoat_X8 21 (by decide) lk_X8_addCoat_41 rfl dX8_addCoat_11 ?_
  refine tv_iconst (v := 3) C dX8_addCoat_14 (by decide) ?_
  refine tv_aload_n C dX8_addCoat_15 rfl 0 rfl ?_
  refine tv_get (ci := 8) (Cn := RX8) (T := TX8) (Nf := 35) (v := .int (s 7 0)) C 0 (by decide) rfl rfl in_X8_addCoat_X8 19 (by decide) lk_X8_addCoat_124 rfl dX8_addCoat_16 ?_
  refine tv_imul C dX8_addCoat_19 ?_
  refine tv_iload_n C dX8_addCoat_20 rfl 2 rfl ?_
  refine tv_iast (E' := (eM c (ts_a (ts_a s 15 (upd (s 15) k p0)) 16 (upd (s 16) (3 * k) p1)) r)) C 11 (by decide) rfl (3 * k) (tn_mul (tn_l 3) ek) (show (3 * k) < 18 by omega) (by decide) (eM_u_bands c (ts_a s 15 (upd (s 15) k p0)) r (upd (s 16) (3 * k) p1)) dX8_addCoat_21 ?_
  refine tv_aload_n C dX8_addCoat_22 rfl 0 rfl ?_
  refine tv_get (ci := 8) (Cn := RX8) (T := TX8) (Nf := 35) (v := .ref (tv_ad c 11)) C 0 (by decide) rfl rfl in_X8_addCoat_X8 21 (by decide) lk_X8_addCoat_41 rfl dX8_addCoat_23 ?_
  refine tv_iconst (v := 3) C dX8_addCoat_26 (by decide) ?_
  refine tv_aload_n C dX8_addCoat_27 rfl 0 rfl ?_
  refine tv_get (ci := 8) (Cn := RX8) (T := TX8) (Nf := 35) (v := .int (s 7 0)) C 0 (by decide) rfl rfl in_X8_addCoat_X8 19 (by decide) lk_X8_addCoat_124 rfl dX8_addCoat_28 ?_
  refine tv_imul C dX8_addCoat_31 ?_
  refine tv_iconst (v := 1) C dX8_addCoat_32 (by decide) ?_
  refine tv_iadd C dX8_addCoat_33 ?_
  refine tv_iload_n C dX8_addCoat_34 rfl 3 rfl ?_
  refine tv_iast (E' := (eM c (ts_a (ts_a s 15 (upd (s 15) k p0)) 16 (upd (upd (s 16) (3 * k) p1) ((3 * k) + 1) p2)) r)) C 11 (by decide) rfl ((3 * k) + 1) (tn_add (tn_mul (tn_l 3) ek) (tn_l 1)) (show ((3 * k) + 1) < 18 by omega) (by decide) ((eM_u_bands c (ts_a (ts_a s 15 (upd (s 15) k p0)) 16 (upd (s 16) (3 * k) p1)) r (upd (upd (s 16) (3 * k) p1) ((3 * k) + 1) p2)).trans (by first | (rw [ts_mg]; done) | (rw [ts_mg]; rfl) | (rw [ts_ss]; done) | (rw [ts_ss]; rfl))) dX8_addCoat_35 ?_
  refine tv_aload_n C dX8_addCoat_36 rfl 0 rfl ?_
  refine tv_get (ci := 8) (Cn := RX8) (T := TX8) (Nf := 35) (v := .ref (tv_ad c 11)) C 0 (by decide) rfl rfl in_X8_addCoat_X8 21 (by decide) lk_X8_addCoat_41 rfl dX8_addCoat_37 ?_
  refine tv_iconst (v := 3) C dX8_addCoat_40 (by decide) ?_
  refine tv_aload_n C dX8_addCoat_41 rfl 0 rfl ?_
  refine tv_get (ci := 8) (Cn := RX8) (T := TX8) (Nf := 35) (v := .int (s 7 0)) C 0 (by decide) rfl rfl in_X8_addCoat_X8 19 (by decide) lk_X8_addCoat_124 rfl dX8_addCoat_42 ?_
  refine tv_imul C dX8_addCoat_45 ?_
  refine tv_iconst (v := 2) C dX8_addCoat_46 (by decide) ?_
  refine tv_iadd C dX8_addCoat_47 ?_
  refine tv_iload C dX8_addCoat_48 4 rfl ?_
  refine tv_iast (E' := (eM c (ts_a (ts_a s 15 (upd (s 15) k p0)) 16 (upd (upd (upd (s 16) (3 * k) p1) ((3 * k) + 1) p2) ((3 * k) + 2) p3)) r)) C 11 (by decide) rfl ((3 * k) + 2) (tn_add (tn_mul (tn_l 3) ek) (tn_l 2)) (show ((3 * k) + 2) < 18 by omega) (by decide) ((eM_u_bands c (ts_a (ts_a s 15 (upd (s 15) k p0)) 16 (upd (upd (s 16) (3 * k) p1) ((3 * k) + 1) p2)) r (upd (upd (upd (s 16) (3 * k) p1) ((3 * k) + 1) p2) ((3 * k) + 2) p3)).trans (by first | (rw [ts_mg]; done) | (rw [ts_mg]; rfl) | (rw [ts_ss]; done) | (rw [ts_ss]; rfl))) dX8_addCoat_50 ?_
  refine tv_aload_n C dX8_addCoat_51 rfl 0 rfl ?_
  refine tv_dup C dX8_addCoat_52 rfl ?_
  refine tv_get (ci := 8) (Cn := RX8) (T := TX8) (Nf := 35) (v := .int (s 7 0)) C 0 (by decide) rfl rfl in_X8_addCoat_X8 19 (by decide) lk_X8_addCoat_124 rfl dX8_addCoat_53 ?_
  refine tv_iconst (v := 1) C dX8_addCoat_56 (by decide) ?_
  refine tv_iadd C dX8_addCoat_57 ?_
  refine tv_put (ci := 8) (Cn := RX8) (T := TX8) (Nf := 35) (ty := .int) (E' := (eM c (ts_s (ts_a (ts_a s 15 (upd (s 15) k p0)) 16 (upd (upd (upd (s 16) (3 * k) p1) ((3 * k) + 1) p2) ((3 * k) + 2) p3)) 7 ((s 7 0) + 1)) r)) C 0 (by decide) rfl rfl in_X8_addCoat_X8 tyX8 tyX8_ok nmX8 19 (by decide) lk_X8_addCoat_124 rfl (by decide +kernel) rfl rfl (Nat.le_of_ble_eq_true rfl) (eM_u_coats c (ts_a (ts_a s 15 (upd (s 15) k p0)) 16 (upd (upd (upd (s 16) (3 * k) p1) ((3 * k) + 1) p2) ((3 * k) + 2) p3)) r ((s 7 0) + 1)) dX8_addCoat_58 ?_
  refine tv_aload_n C dX8_addCoat_61 rfl 0 rfl ?_
  refine tv_get (ci := 8) (Cn := RX8) (T := TX8) (Nf := 35) (v := .int ((s 7 0) + 1)) C 0 (by decide) rfl rfl in_X8_addCoat_X8 19 (by decide) lk_X8_addCoat_124 rfl dX8_addCoat_62 ?_
  refine tv_iconst (v := 1) C dX8_addCoat_65 (by decide) ?_
  refine tv_isub C dX8_addCoat_66 ?_
  exact hR _ _ _ _ dX8_addCoat_67 ⟨by first | (simp only [sp_add, if_true, ↓reduceIte]; done) | rfl | (simp [sp_add, if_true]; done) | (exfalso; clear hR C; simp_all; done), by first | (simp only [sp_add, if_true, ts_ss, ts_aa, ↓reduceIte]; done) | rfl | (simp [sp_add, if_true, ts_ss, ts_aa]; done) | (exfalso; clear hR C; simp_all; done)⟩
set_option maxHeartbeats 4000000 in
set_option maxRecDepth 100000 in
theorem kX8_coat (c : tv_c) (s r : ts_T)  (p0 p1 p2 p3 : Int32) (hI : iv s) : tv_Fi c 19 yX8_coat wsX8_coat { frames := 1, cells := 0, slots := 0, locals := 24 } [.ref (tv_ad c 0), .int p0, .int p1, .int p2, .int p3] (eM c s r) ((sp_coat s p0 p1 p2 p3).1) (eM c (sp_coat s p0 p1 p2 p3).2 r) := by
  refine tv_metI (by decide +kernel) rfl rfl (Nat.le_of_ble_eq_true rfl) (fun X C hR => ?_)
  show tv_V c 19 X (eM c s r) 0 [(0, .ref (tv_ad c 0)), (1, .int p0), (2, .int p1), (3, .int p2), (4, .int p3)] []
  have hC := iv.hC hI
  obtain ⟨h, w, n, nk, nl, ny, nm, li, e2, e3, e9, hnw, hh, hw, hn, hz, hp, e7, hk, e8, hl, e4, hy, e5, hm, e6, hli, hcel, hkin, hban, hwei, hshe⟩ := id hI
  refine tv_iload_n C dX8_coat_0 rfl 1 rfl ?_
  refine tv_iconst (v := 0) C dX8_coat_1 (by decide) ?_
  refine tv_iconst (v := 2) C dX8_coat_2 (by decide) ?_
  refine tv_callis (As := [.int p0, .int 0, .int 2]) (rest := []) C (kX8_within c s r  p0 0 2 ) gX8_coat_X8_within rfl yd_X8_within ⟨rfl, rfl⟩ (by decide) rfl rfl (Nat.le_of_ble_eq_true rfl) dX8_coat_3 (fun q_1 u_1 z_1 => ?_)
  obtain ⟨rfl, rfl⟩ := z_1
  refine tv_if_eq C 40 dX8_coat_6 (by decide) (fun c_2 => ?_) (fun c_2 => ?_)
  · skip
    refine tv_bipush (v := (-2)) C dX8_coat_40 (by decide) ?_
    exact hR _ _ _ _ dX8_coat_42 ⟨by first | (simp only [sp_coat, eq_true c_2, if_true, ↓reduceIte]; done) | rfl | (simp [sp_coat, eq_true c_2, if_true]; done) | (exfalso; clear hR C; simp_all; done), by simp only [sp_coat, eq_true c_2, ↓reduceIte]; try (rw [tk_e e7 (by omega)])⟩
  · skip
    obtain ⟨j_p0, hj_p0, ej_p0, ek_p0⟩ := in_in (b := 2) (by decide) c_2
    refine tv_iload_n C dX8_coat_9 rfl 2 rfl ?_
    refine tv_iconst (v := 0) C dX8_coat_10 (by decide) ?_
    refine tv_bipush (v := 99) C dX8_coat_11 (by decide) ?_
    refine tv_callis (As := [.int p1, .int 0, .int 99]) (rest := []) C (kX8_within c s r  p1 0 99 ) gX8_coat_X8_within rfl yd_X8_within ⟨rfl, rfl⟩ (by decide) rfl rfl (Nat.le_of_ble_eq_true rfl) dX8_coat_13 (fun q_3 u_3 z_3 => ?_)
    obtain ⟨rfl, rfl⟩ := z_3
    refine tv_if_eq C 40 dX8_coat_16 (by decide) (fun c_4 => ?_) (fun c_4 => ?_)
    · skip
      refine tv_bipush (v := (-2)) C dX8_coat_40 (by decide) ?_
      exact hR _ _ _ _ dX8_coat_42 ⟨by first | (simp only [sp_coat, c_2, ek_p0, eq_true c_4, if_true, ↓reduceIte]; done) | rfl | (simp [sp_coat, c_2, ek_p0, eq_true c_4, if_true]; done) | (exfalso; clear hR C; simp_all; done), by simp only [sp_coat, c_2, ek_p0, eq_true c_4, ↓reduceIte]; try (rw [tk_e e7 (by omega)])⟩
    · skip
      obtain ⟨j_p1, hj_p1, ej_p1, ek_p1⟩ := in_in (b := 99) (by decide) c_4
      refine tv_iload_n C dX8_coat_19 rfl 3 rfl ?_
      refine tv_iconst (v := 0) C dX8_coat_20 (by decide) ?_
      refine tv_bipush (v := 99) C dX8_coat_21 (by decide) ?_
      refine tv_callis (As := [.int p2, .int 0, .int 99]) (rest := []) C (kX8_within c s r  p2 0 99 ) gX8_coat_X8_within rfl yd_X8_within ⟨rfl, rfl⟩ (by decide) rfl rfl (Nat.le_of_ble_eq_true rfl) dX8_coat_23 (fun q_5 u_5 z_5 => ?_)
      obtain ⟨rfl, rfl⟩ := z_5
      refine tv_if_eq C 40 dX8_coat_26 (by decide) (fun c_6 => ?_) (fun c_6 => ?_)
      · skip
        refine tv_bipush (v := (-2)) C dX8_coat_40 (by decide) ?_
        exact hR _ _ _ _ dX8_coat_42 ⟨by first | (simp only [sp_coat, c_2, ek_p0, c_4, ek_p1, eq_true c_6, if_true, ↓reduceIte]; done) | rfl | (simp [sp_coat, c_2, ek_p0, c_4, ek_p1, eq_true c_6, if_true]; done) | (exfalso; clear hR C; simp_all; done), by simp only [sp_coat, c_2, ek_p0, c_4, ek_p1, eq_true c_6, ↓reduceIte]; try (rw [tk_e e7 (by omega)])⟩
      · skip
        obtain ⟨j_p2, hj_p2, ej_p2, ek_p2⟩ := in_in (b := 99) (by decide) c_6
        refine tv_iload C dX8_coat_29 4 rfl ?_
        refine tv_iconst (v := 0) C dX8_coat_31 (by decide) ?_
        refine tv_bipush (v := 99) C dX8_coat_32 (by decide) ?_
        refine tv_callis (As := [.int p3, .int 0, .int 99]) (rest := []) C (kX8_within c s r  p3 0 99 ) gX8_coat_X8_within rfl yd_X8_within ⟨rfl, rfl⟩ (by decide) rfl rfl (Nat.le_of_ble_eq_true rfl) dX8_coat_34 (fun q_7 u_7 z_7 => ?_)
        obtain ⟨rfl, rfl⟩ := z_7
        refine tv_if_ne C 43 dX8_coat_37 (by decide) (fun c_8 => ?_) (fun c_8 => ?_)
        · skip
          obtain ⟨j_p3, hj_p3, ej_p3, ek_p3⟩ := in_in (b := 99) (by decide) c_8
          refine tv_aload_n C dX8_coat_43 rfl 0 rfl ?_
          refine tv_calli (As := []) (rest := []) (ci := 8) (cn := RX8) (T := TX8) (Nf := 35) C 0 (kX8_all c s r   hC) gX8_coat_X8_all rfl yd_X8_all ⟨rfl, rfl⟩ (by decide) (by decide) rfl rfl rfl rfl (Nat.le_of_ble_eq_true rfl) dX8_coat_44 (fun q_9 u_9 z_9 => ?_)
          obtain ⟨rfl, rfl⟩ := z_9
          refine tv_if_ne C 53 dX8_coat_47 (by decide) (fun c_10 => ?_) (fun c_10 => ?_)
          · skip
            have nc_10 : ¬ n = 0 := tn_nf (tn_eqI e9 (tn_l 0) (by omega) (by omega)) c_10
            refine tv_aload_n C dX8_coat_53 rfl 0 rfl ?_
            refine tv_get (ci := 8) (Cn := RX8) (T := TX8) (Nf := 35) (v := .int (s 7 0)) C 0 (by decide) rfl rfl in_X8_coat_X8 19 (by decide) lk_X8_coat_124 rfl dX8_coat_54 ?_
            refine tv_bipush (v := 6) C dX8_coat_57 (by decide) ?_
            refine tv_icmp_ne C 67 dX8_coat_59 (by decide) (fun c_11 => ?_) (fun c_11 => ?_)
            · skip
              have nc_11 : ¬ nk = 6 := tn_nf (tn_eqI e7 (tn_l 6) (by omega) (by omega)) c_11
              refine tv_aload_n C dX8_coat_67 rfl 0 rfl ?_
              refine tv_iload_n C dX8_coat_68 rfl 1 rfl ?_
              refine tv_iload_n C dX8_coat_69 rfl 2 rfl ?_
              refine tv_iload_n C dX8_coat_70 rfl 3 rfl ?_
              refine tv_iload C dX8_coat_71 4 rfl ?_
              refine tv_calli (As := [.int p0, .int p1, .int p2, .int p3]) (rest := []) (ci := 8) (cn := RX8) (T := TX8) (Nf := 35) C 0 (kX8_addCoat c s r nk p0 p1 p2 p3 (by omega) e7) gX8_coat_X8_addCoat rfl yd_X8_addCoat ⟨rfl, rfl⟩ (by decide) (by decide) rfl rfl rfl rfl (Nat.le_of_ble_eq_true rfl) dX8_coat_73 (fun q_12 u_12 z_12 => ?_)
              obtain ⟨rfl, rfl⟩ := z_12
              exact hR _ _ _ _ dX8_coat_76 ⟨by first | (simp only [sp_coat, c_2, ek_p0, c_4, ek_p1, c_6, ek_p2, c_8, ek_p3, c_10, nc_10, c_11, nc_11, if_true, ↓reduceIte]; done) | rfl | (simp [sp_coat, c_2, ek_p0, c_4, ek_p1, c_6, ek_p2, c_8, ek_p3, c_10, nc_10, c_11, nc_11, if_true]; done) | (exfalso; clear hR C; simp_all; done), by simp only [sp_coat, c_2, ek_p0, c_4, ek_p1, c_6, ek_p2, c_8, ek_p3, c_10, nc_10, c_11, nc_11, ↓reduceIte]; try (rw [tk_e e7 (by omega)])⟩
            · skip
              have nc_11 : nk = 6 := (tn_eqI e7 (tn_l 6) (by omega) (by omega)).mp c_11
              refine tv_bipush (v := (-4)) C dX8_coat_62 (by decide) ?_
              refine tv_goto C 76 dX8_coat_64 (by decide) ?_
              exact hR _ _ _ _ dX8_coat_76 ⟨by first | (simp only [sp_coat, c_2, ek_p0, c_4, ek_p1, c_6, ek_p2, c_8, ek_p3, c_10, nc_10, eq_true c_11, nc_11, if_true, ↓reduceIte]; done) | rfl | (simp [sp_coat, c_2, ek_p0, c_4, ek_p1, c_6, ek_p2, c_8, ek_p3, c_10, nc_10, eq_true c_11, nc_11, if_true]; done) | (exfalso; clear hR C; simp_all; done), by simp only [sp_coat, c_2, ek_p0, c_4, ek_p1, c_6, ek_p2, c_8, ek_p3, c_10, nc_10, eq_true c_11, nc_11, ↓reduceIte]; try (rw [tk_e e7 (by omega)])⟩
          · skip
            have nc_10 : n = 0 := (tn_eqI e9 (tn_l 0) (by omega) (by omega)).mp c_10
            refine tv_bipush (v := (-3)) C dX8_coat_50 (by decide) ?_
            exact hR _ _ _ _ dX8_coat_52 ⟨by first | (simp only [sp_coat, c_2, ek_p0, c_4, ek_p1, c_6, ek_p2, c_8, ek_p3, eq_true c_10, nc_10, if_true, ↓reduceIte]; done) | rfl | (simp [sp_coat, c_2, ek_p0, c_4, ek_p1, c_6, ek_p2, c_8, ek_p3, eq_true c_10, nc_10, if_true]; done) | (exfalso; clear hR C; simp_all; done), by simp only [sp_coat, c_2, ek_p0, c_4, ek_p1, c_6, ek_p2, c_8, ek_p3, eq_true c_10, nc_10, ↓reduceIte]; try (rw [tk_e e7 (by omega)])⟩
        · skip
          refine tv_bipush (v := (-2)) C dX8_coat_40 (by decide) ?_
          exact hR _ _ _ _ dX8_coat_42 ⟨by first | (simp only [sp_coat, c_2, ek_p0, c_4, ek_p1, c_6, ek_p2, eq_true c_8, if_true, ↓reduceIte]; done) | rfl | (simp [sp_coat, c_2, ek_p0, c_4, ek_p1, c_6, ek_p2, eq_true c_8, if_true]; done) | (exfalso; clear hR C; simp_all; done), by simp only [sp_coat, c_2, ek_p0, c_4, ek_p1, c_6, ek_p2, eq_true c_8, ↓reduceIte]; try (rw [tk_e e7 (by omega)])⟩
set_option maxHeartbeats 4000000 in
set_option maxRecDepth 100000 in
theorem kX8_ofCoat (c : tv_c) (s r : ts_T)  (p0 p1 : Int32) (hI : iv s) : tv_Fi c 19 yX8_ofCoat wsX8_ofCoat { frames := 1, cells := 0, slots := 0, locals := 22 } [.ref (tv_ad c 0), .int p0, .int p1] (eM c s r) (sp_ofCoat s p0 p1) (eM c s r) := by
  refine tv_metI (by decide +kernel) rfl rfl (Nat.le_of_ble_eq_true rfl) (fun X C hR => ?_)
  show tv_V c 19 X (eM c s r) 0 [(0, .ref (tv_ad c 0)), (1, .int p0), (2, .int p1)] []
  have hC := iv.hC hI
  obtain ⟨h, w, n, nk, nl, ny, nm, li, e2, e3, e9, hnw, hh, hw, hn, hz, hp, e7, hk, e8, hl, e4, hy, e5, hm, e6, hli, hcel, hkin, hban, hwei, hshe⟩ := id hI
  refine tv_aload_n C dX8_ofCoat_0 rfl 0 rfl ?_
  refine tv_iload_n C dX8_ofCoat_1 rfl 1 rfl ?_
  refine tv_calli (As := [.int p0]) (rest := []) (ci := 8) (cn := RX8) (T := TX8) (Nf := 35) C 0 (kX8_isCoat c s r  p0 ) gX8_ofCoat_X8_isCoat rfl yd_X8_isCoat ⟨rfl, rfl⟩ (by decide) (by decide) rfl rfl rfl rfl (Nat.le_of_ble_eq_true rfl) dX8_ofCoat_2 (fun q_1 u_1 z_1 => ?_)
  obtain ⟨rfl, rfl⟩ := z_1
  refine tv_if_ne C 10 dX8_ofCoat_5 (by decide) (fun c_2 => ?_) (fun c_2 => ?_)
  · skip
    obtain ⟨j_p0, hj_p0, ej_p0, ek_p0⟩ := in_ix e7 (by omega) c_2
    refine tv_iload_n C dX8_ofCoat_10 rfl 2 rfl ?_
    refine tv_iconst (v := (-1)) C dX8_ofCoat_11 (by decide) ?_
    refine tv_icmp_ne C 24 dX8_ofCoat_12 (by decide) (fun c_3 => ?_) (fun c_3 => ?_)
    · skip
      refine tv_iload_n C dX8_ofCoat_24 rfl 2 rfl ?_
      refine tv_iconst (v := 0) C dX8_ofCoat_25 (by decide) ?_
      refine tv_iconst (v := 2) C dX8_ofCoat_26 (by decide) ?_
      refine tv_callis (As := [.int p1, .int 0, .int 2]) (rest := []) C (kX8_within c s r  p1 0 2 ) gX8_ofCoat_X8_within rfl yd_X8_within ⟨rfl, rfl⟩ (by decide) rfl rfl (Nat.le_of_ble_eq_true rfl) dX8_ofCoat_27 (fun q_4 u_4 z_4 => ?_)
      obtain ⟨rfl, rfl⟩ := z_4
      refine tv_if_eq C 46 dX8_ofCoat_30 (by decide) (fun c_5 => ?_) (fun c_5 => ?_)
      · skip
        refine tv_bipush (v := (-2)) C dX8_ofCoat_46 (by decide) ?_
        exact hR _ _ _ _ dX8_ofCoat_48 ⟨by first | (simp only [sp_ofCoat, c_2, ek_p0, c_3, eq_true c_5, if_true, ↓reduceIte]; done) | rfl | (simp [sp_ofCoat, c_2, ek_p0, c_3, eq_true c_5, if_true]; done) | (exfalso; clear hR C; simp_all; done), by first | (simp only [sp_ofCoat, c_2, ek_p0, c_3, eq_true c_5, if_true, ts_ss, ts_aa, ↓reduceIte]; done) | rfl | (simp [sp_ofCoat, c_2, ek_p0, c_3, eq_true c_5, if_true, ts_ss, ts_aa]; done) | (exfalso; clear hR C; simp_all; done)⟩
      · skip
        obtain ⟨j_p1, hj_p1, ej_p1, ek_p1⟩ := in_in (b := 2) (by decide) c_5
        refine tv_aload_n C dX8_ofCoat_33 rfl 0 rfl ?_
        refine tv_get (ci := 8) (Cn := RX8) (T := TX8) (Nf := 35) (v := .ref (tv_ad c 11)) C 0 (by decide) rfl rfl in_X8_ofCoat_X8 21 (by decide) lk_X8_ofCoat_41 rfl dX8_ofCoat_34 ?_
        refine tv_iconst (v := 3) C dX8_ofCoat_37 (by decide) ?_
        refine tv_iload_n C dX8_ofCoat_38 rfl 1 rfl ?_
        refine tv_imul C dX8_ofCoat_39 ?_
        refine tv_iload_n C dX8_ofCoat_40 rfl 2 rfl ?_
        refine tv_iadd C dX8_ofCoat_41 ?_
        refine tv_iald (f := (s 16)) (v := (s 16 ((3 * j_p0) + j_p1))) C 11 (by decide) rfl ((3 * j_p0) + j_p1) (tn_add (tn_mul (tn_l 3) ej_p0) ej_p1) (show ((3 * j_p0) + j_p1) < 18 by omega) (by decide) rfl dX8_ofCoat_42 ?_
        refine tv_goto C 48 dX8_ofCoat_43 (by decide) ?_
        exact hR _ _ _ _ dX8_ofCoat_48 ⟨by first | (simp only [sp_ofCoat, c_2, ek_p0, c_3, c_5, ek_p1, if_true, ↓reduceIte]; done) | rfl | (simp [sp_ofCoat, c_2, ek_p0, c_3, c_5, ek_p1, if_true]; done) | (exfalso; clear hR C; simp_all; done), by first | (simp only [sp_ofCoat, c_2, ek_p0, c_3, c_5, ek_p1, if_true, ts_ss, ts_aa, ↓reduceIte]; done) | rfl | (simp [sp_ofCoat, c_2, ek_p0, c_3, c_5, ek_p1, if_true, ts_ss, ts_aa]; done) | (exfalso; clear hR C; simp_all; done)⟩
    · skip
      refine tv_aload_n C dX8_ofCoat_15 rfl 0 rfl ?_
      refine tv_get (ci := 8) (Cn := RX8) (T := TX8) (Nf := 35) (v := .ref (tv_ad c 10)) C 0 (by decide) rfl rfl in_X8_ofCoat_X8 20 (by decide) lk_X8_ofCoat_38 rfl dX8_ofCoat_16 ?_
      refine tv_iload_n C dX8_ofCoat_19 rfl 1 rfl ?_
      refine tv_iald (f := (s 15)) (v := (s 15 j_p0)) C 10 (by decide) rfl j_p0 ej_p0 (show j_p0 < 6 by omega) (by decide) rfl dX8_ofCoat_20 ?_
      refine tv_goto C 48 dX8_ofCoat_21 (by decide) ?_
      exact hR _ _ _ _ dX8_ofCoat_48 ⟨by first | (simp only [sp_ofCoat, c_2, ek_p0, eq_true c_3, if_true, ↓reduceIte]; done) | rfl | (simp [sp_ofCoat, c_2, ek_p0, eq_true c_3, if_true]; done) | (exfalso; clear hR C; simp_all; done), by first | (simp only [sp_ofCoat, c_2, ek_p0, eq_true c_3, if_true, ts_ss, ts_aa, ↓reduceIte]; done) | rfl | (simp [sp_ofCoat, c_2, ek_p0, eq_true c_3, if_true, ts_ss, ts_aa]; done) | (exfalso; clear hR C; simp_all; done)⟩
  · skip
    refine tv_iconst (v := (-1)) C dX8_ofCoat_8 (by decide) ?_
    exact hR _ _ _ _ dX8_ofCoat_9 ⟨by first | (simp only [sp_ofCoat, eq_true c_2, if_true, ↓reduceIte]; done) | rfl | (simp [sp_ofCoat, eq_true c_2, if_true]; done) | (exfalso; clear hR C; simp_all; done), by first | (simp only [sp_ofCoat, eq_true c_2, if_true, ts_ss, ts_aa, ↓reduceIte]; done) | rfl | (simp [sp_ofCoat, eq_true c_2, if_true, ts_ss, ts_aa]; done) | (exfalso; clear hR C; simp_all; done)⟩
set_option maxHeartbeats 4000000 in
set_option maxRecDepth 100000 in
theorem kX8_paint (c : tv_c) (s r : ts_T)  (p0 p1 : Int32) (hI : iv s) : tv_Fi c 19 yX8_paint wsX8_paint { frames := 2, cells := 0, slots := 0, locals := 41 } [.ref (tv_ad c 0), .int p0, .int p1] (eM c s r) ((sp_paint s p0 p1).1) (eM c (sp_paint s p0 p1).2 r) := by
  refine tv_metI (by decide +kernel) rfl rfl (Nat.le_of_ble_eq_true rfl) (fun X C hR => ?_)
  show tv_V c 19 X (eM c s r) 0 [(0, .ref (tv_ad c 0)), (1, .int p0), (2, .int p1)] []
  have hC := iv.hC hI
  obtain ⟨h, w, n, nk, nl, ny, nm, li, e2, e3, e9, hnw, hh, hw, hn, hz, hp, e7, hk, e8, hl, e4, hy, e5, hm, e6, hli, hcel, hkin, hban, hwei, hshe⟩ := id hI
  refine tv_aload_n C dX8_paint_0 rfl 0 rfl ?_
  refine tv_iload_n C dX8_paint_1 rfl 1 rfl ?_
  refine tv_calli (As := [.int p0]) (rest := []) (ci := 8) (cn := RX8) (T := TX8) (Nf := 35) C 0 (kX8_isCell c s r  p0 hC) gX8_paint_X8_isCell rfl yd_X8_isCell ⟨rfl, rfl⟩ (by decide) (by decide) rfl rfl rfl rfl (Nat.le_of_ble_eq_true rfl) dX8_paint_2 (fun q_1 u_1 z_1 => ?_)
  obtain ⟨rfl, rfl⟩ := z_1
  refine tv_if_eq C 16 dX8_paint_5 (by decide) (fun c_2 => ?_) (fun c_2 => ?_)
  · skip
    refine tv_iconst (v := (-1)) C dX8_paint_16 (by decide) ?_
    exact hR _ _ _ _ dX8_paint_17 ⟨by first | (simp only [sp_paint, eq_true c_2, if_true, ↓reduceIte]; done) | rfl | (simp [sp_paint, eq_true c_2, if_true]; done) | (exfalso; clear hR C; simp_all; done), by first | (simp only [sp_paint, eq_true c_2, if_true, ts_ss, ts_aa, ↓reduceIte]; done) | rfl | (simp [sp_paint, eq_true c_2, if_true, ts_ss, ts_aa]; done) | (exfalso; clear hR C; simp_all; done)⟩
  · skip
    obtain ⟨j_p0, hj_p0, ej_p0, ek_p0⟩ := in_ix e9 (by omega) c_2
    obtain ⟨fs_p0, ⟨b_p0, hb_p0, eb_p0⟩, fh_p0, fa_p0, fz_p0⟩ := hcel j_p0 hj_p0
    refine tv_aload_n C dX8_paint_8 rfl 0 rfl ?_
    refine tv_iload_n C dX8_paint_9 rfl 2 rfl ?_
    refine tv_calli (As := [.int p1]) (rest := []) (ci := 8) (cn := RX8) (T := TX8) (Nf := 35) C 0 (kX8_isCoat c s r  p1 ) gX8_paint_X8_isCoat rfl yd_X8_isCoat ⟨rfl, rfl⟩ (by decide) (by decide) rfl rfl rfl rfl (Nat.le_of_ble_eq_true rfl) dX8_paint_10 (fun q_3 u_3 z_3 => ?_)
    obtain ⟨rfl, rfl⟩ := z_3
    refine tv_if_ne C 18 dX8_paint_13 (by decide) (fun c_4 => ?_) (fun c_4 => ?_)
    · skip
      obtain ⟨j_p1, hj_p1, ej_p1, ek_p1⟩ := in_ix e7 (by omega) c_4
      refine tv_aload_n C dX8_paint_18 rfl 0 rfl ?_
      refine tv_get (ci := 8) (Cn := RX8) (T := TX8) (Nf := 35) (v := .ref (tv_ad c 5)) C 0 (by decide) rfl rfl in_X8_paint_X8 11 (by decide) lk_X8_paint_22 rfl dX8_paint_19 ?_
      refine tv_iload_n C dX8_paint_22 rfl 1 rfl ?_
      refine tv_iald (f := (s 11)) (v := (s 11 j_p0)) C 5 (by decide) rfl j_p0 ej_p0 (show j_p0 < 24 by omega) (by decide) rfl dX8_paint_23 ?_
      refine tv_istore_n (lv' := [(3, .int (s 11 j_p0)), (0, .ref (tv_ad c 0)), (1, .int p0), (2, .int p1)]) C dX8_paint_24 rfl (by decide) rfl ?_
      refine tv_aload_n C dX8_paint_25 rfl 1 rfl ?_
      refine tv_get (ci := 8) (Cn := RX8) (T := TX8) (Nf := 35) (v := .ref (tv_ad c 5)) C 0 (by decide) rfl rfl in_X8_paint_X8 11 (by decide) lk_X8_paint_22 rfl dX8_paint_26 ?_
      refine tv_iload_n C dX8_paint_29 rfl 2 rfl ?_
      refine tv_iload_n C dX8_paint_30 rfl 3 rfl ?_
      refine tv_iast (E' := (eM c (ts_a s 11 (upd (s 11) j_p0 p1)) r)) C 5 (by decide) rfl j_p0 ej_p0 (show j_p0 < 24 by omega) (by decide) (eM_u_coatOf c s r (upd (s 11) j_p0 p1)) dX8_paint_31 ?_
      refine tv_aload_n C dX8_paint_32 rfl 1 rfl ?_
      refine tv_get (ci := 8) (Cn := RX8) (T := TX8) (Nf := 35) (v := .ref (tv_ad c 6)) C 0 (by decide) rfl rfl in_X8_paint_X8 12 (by decide) lk_X8_paint_25 rfl dX8_paint_33 ?_
      refine tv_iload_n C dX8_paint_36 rfl 2 rfl ?_
      refine tv_iconst (v := 0) C dX8_paint_37 (by decide) ?_
      refine tv_iast (E' := (eM c (ts_a (ts_a s 11 (upd (s 11) j_p0 p1)) 12 (upd (s 12) j_p0 0)) r)) C 6 (by decide) rfl j_p0 ej_p0 (show j_p0 < 24 by omega) (by decide) (eM_u_had c (ts_a s 11 (upd (s 11) j_p0 p1)) r (upd (s 12) j_p0 0)) dX8_paint_38 ?_
      refine tv_aload_n C dX8_paint_39 rfl 1 rfl ?_
      refine tv_get (ci := 8) (Cn := RX8) (T := TX8) (Nf := 35) (v := .ref (tv_ad c 7)) C 0 (by decide) rfl rfl in_X8_paint_X8 13 (by decide) lk_X8_paint_28 rfl dX8_paint_40 ?_
      refine tv_iload_n C dX8_paint_43 rfl 2 rfl ?_
      refine tv_iconst (v := 0) C dX8_paint_44 (by decide) ?_
      refine tv_iast (E' := (eM c (ts_a (ts_a (ts_a s 11 (upd (s 11) j_p0 p1)) 12 (upd (s 12) j_p0 0)) 13 (upd (s 13) j_p0 0)) r)) C 7 (by decide) rfl j_p0 ej_p0 (show j_p0 < 24 by omega) (by decide) (eM_u_air c (ts_a (ts_a s 11 (upd (s 11) j_p0 p1)) 12 (upd (s 12) j_p0 0)) r (upd (s 13) j_p0 0)) dX8_paint_45 ?_
      refine tv_iload_n C dX8_paint_46 rfl 0 rfl ?_
      exact hR _ _ _ _ dX8_paint_47 ⟨by first | (simp only [sp_paint, c_2, ek_p0, c_4, ek_p1, if_true, ↓reduceIte]; done) | rfl | (simp [sp_paint, c_2, ek_p0, c_4, ek_p1, if_true]; done) | (exfalso; clear hR C; simp_all; done), by first | (simp only [sp_paint, c_2, ek_p0, c_4, ek_p1, if_true, ts_ss, ts_aa, ↓reduceIte]; done) | rfl | (simp [sp_paint, c_2, ek_p0, c_4, ek_p1, if_true, ts_ss, ts_aa]; done) | (exfalso; clear hR C; simp_all; done)⟩
    · skip
      refine tv_iconst (v := (-1)) C dX8_paint_16 (by decide) ?_
      exact hR _ _ _ _ dX8_paint_17 ⟨by first | (simp only [sp_paint, c_2, ek_p0, eq_true c_4, if_true, ↓reduceIte]; done) | rfl | (simp [sp_paint, c_2, ek_p0, eq_true c_4, if_true]; done) | (exfalso; clear hR C; simp_all; done), by first | (simp only [sp_paint, c_2, ek_p0, eq_true c_4, if_true, ts_ss, ts_aa, ↓reduceIte]; done) | rfl | (simp [sp_paint, c_2, ek_p0, eq_true c_4, if_true, ts_ss, ts_aa]; done) | (exfalso; clear hR C; simp_all; done)⟩
set_option maxHeartbeats 4000000 in
set_option maxRecDepth 100000 in
theorem kX8_light (c : tv_c) (s r : ts_T)  (p0 p1 p2 : Int32) (hI : iv s) : tv_Fi c 19 yX8_light wsX8_light { frames := 1, cells := 0, slots := 0, locals := 22 } [.ref (tv_ad c 0), .int p0, .int p1, .int p2] (eM c s r) ((sp_light s p0 p1 p2).1) (eM c (sp_light s p0 p1 p2).2 r) := by
  refine tv_metI (by decide +kernel) rfl rfl (Nat.le_of_ble_eq_true rfl) (fun X C hR => ?_)
  show tv_V c 19 X (eM c s r) 0 [(0, .ref (tv_ad c 0)), (1, .int p0), (2, .int p1), (3, .int p2)] []
  have hC := iv.hC hI
  obtain ⟨h, w, n, nk, nl, ny, nm, li, e2, e3, e9, hnw, hh, hw, hn, hz, hp, e7, hk, e8, hl, e4, hy, e5, hm, e6, hli, hcel, hkin, hban, hwei, hshe⟩ := id hI
  refine tv_iload_n C dX8_light_0 rfl 1 rfl ?_
  refine tv_iconst (v := 0) C dX8_light_1 (by decide) ?_
  refine tv_bipush (v := 9) C dX8_light_2 (by decide) ?_
  refine tv_callis (As := [.int p0, .int 0, .int 9]) (rest := []) C (kX8_within c s r  p0 0 9 ) gX8_light_X8_within rfl yd_X8_within ⟨rfl, rfl⟩ (by decide) rfl rfl (Nat.le_of_ble_eq_true rfl) dX8_light_4 (fun q_1 u_1 z_1 => ?_)
  obtain ⟨rfl, rfl⟩ := z_1
  refine tv_if_eq C 30 dX8_light_7 (by decide) (fun c_2 => ?_) (fun c_2 => ?_)
  · skip
    refine tv_bipush (v := (-2)) C dX8_light_30 (by decide) ?_
    exact hR _ _ _ _ dX8_light_32 ⟨by first | (simp only [sp_light, eq_true c_2, if_true, ↓reduceIte]; done) | rfl | (simp [sp_light, eq_true c_2, if_true]; done) | (exfalso; clear hR C; simp_all; done), by simp only [sp_light, eq_true c_2, ↓reduceIte]; try (rw [tk_e e8 (by omega)])⟩
  · skip
    obtain ⟨j_p0, hj_p0, ej_p0, ek_p0⟩ := in_in (b := 9) (by decide) c_2
    refine tv_iload_n C dX8_light_10 rfl 2 rfl ?_
    refine tv_iconst (v := 0) C dX8_light_11 (by decide) ?_
    refine tv_bipush (v := 9) C dX8_light_12 (by decide) ?_
    refine tv_callis (As := [.int p1, .int 0, .int 9]) (rest := []) C (kX8_within c s r  p1 0 9 ) gX8_light_X8_within rfl yd_X8_within ⟨rfl, rfl⟩ (by decide) rfl rfl (Nat.le_of_ble_eq_true rfl) dX8_light_14 (fun q_3 u_3 z_3 => ?_)
    obtain ⟨rfl, rfl⟩ := z_3
    refine tv_if_eq C 30 dX8_light_17 (by decide) (fun c_4 => ?_) (fun c_4 => ?_)
    · skip
      refine tv_bipush (v := (-2)) C dX8_light_30 (by decide) ?_
      exact hR _ _ _ _ dX8_light_32 ⟨by first | (simp only [sp_light, c_2, ek_p0, eq_true c_4, if_true, ↓reduceIte]; done) | rfl | (simp [sp_light, c_2, ek_p0, eq_true c_4, if_true]; done) | (exfalso; clear hR C; simp_all; done), by simp only [sp_light, c_2, ek_p0, eq_true c_4, ↓reduceIte]; try (rw [tk_e e8 (by omega)])⟩
    · skip
      obtain ⟨j_p1, hj_p1, ej_p1, ek_p1⟩ := in_in (b := 9) (by decide) c_4
      refine tv_iload_n C dX8_light_20 rfl 3 rfl ?_
      refine tv_iconst (v := 0) C dX8_light_21 (by decide) ?_
      refine tv_bipush (v := 9) C dX8_light_22 (by decide) ?_
      refine tv_callis (As := [.int p2, .int 0, .int 9]) (rest := []) C (kX8_within c s r  p2 0 9 ) gX8_light_X8_within rfl yd_X8_within ⟨rfl, rfl⟩ (by decide) rfl rfl (Nat.le_of_ble_eq_true rfl) dX8_light_24 (fun q_5 u_5 z_5 => ?_)
      obtain ⟨rfl, rfl⟩ := z_5
      refine tv_if_ne C 33 dX8_light_27 (by decide) (fun c_6 => ?_) (fun c_6 => ?_)
      · skip
        obtain ⟨j_p2, hj_p2, ej_p2, ek_p2⟩ := in_in (b := 9) (by decide) c_6
        refine tv_aload_n C dX8_light_33 rfl 0 rfl ?_
        refine tv_calli (As := []) (rest := []) (ci := 8) (cn := RX8) (T := TX8) (Nf := 35) C 0 (kX8_all c s r   hC) gX8_light_X8_all rfl yd_X8_all ⟨rfl, rfl⟩ (by decide) (by decide) rfl rfl rfl rfl (Nat.le_of_ble_eq_true rfl) dX8_light_34 (fun q_7 u_7 z_7 => ?_)
        obtain ⟨rfl, rfl⟩ := z_7
        refine tv_if_ne C 43 dX8_light_37 (by decide) (fun c_8 => ?_) (fun c_8 => ?_)
        · skip
          have nc_8 : ¬ n = 0 := tn_nf (tn_eqI e9 (tn_l 0) (by omega) (by omega)) c_8
          refine tv_aload_n C dX8_light_43 rfl 0 rfl ?_
          refine tv_get (ci := 8) (Cn := RX8) (T := TX8) (Nf := 35) (v := .int (s 8 0)) C 0 (by decide) rfl rfl in_X8_light_X8 22 (by decide) lk_X8_light_121 rfl dX8_light_44 ?_
          refine tv_iconst (v := 4) C dX8_light_47 (by decide) ?_
          refine tv_icmp_ne C 54 dX8_light_48 (by decide) (fun c_9 => ?_) (fun c_9 => ?_)
          · skip
            have nc_9 : ¬ nl = 4 := tn_nf (tn_eqI e8 (tn_l 4) (by omega) (by omega)) c_9
            refine tv_aload_n C dX8_light_54 rfl 0 rfl ?_
            refine tv_get (ci := 8) (Cn := RX8) (T := TX8) (Nf := 35) (v := .ref (tv_ad c 12)) C 0 (by decide) rfl rfl in_X8_light_X8 23 (by decide) lk_X8_light_44 rfl dX8_light_55 ?_
            refine tv_iconst (v := 3) C dX8_light_58 (by decide) ?_
            refine tv_aload_n C dX8_light_59 rfl 0 rfl ?_
            refine tv_get (ci := 8) (Cn := RX8) (T := TX8) (Nf := 35) (v := .int (s 8 0)) C 0 (by decide) rfl rfl in_X8_light_X8 22 (by decide) lk_X8_light_121 rfl dX8_light_60 ?_
            refine tv_imul C dX8_light_63 ?_
            refine tv_iload_n C dX8_light_64 rfl 1 rfl ?_
            refine tv_iast (E' := (eM c (ts_a s 17 (upd (s 17) (3 * nl) p0)) r)) C 12 (by decide) rfl (3 * nl) (tn_mul (tn_l 3) e8) (show (3 * nl) < 12 by omega) (by decide) (eM_u_weights c s r (upd (s 17) (3 * nl) p0)) dX8_light_65 ?_
            refine tv_aload_n C dX8_light_66 rfl 0 rfl ?_
            refine tv_get (ci := 8) (Cn := RX8) (T := TX8) (Nf := 35) (v := .ref (tv_ad c 12)) C 0 (by decide) rfl rfl in_X8_light_X8 23 (by decide) lk_X8_light_44 rfl dX8_light_67 ?_
            refine tv_iconst (v := 3) C dX8_light_70 (by decide) ?_
            refine tv_aload_n C dX8_light_71 rfl 0 rfl ?_
            refine tv_get (ci := 8) (Cn := RX8) (T := TX8) (Nf := 35) (v := .int (s 8 0)) C 0 (by decide) rfl rfl in_X8_light_X8 22 (by decide) lk_X8_light_121 rfl dX8_light_72 ?_
            refine tv_imul C dX8_light_75 ?_
            refine tv_iconst (v := 1) C dX8_light_76 (by decide) ?_
            refine tv_iadd C dX8_light_77 ?_
            refine tv_iload_n C dX8_light_78 rfl 2 rfl ?_
            refine tv_iast (E' := (eM c (ts_a s 17 (upd (upd (s 17) (3 * nl) p0) ((3 * nl) + 1) p1)) r)) C 12 (by decide) rfl ((3 * nl) + 1) (tn_add (tn_mul (tn_l 3) e8) (tn_l 1)) (show ((3 * nl) + 1) < 12 by omega) (by decide) ((eM_u_weights c (ts_a s 17 (upd (s 17) (3 * nl) p0)) r (upd (upd (s 17) (3 * nl) p0) ((3 * nl) + 1) p1)).trans (by first | (rw [ts_mg]; done) | (rw [ts_mg]; rfl) | (rw [ts_ss]; done) | (rw [ts_ss]; rfl))) dX8_light_79 ?_
            refine tv_aload_n C dX8_light_80 rfl 0 rfl ?_
            refine tv_get (ci := 8) (Cn := RX8) (T := TX8) (Nf := 35) (v := .ref (tv_ad c 12)) C 0 (by decide) rfl rfl in_X8_light_X8 23 (by decide) lk_X8_light_44 rfl dX8_light_81 ?_
            refine tv_iconst (v := 3) C dX8_light_84 (by decide) ?_
            refine tv_aload_n C dX8_light_85 rfl 0 rfl ?_
            refine tv_get (ci := 8) (Cn := RX8) (T := TX8) (Nf := 35) (v := .int (s 8 0)) C 0 (by decide) rfl rfl in_X8_light_X8 22 (by decide) lk_X8_light_121 rfl dX8_light_86 ?_
            refine tv_imul C dX8_light_89 ?_
            refine tv_iconst (v := 2) C dX8_light_90 (by decide) ?_
            refine tv_iadd C dX8_light_91 ?_
            refine tv_iload_n C dX8_light_92 rfl 3 rfl ?_
            refine tv_iast (E' := (eM c (ts_a s 17 (upd (upd (upd (s 17) (3 * nl) p0) ((3 * nl) + 1) p1) ((3 * nl) + 2) p2)) r)) C 12 (by decide) rfl ((3 * nl) + 2) (tn_add (tn_mul (tn_l 3) e8) (tn_l 2)) (show ((3 * nl) + 2) < 12 by omega) (by decide) ((eM_u_weights c (ts_a s 17 (upd (upd (s 17) (3 * nl) p0) ((3 * nl) + 1) p1)) r (upd (upd (upd (s 17) (3 * nl) p0) ((3 * nl) + 1) p1) ((3 * nl) + 2) p2)).trans (by first | (rw [ts_mg]; done) | (rw [ts_mg]; rfl) | (rw [ts_ss]; done) | (rw [ts_ss]; rfl))) dX8_light_93 ?_
            refine tv_aload_n C dX8_light_94 rfl 0 rfl ?_
            refine tv_dup C dX8_light_95 rfl ?_
            refine tv_get (ci := 8) (Cn := RX8) (T := TX8) (Nf := 35) (v := .int (s 8 0)) C 0 (by decide) rfl rfl in_X8_light_X8 22 (by decide) lk_X8_light_121 rfl dX8_light_96 ?_
            refine tv_iconst (v := 1) C dX8_light_99 (by decide) ?_
            refine tv_iadd C dX8_light_100 ?_
            refine tv_put (ci := 8) (Cn := RX8) (T := TX8) (Nf := 35) (ty := .int) (E' := (eM c (ts_s (ts_a s 17 (upd (upd (upd (s 17) (3 * nl) p0) ((3 * nl) + 1) p1) ((3 * nl) + 2) p2)) 8 ((s 8 0) + 1)) r)) C 0 (by decide) rfl rfl in_X8_light_X8 tyX8 tyX8_ok nmX8 22 (by decide) lk_X8_light_121 rfl (by decide +kernel) rfl rfl (Nat.le_of_ble_eq_true rfl) (eM_u_lights c (ts_a s 17 (upd (upd (upd (s 17) (3 * nl) p0) ((3 * nl) + 1) p1) ((3 * nl) + 2) p2)) r ((s 8 0) + 1)) dX8_light_101 ?_
            refine tv_aload_n C dX8_light_104 rfl 0 rfl ?_
            refine tv_get (ci := 8) (Cn := RX8) (T := TX8) (Nf := 35) (v := .int ((s 8 0) + 1)) C 0 (by decide) rfl rfl in_X8_light_X8 22 (by decide) lk_X8_light_121 rfl dX8_light_105 ?_
            refine tv_iconst (v := 1) C dX8_light_108 (by decide) ?_
            refine tv_isub C dX8_light_109 ?_
            exact hR _ _ _ _ dX8_light_110 ⟨by first | (simp only [sp_light, c_2, ek_p0, c_4, ek_p1, c_6, ek_p2, c_8, nc_8, c_9, nc_9, if_true, ↓reduceIte]; done) | rfl | (simp [sp_light, c_2, ek_p0, c_4, ek_p1, c_6, ek_p2, c_8, nc_8, c_9, nc_9, if_true]; done) | (exfalso; clear hR C; simp_all; done), by simp only [sp_light, c_2, ek_p0, c_4, ek_p1, c_6, ek_p2, c_8, nc_8, c_9, nc_9, ↓reduceIte]; try (rw [tk_e e8 (by omega)])⟩
          · skip
            have nc_9 : nl = 4 := (tn_eqI e8 (tn_l 4) (by omega) (by omega)).mp c_9
            refine tv_bipush (v := (-4)) C dX8_light_51 (by decide) ?_
            exact hR _ _ _ _ dX8_light_53 ⟨by first | (simp only [sp_light, c_2, ek_p0, c_4, ek_p1, c_6, ek_p2, c_8, nc_8, eq_true c_9, nc_9, if_true, ↓reduceIte]; done) | rfl | (simp [sp_light, c_2, ek_p0, c_4, ek_p1, c_6, ek_p2, c_8, nc_8, eq_true c_9, nc_9, if_true]; done) | (exfalso; clear hR C; simp_all; done), by simp only [sp_light, c_2, ek_p0, c_4, ek_p1, c_6, ek_p2, c_8, nc_8, eq_true c_9, nc_9, ↓reduceIte]; try (rw [tk_e e8 (by omega)])⟩
        · skip
          have nc_8 : n = 0 := (tn_eqI e9 (tn_l 0) (by omega) (by omega)).mp c_8
          refine tv_bipush (v := (-3)) C dX8_light_40 (by decide) ?_
          exact hR _ _ _ _ dX8_light_42 ⟨by first | (simp only [sp_light, c_2, ek_p0, c_4, ek_p1, c_6, ek_p2, eq_true c_8, nc_8, if_true, ↓reduceIte]; done) | rfl | (simp [sp_light, c_2, ek_p0, c_4, ek_p1, c_6, ek_p2, eq_true c_8, nc_8, if_true]; done) | (exfalso; clear hR C; simp_all; done), by simp only [sp_light, c_2, ek_p0, c_4, ek_p1, c_6, ek_p2, eq_true c_8, nc_8, ↓reduceIte]; try (rw [tk_e e8 (by omega)])⟩
      · skip
        refine tv_bipush (v := (-2)) C dX8_light_30 (by decide) ?_
        exact hR _ _ _ _ dX8_light_32 ⟨by first | (simp only [sp_light, c_2, ek_p0, c_4, ek_p1, eq_true c_6, if_true, ↓reduceIte]; done) | rfl | (simp [sp_light, c_2, ek_p0, c_4, ek_p1, eq_true c_6, if_true]; done) | (exfalso; clear hR C; simp_all; done), by simp only [sp_light, c_2, ek_p0, c_4, ek_p1, eq_true c_6, ↓reduceIte]; try (rw [tk_e e8 (by omega)])⟩
set_option maxHeartbeats 4000000 in
set_option maxRecDepth 100000 in
theorem kX8_freshUnlike (c : tv_c) (s r : ts_T)  (k : Nat) (j : Nat) (l : Nat) (p0 p1 p2 : Int32) (e_p0 : p0 = nI k) (h_p0 : k < 6) (e_p1 : p1 = nI j) (h_p1 : j < 6) (e_p2 : p2 = nI l) (h_p2 : l < 4) : tv_Fi c 19 yX8_freshUnlike wsX8_freshUnlike { frames := 3, cells := 0, slots := 0, locals := 80 } [.ref (tv_ad c 0), .int p0, .int p1, .int p2] (eM c s r) (sp_fu s k j l) (eM c s r) := by
  refine tv_metI (by decide +kernel) rfl rfl (Nat.le_of_ble_eq_true rfl) (fun X C hR => ?_)
  show tv_V c 19 X (eM c s r) 0 [(0, .ref (tv_ad c 0)), (1, .int p0), (2, .int p1), (3, .int p2)] []
  refine tv_aload_n C dX8_freshUnlike_0 rfl 0 rfl ?_
  refine tv_iload_n C dX8_freshUnlike_1 rfl 1 rfl ?_
  refine tv_iconst (v := 0) C dX8_freshUnlike_2 (by decide) ?_
  refine tv_iconst (v := 0) C dX8_freshUnlike_3 (by decide) ?_
  refine tv_iload_n C dX8_freshUnlike_4 rfl 3 rfl ?_
  refine tv_iconst (v := 0) C dX8_freshUnlike_5 (by decide) ?_
  refine tv_calli (As := [.int p0, .int 0, .int 0, .int p2, .int 0]) (rest := []) (ci := 8) (cn := RX8) (T := TX8) (Nf := 35) C 0 (kX8_lookOf c s r k l p0 0 0 p2 0 e_p0 (by omega) e_p2 (by omega)) gX8_freshUnlike_X8_lookOf rfl yd_X8_lookOf ⟨rfl, rfl⟩ (by decide) (by decide) rfl rfl rfl rfl (Nat.le_of_ble_eq_true rfl) dX8_freshUnlike_6 (fun q_1 u_1 z_1 => ?_)
  obtain ⟨rfl, rfl⟩ := z_1
  refine tv_aload_n C dX8_freshUnlike_9 rfl 0 rfl ?_
  refine tv_iload_n C dX8_freshUnlike_10 rfl 2 rfl ?_
  refine tv_iconst (v := 0) C dX8_freshUnlike_11 (by decide) ?_
  refine tv_iconst (v := 0) C dX8_freshUnlike_12 (by decide) ?_
  refine tv_iload_n C dX8_freshUnlike_13 rfl 3 rfl ?_
  refine tv_iconst (v := 0) C dX8_freshUnlike_14 (by decide) ?_
  refine tv_calli (As := [.int p1, .int 0, .int 0, .int p2, .int 0]) (rest := [.int (sp_lk s k 0 0 l 0)]) (ci := 8) (cn := RX8) (T := TX8) (Nf := 35) C 0 (kX8_lookOf c s r j l p1 0 0 p2 0 e_p1 (by omega) e_p2 (by omega)) gX8_freshUnlike_X8_lookOf rfl yd_X8_lookOf ⟨rfl, rfl⟩ (by decide) (by decide) rfl rfl rfl rfl (Nat.le_of_ble_eq_true rfl) dX8_freshUnlike_15 (fun q_2 u_2 z_2 => ?_)
  obtain ⟨rfl, rfl⟩ := z_2
  refine tv_isub C dX8_freshUnlike_18 ?_
  refine tv_callis (As := [.int ((sp_lk s k 0 0 l 0) - (sp_lk s j 0 0 l 0))]) (rest := []) C (kX8_size c s r  ((sp_lk s k 0 0 l 0) - (sp_lk s j 0 0 l 0)) ) gX8_freshUnlike_X8_size rfl yd_X8_size ⟨rfl, rfl⟩ (by decide) rfl rfl (Nat.le_of_ble_eq_true rfl) dX8_freshUnlike_19 (fun q_3 u_3 z_3 => ?_)
  obtain ⟨rfl, rfl⟩ := z_3
  exact hR _ _ _ _ dX8_freshUnlike_22 ⟨by first | (simp only [sp_fu, if_true, ↓reduceIte]; done) | rfl | (simp [sp_fu, if_true]; done) | (exfalso; clear hR C; simp_all; done), by first | (simp only [sp_fu, if_true, ts_ss, ts_aa, ↓reduceIte]; done) | rfl | (simp [sp_fu, if_true, ts_ss, ts_aa]; done) | (exfalso; clear hR C; simp_all; done)⟩
set_option maxHeartbeats 4000000 in
set_option maxRecDepth 100000 in
theorem kX8_on (c : tv_c) (s r : ts_T)  (p0 p1 p2 : Int32) (hI : iv s) : tv_Fi c 19 yX8_on wsX8_on { frames := 3, cells := 0, slots := 0, locals := 80 } [.ref (tv_ad c 0), .int p0, .int p1, .int p2] (eM c s r) (sp_on s p0 p1 p2) (eM c s r) := by
  refine tv_metI (by decide +kernel) rfl rfl (Nat.le_of_ble_eq_true rfl) (fun X C hR => ?_)
  show tv_V c 19 X (eM c s r) 0 [(0, .ref (tv_ad c 0)), (1, .int p0), (2, .int p1), (3, .int p2)] []
  have hC := iv.hC hI
  obtain ⟨h, w, n, nk, nl, ny, nm, li, e2, e3, e9, hnw, hh, hw, hn, hz, hp, e7, hk, e8, hl, e4, hy, e5, hm, e6, hli, hcel, hkin, hban, hwei, hshe⟩ := id hI
  refine tv_aload_n C dX8_on_0 rfl 0 rfl ?_
  refine tv_iload_n C dX8_on_1 rfl 1 rfl ?_
  refine tv_calli (As := [.int p0]) (rest := []) (ci := 8) (cn := RX8) (T := TX8) (Nf := 35) C 0 (kX8_isCell c s r  p0 hC) gX8_on_X8_isCell rfl yd_X8_isCell ⟨rfl, rfl⟩ (by decide) (by decide) rfl rfl rfl rfl (Nat.le_of_ble_eq_true rfl) dX8_on_2 (fun q_1 u_1 z_1 => ?_)
  obtain ⟨rfl, rfl⟩ := z_1
  refine tv_if_eq C 16 dX8_on_5 (by decide) (fun c_2 => ?_) (fun c_2 => ?_)
  · skip
    refine tv_iconst (v := (-1)) C dX8_on_16 (by decide) ?_
    exact hR _ _ _ _ dX8_on_17 ⟨by simp only [sp_on, eq_true c_2, ↓reduceIte]; try (rw [tk_e eb_p0 (by omega)]), by first | (simp only [sp_on, eq_true c_2, if_true, ts_ss, ts_aa, ↓reduceIte]; done) | rfl | (simp [sp_on, eq_true c_2, if_true, ts_ss, ts_aa]; done) | (exfalso; clear hR C; simp_all; done)⟩
  · skip
    obtain ⟨j_p0, hj_p0, ej_p0, ek_p0⟩ := in_ix e9 (by omega) c_2
    obtain ⟨fs_p0, ⟨b_p0, hb_p0, eb_p0⟩, fh_p0, fa_p0, fz_p0⟩ := hcel j_p0 hj_p0
    refine tv_aload_n C dX8_on_8 rfl 0 rfl ?_
    refine tv_iload_n C dX8_on_9 rfl 2 rfl ?_
    refine tv_calli (As := [.int p1]) (rest := []) (ci := 8) (cn := RX8) (T := TX8) (Nf := 35) C 0 (kX8_isLight c s r  p1 ) gX8_on_X8_isLight rfl yd_X8_isLight ⟨rfl, rfl⟩ (by decide) (by decide) rfl rfl rfl rfl (Nat.le_of_ble_eq_true rfl) dX8_on_10 (fun q_3 u_3 z_3 => ?_)
    obtain ⟨rfl, rfl⟩ := z_3
    refine tv_if_ne C 18 dX8_on_13 (by decide) (fun c_4 => ?_) (fun c_4 => ?_)
    · skip
      obtain ⟨j_p1, hj_p1, ej_p1, ek_p1⟩ := in_ix e8 (by omega) c_4
      refine tv_iload_n C dX8_on_18 rfl 3 rfl ?_
      refine tv_iconst (v := 0) C dX8_on_19 (by decide) ?_
      refine tv_bipush (v := 40) C dX8_on_20 (by decide) ?_
      refine tv_callis (As := [.int p2, .int 0, .int 40]) (rest := []) C (kX8_within c s r  p2 0 40 ) gX8_on_X8_within rfl yd_X8_within ⟨rfl, rfl⟩ (by decide) rfl rfl (Nat.le_of_ble_eq_true rfl) dX8_on_22 (fun q_5 u_5 z_5 => ?_)
      obtain ⟨rfl, rfl⟩ := z_5
      refine tv_if_ne C 31 dX8_on_25 (by decide) (fun c_6 => ?_) (fun c_6 => ?_)
      · skip
        obtain ⟨j_p2, hj_p2, ej_p2, ek_p2⟩ := in_in (b := 40) (by decide) c_6
        refine tv_aload_n C dX8_on_31 rfl 0 rfl ?_
        refine tv_get (ci := 8) (Cn := RX8) (T := TX8) (Nf := 35) (v := .ref (tv_ad c 8)) C 0 (by decide) rfl rfl in_X8_on_X8 14 (by decide) lk_X8_on_31 rfl dX8_on_32 ?_
        refine tv_iload_n C dX8_on_35 rfl 1 rfl ?_
        refine tv_zald (f := (s 14)) (v := (s 14 j_p0)) C 8 (by decide) rfl j_p0 ej_p0 (show j_p0 < 24 by omega) (by decide) rfl dX8_on_36 ?_
        refine tv_if_eq C 44 dX8_on_37 (by decide) (fun c_7 => ?_) (fun c_7 => ?_)
        · skip
          refine tv_iload_n C dX8_on_44 rfl 3 rfl ?_
          refine tv_istore (lv' := [(4, .int p2), (0, .ref (tv_ad c 0)), (1, .int p0), (2, .int p1), (3, .int p2)]) C dX8_on_45 (by decide) rfl ?_
          refine tv_aload_n C dX8_on_47 rfl 1 rfl ?_
          refine tv_aload_n C dX8_on_48 rfl 1 rfl ?_
          refine tv_get (ci := 8) (Cn := RX8) (T := TX8) (Nf := 35) (v := .ref (tv_ad c 5)) C 0 (by decide) rfl rfl in_X8_on_X8 11 (by decide) lk_X8_on_22 rfl dX8_on_49 ?_
          refine tv_iload_n C dX8_on_52 rfl 2 rfl ?_
          refine tv_iald (f := (s 11)) (v := (s 11 j_p0)) C 5 (by decide) rfl j_p0 ej_p0 (show j_p0 < 24 by omega) (by decide) rfl dX8_on_53 ?_
          refine tv_aload_n C dX8_on_54 rfl 1 rfl ?_
          refine tv_get (ci := 8) (Cn := RX8) (T := TX8) (Nf := 35) (v := .ref (tv_ad c 6)) C 0 (by decide) rfl rfl in_X8_on_X8 12 (by decide) lk_X8_on_25 rfl dX8_on_55 ?_
          refine tv_iload_n C dX8_on_58 rfl 2 rfl ?_
          refine tv_iald (f := (s 12)) (v := (s 12 j_p0)) C 6 (by decide) rfl j_p0 ej_p0 (show j_p0 < 24 by omega) (by decide) rfl dX8_on_59 ?_
          refine tv_iload C dX8_on_60 0 rfl ?_
          refine tv_aload_n C dX8_on_62 rfl 1 rfl ?_
          refine tv_get (ci := 8) (Cn := RX8) (T := TX8) (Nf := 35) (v := .ref (tv_ad c 4)) C 0 (by decide) rfl rfl in_X8_on_X8 10 (by decide) lk_X8_on_19 rfl dX8_on_63 ?_
          refine tv_iload_n C dX8_on_66 rfl 2 rfl ?_
          refine tv_iald (f := (s 10)) (v := (s 10 j_p0)) C 4 (by decide) rfl j_p0 ej_p0 (show j_p0 < 24 by omega) (by decide) rfl dX8_on_67 ?_
          refine tv_imul C dX8_on_68 ?_
          refine tv_iadd C dX8_on_69 ?_
          refine tv_aload_n C dX8_on_70 rfl 1 rfl ?_
          refine tv_get (ci := 8) (Cn := RX8) (T := TX8) (Nf := 35) (v := .ref (tv_ad c 7)) C 0 (by decide) rfl rfl in_X8_on_X8 13 (by decide) lk_X8_on_28 rfl dX8_on_71 ?_
          refine tv_iload_n C dX8_on_74 rfl 2 rfl ?_
          refine tv_iald (f := (s 13)) (v := (s 13 j_p0)) C 7 (by decide) rfl j_p0 ej_p0 (show j_p0 < 24 by omega) (by decide) rfl dX8_on_75 ?_
          refine tv_iload C dX8_on_76 0 rfl ?_
          refine tv_iadd C dX8_on_78 ?_
          refine tv_iload_n C dX8_on_79 rfl 3 rfl ?_
          refine tv_iconst (v := 0) C dX8_on_80 (by decide) ?_
          refine tv_calli (As := [.int (s 11 j_p0), .int ((s 12 j_p0) + (p2 * (s 10 j_p0))), .int ((s 13 j_p0) + p2), .int p1, .int 0]) (rest := []) (ci := 8) (cn := RX8) (T := TX8) (Nf := 35) C 0 (kX8_lookOf c s r b_p0 j_p1 (s 11 j_p0) ((s 12 j_p0) + (p2 * (s 10 j_p0))) ((s 13 j_p0) + p2) p1 0 eb_p0 (by omega) ej_p1 (by omega)) gX8_on_X8_lookOf rfl yd_X8_lookOf ⟨rfl, rfl⟩ (by decide) (by decide) rfl rfl rfl rfl (Nat.le_of_ble_eq_true rfl) dX8_on_81 (fun q_8 u_8 z_8 => ?_)
          obtain ⟨rfl, rfl⟩ := z_8
          exact hR _ _ _ _ dX8_on_84 ⟨by simp only [sp_on, c_2, ek_p0, c_4, ek_p1, c_6, ek_p2, eq_true c_7, ↓reduceIte]; try (rw [tk_e eb_p0 (by omega)]), by first | (simp only [sp_on, c_2, ek_p0, c_4, ek_p1, c_6, ek_p2, eq_true c_7, if_true, ts_ss, ts_aa, ↓reduceIte]; done) | rfl | (simp [sp_on, c_2, ek_p0, c_4, ek_p1, c_6, ek_p2, eq_true c_7, if_true, ts_ss, ts_aa]; done) | (exfalso; clear hR C; simp_all; done)⟩
        · skip
          refine tv_iconst (v := 0) C dX8_on_40 (by decide) ?_
          refine tv_goto C 45 dX8_on_41 (by decide) ?_
          refine tv_istore (lv' := [(4, .int 0), (0, .ref (tv_ad c 0)), (1, .int p0), (2, .int p1), (3, .int p2)]) C dX8_on_45 (by decide) rfl ?_
          refine tv_aload_n C dX8_on_47 rfl 1 rfl ?_
          refine tv_aload_n C dX8_on_48 rfl 1 rfl ?_
          refine tv_get (ci := 8) (Cn := RX8) (T := TX8) (Nf := 35) (v := .ref (tv_ad c 5)) C 0 (by decide) rfl rfl in_X8_on_X8 11 (by decide) lk_X8_on_22 rfl dX8_on_49 ?_
          refine tv_iload_n C dX8_on_52 rfl 2 rfl ?_
          refine tv_iald (f := (s 11)) (v := (s 11 j_p0)) C 5 (by decide) rfl j_p0 ej_p0 (show j_p0 < 24 by omega) (by decide) rfl dX8_on_53 ?_
          refine tv_aload_n C dX8_on_54 rfl 1 rfl ?_
          refine tv_get (ci := 8) (Cn := RX8) (T := TX8) (Nf := 35) (v := .ref (tv_ad c 6)) C 0 (by decide) rfl rfl in_X8_on_X8 12 (by decide) lk_X8_on_25 rfl dX8_on_55 ?_
          refine tv_iload_n C dX8_on_58 rfl 2 rfl ?_
          refine tv_iald (f := (s 12)) (v := (s 12 j_p0)) C 6 (by decide) rfl j_p0 ej_p0 (show j_p0 < 24 by omega) (by decide) rfl dX8_on_59 ?_
          refine tv_iload C dX8_on_60 0 rfl ?_
          refine tv_aload_n C dX8_on_62 rfl 1 rfl ?_
          refine tv_get (ci := 8) (Cn := RX8) (T := TX8) (Nf := 35) (v := .ref (tv_ad c 4)) C 0 (by decide) rfl rfl in_X8_on_X8 10 (by decide) lk_X8_on_19 rfl dX8_on_63 ?_
          refine tv_iload_n C dX8_on_66 rfl 2 rfl ?_
          refine tv_iald (f := (s 10)) (v := (s 10 j_p0)) C 4 (by decide) rfl j_p0 ej_p0 (show j_p0 < 24 by omega) (by decide) rfl dX8_on_67 ?_
          refine tv_imul C dX8_on_68 ?_
          refine tv_iadd C dX8_on_69 ?_
          refine tv_aload_n C dX8_on_70 rfl 1 rfl ?_
          refine tv_get (ci := 8) (Cn := RX8) (T := TX8) (Nf := 35) (v := .ref (tv_ad c 7)) C 0 (by decide) rfl rfl in_X8_on_X8 13 (by decide) lk_X8_on_28 rfl dX8_on_71 ?_
          refine tv_iload_n C dX8_on_74 rfl 2 rfl ?_
          refine tv_iald (f := (s 13)) (v := (s 13 j_p0)) C 7 (by decide) rfl j_p0 ej_p0 (show j_p0 < 24 by omega) (by decide) rfl dX8_on_75 ?_
          refine tv_iload C dX8_on_76 0 rfl ?_
          refine tv_iadd C dX8_on_78 ?_
          refine tv_iload_n C dX8_on_79 rfl 3 rfl ?_
          refine tv_iconst (v := 0) C dX8_on_80 (by decide) ?_
          refine tv_calli (As := [.int (s 11 j_p0), .int ((s 12 j_p0) + (0 * (s 10 j_p0))), .int ((s 13 j_p0) + 0), .int p1, .int 0]) (rest := []) (ci := 8) (cn := RX8) (T := TX8) (Nf := 35) C 0 (kX8_lookOf c s r b_p0 j_p1 (s 11 j_p0) ((s 12 j_p0) + (0 * (s 10 j_p0))) ((s 13 j_p0) + 0) p1 0 eb_p0 (by omega) ej_p1 (by omega)) gX8_on_X8_lookOf rfl yd_X8_lookOf ⟨rfl, rfl⟩ (by decide) (by decide) rfl rfl rfl rfl (Nat.le_of_ble_eq_true rfl) dX8_on_81 (fun q_9 u_9 z_9 => ?_)
          obtain ⟨rfl, rfl⟩ := z_9
          exact hR _ _ _ _ dX8_on_84 ⟨by simp only [sp_on, c_2, ek_p0, c_4, ek_p1, c_6, ek_p2, c_7, ↓reduceIte]; try (rw [tk_e eb_p0 (by omega)]), by first | (simp only [sp_on, c_2, ek_p0, c_4, ek_p1, c_6, ek_p2, c_7, if_true, ts_ss, ts_aa, ↓reduceIte]; done) | rfl | (simp [sp_on, c_2, ek_p0, c_4, ek_p1, c_6, ek_p2, c_7, if_true, ts_ss, ts_aa]; done) | (exfalso; clear hR C; simp_all; done)⟩
      · skip
        refine tv_bipush (v := (-2)) C dX8_on_28 (by decide) ?_
        exact hR _ _ _ _ dX8_on_30 ⟨by simp only [sp_on, c_2, ek_p0, c_4, ek_p1, eq_true c_6, ↓reduceIte]; try (rw [tk_e eb_p0 (by omega)]), by first | (simp only [sp_on, c_2, ek_p0, c_4, ek_p1, eq_true c_6, if_true, ts_ss, ts_aa, ↓reduceIte]; done) | rfl | (simp [sp_on, c_2, ek_p0, c_4, ek_p1, eq_true c_6, if_true, ts_ss, ts_aa]; done) | (exfalso; clear hR C; simp_all; done)⟩
    · skip
      refine tv_iconst (v := (-1)) C dX8_on_16 (by decide) ?_
      exact hR _ _ _ _ dX8_on_17 ⟨by simp only [sp_on, c_2, ek_p0, eq_true c_4, ↓reduceIte]; try (rw [tk_e eb_p0 (by omega)]), by first | (simp only [sp_on, c_2, ek_p0, eq_true c_4, if_true, ts_ss, ts_aa, ↓reduceIte]; done) | rfl | (simp [sp_on, c_2, ek_p0, eq_true c_4, if_true, ts_ss, ts_aa]; done) | (exfalso; clear hR C; simp_all; done)⟩
set_option maxHeartbeats 4000000 in
set_option maxRecDepth 100000 in
theorem kX8_name (c : tv_c) (s r : ts_T)  (p0 : Int32) (hI : iv s) : tv_Fi c 19 yX8_name wsX8_name { frames := 1, cells := 0, slots := 0, locals := 21 } [.ref (tv_ad c 0), .int p0] (eM c s r) ((sp_name s p0).1) (eM c (sp_name s p0).2 r) := by
  refine tv_metI (by decide +kernel) rfl rfl (Nat.le_of_ble_eq_true rfl) (fun X C hR => ?_)
  show tv_V c 19 X (eM c s r) 0 [(0, .ref (tv_ad c 0)), (1, .int p0)] []
  have hC := iv.hC hI
  obtain ⟨h, w, n, nk, nl, ny, nm, li, e2, e3, e9, hnw, hh, hw, hn, hz, hp, e7, hk, e8, hl, e4, hy, e5, hm, e6, hli, hcel, hkin, hban, hwei, hshe⟩ := id hI
  refine tv_aload_n C dX8_name_0 rfl 0 rfl ?_
  refine tv_iload_n C dX8_name_1 rfl 1 rfl ?_
  refine tv_calli (As := [.int p0]) (rest := []) (ci := 8) (cn := RX8) (T := TX8) (Nf := 35) C 0 (kX8_isCoat c s r  p0 ) gX8_name_X8_isCoat rfl yd_X8_isCoat ⟨rfl, rfl⟩ (by decide) (by decide) rfl rfl rfl rfl (Nat.le_of_ble_eq_true rfl) dX8_name_2 (fun q_1 u_1 z_1 => ?_)
  obtain ⟨rfl, rfl⟩ := z_1
  refine tv_if_ne C 10 dX8_name_5 (by decide) (fun c_2 => ?_) (fun c_2 => ?_)
  · skip
    obtain ⟨j_p0, hj_p0, ej_p0, ek_p0⟩ := in_ix e7 (by omega) c_2
    refine tv_aload_n C dX8_name_10 rfl 0 rfl ?_
    refine tv_aload_n C dX8_name_11 rfl 0 rfl ?_
    refine tv_get (ci := 8) (Cn := RX8) (T := TX8) (Nf := 35) (v := .ref (tv_ad c 10)) C 0 (by decide) rfl rfl in_X8_name_X8 20 (by decide) lk_X8_name_38 rfl dX8_name_12 ?_
    refine tv_iload_n C dX8_name_15 rfl 1 rfl ?_
    refine tv_iald (f := (s 15)) (v := (s 15 j_p0)) C 10 (by decide) rfl j_p0 ej_p0 (show j_p0 < 6 by omega) (by decide) rfl dX8_name_16 ?_
    refine tv_iconst (v := 2) C dX8_name_17 (by decide) ?_
    refine tv_icmp_ne C 25 dX8_name_18 (by decide) (fun c_3 => ?_) (fun c_3 => ?_)
    · skip
      refine tv_iconst (v := 4) C dX8_name_25 (by decide) ?_
      refine tv_callv (As := [.int 4]) (rest := []) (ci := 8) (cn := RX8) (T := TX8) (Nf := 35) C 0 (kX8_begins c s r  4 ) gX8_name_X8_begins rfl yd_X8_begins ⟨rfl, rfl⟩ (by decide) (by decide) rfl rfl rfl rfl (Nat.le_of_ble_eq_true rfl) dX8_name_26 (fun u_4 z_4 => ?_)
      subst z_4
      refine tv_aload_n C dX8_name_29 rfl 0 rfl ?_
      refine tv_get (ci := 8) (Cn := RX8) (T := TX8) (Nf := 35) (v := .ref (tv_ad c 10)) C 0 (by decide) rfl rfl in_X8_name_X8 20 (by decide) lk_X8_name_38 rfl dX8_name_30 ?_
      refine tv_iload_n C dX8_name_33 rfl 1 rfl ?_
      refine tv_iald (f := (s 15)) (v := (s 15 j_p0)) C 10 (by decide) rfl j_p0 ej_p0 (show j_p0 < 6 by omega) (by decide) rfl dX8_name_34 ?_
      refine tv_iconst (v := 2) C dX8_name_35 (by decide) ?_
      refine tv_icmp_ne C 44 dX8_name_36 (by decide) (fun c_5 => ?_) (fun c_5 => absurd c_5 c_3)
      refine tv_iload_n C dX8_name_44 rfl 1 rfl ?_
      exact hR _ _ _ _ dX8_name_45 ⟨by first | (simp only [sp_name, sp_tr, c_2, ek_p0, c_3, c_5, if_true, ↓reduceIte]; done) | rfl | (simp [sp_name, sp_tr, c_2, ek_p0, c_3, c_5, if_true]; done) | (exfalso; clear hR C; simp_all; done), by first | (simp only [sp_name, sp_tr, c_2, ek_p0, c_3, c_5, if_true, ts_ss, ts_aa, ↓reduceIte]; done) | rfl | (simp [sp_name, sp_tr, c_2, ek_p0, c_3, c_5, if_true, ts_ss, ts_aa]; done) | (exfalso; clear hR C; simp_all; done)⟩
    · skip
      refine tv_iconst (v := 5) C dX8_name_21 (by decide) ?_
      refine tv_goto C 26 dX8_name_22 (by decide) ?_
      refine tv_callv (As := [.int 5]) (rest := []) (ci := 8) (cn := RX8) (T := TX8) (Nf := 35) C 0 (kX8_begins c s r  5 ) gX8_name_X8_begins rfl yd_X8_begins ⟨rfl, rfl⟩ (by decide) (by decide) rfl rfl rfl rfl (Nat.le_of_ble_eq_true rfl) dX8_name_26 (fun u_6 z_6 => ?_)
      subst z_6
      refine tv_aload_n C dX8_name_29 rfl 0 rfl ?_
      refine tv_get (ci := 8) (Cn := RX8) (T := TX8) (Nf := 35) (v := .ref (tv_ad c 10)) C 0 (by decide) rfl rfl in_X8_name_X8 20 (by decide) lk_X8_name_38 rfl dX8_name_30 ?_
      refine tv_iload_n C dX8_name_33 rfl 1 rfl ?_
      refine tv_iald (f := (s 15)) (v := (s 15 j_p0)) C 10 (by decide) rfl j_p0 ej_p0 (show j_p0 < 6 by omega) (by decide) rfl dX8_name_34 ?_
      refine tv_iconst (v := 2) C dX8_name_35 (by decide) ?_
      refine tv_icmp_ne C 44 dX8_name_36 (by decide) (fun c_7 => absurd c_3 c_7) (fun c_7 => ?_)
      refine tv_bipush (v := 90) C dX8_name_39 (by decide) ?_
      refine tv_goto C 45 dX8_name_41 (by decide) ?_
      exact hR _ _ _ _ dX8_name_45 ⟨by first | (simp only [sp_name, sp_tr, c_2, ek_p0, eq_true c_3, eq_true c_7, if_true, ↓reduceIte]; done) | rfl | (simp [sp_name, sp_tr, c_2, ek_p0, eq_true c_3, eq_true c_7, if_true]; done) | (exfalso; clear hR C; simp_all; done), by first | (simp only [sp_name, sp_tr, c_2, ek_p0, eq_true c_3, eq_true c_7, if_true, ts_ss, ts_aa, ↓reduceIte]; done) | rfl | (simp [sp_name, sp_tr, c_2, ek_p0, eq_true c_3, eq_true c_7, if_true, ts_ss, ts_aa]; done) | (exfalso; clear hR C; simp_all; done)⟩
  · skip
    refine tv_iconst (v := (-1)) C dX8_name_8 (by decide) ?_
    exact hR _ _ _ _ dX8_name_9 ⟨by first | (simp only [sp_name, sp_tr, eq_true c_2, if_true, ↓reduceIte]; done) | rfl | (simp [sp_name, sp_tr, eq_true c_2, if_true]; done) | (exfalso; clear hR C; simp_all; done), by first | (simp only [sp_name, sp_tr, eq_true c_2, if_true, ts_ss, ts_aa, ↓reduceIte]; done) | rfl | (simp [sp_name, sp_tr, eq_true c_2, if_true, ts_ss, ts_aa]; done) | (exfalso; clear hR C; simp_all; done)⟩
set_option maxHeartbeats 4000000 in
set_option maxRecDepth 100000 in
theorem kX8_tell (c : tv_c) (s r : ts_T)  (p0 : Int32) (hI : iv s) : tv_Fi c 19 yX8_tell wsX8_tell { frames := 1, cells := 0, slots := 0, locals := 21 } [.ref (tv_ad c 0), .int p0] (eM c s r) ((sp_tell s p0).1) (eM c (sp_tell s p0).2 r) := by
  refine tv_metI (by decide +kernel) rfl rfl (Nat.le_of_ble_eq_true rfl) (fun X C hR => ?_)
  show tv_V c 19 X (eM c s r) 0 [(0, .ref (tv_ad c 0)), (1, .int p0)] []
  have hC := iv.hC hI
  obtain ⟨h, w, n, nk, nl, ny, nm, li, e2, e3, e9, hnw, hh, hw, hn, hz, hp, e7, hk, e8, hl, e4, hy, e5, hm, e6, hli, hcel, hkin, hban, hwei, hshe⟩ := id hI
  refine tv_aload_n C dX8_tell_0 rfl 0 rfl ?_
  refine tv_iload_n C dX8_tell_1 rfl 1 rfl ?_
  refine tv_calli (As := [.int p0]) (rest := []) (ci := 8) (cn := RX8) (T := TX8) (Nf := 35) C 0 (kX8_isCoat c s r  p0 ) gX8_tell_X8_isCoat rfl yd_X8_isCoat ⟨rfl, rfl⟩ (by decide) (by decide) rfl rfl rfl rfl (Nat.le_of_ble_eq_true rfl) dX8_tell_2 (fun q_1 u_1 z_1 => ?_)
  obtain ⟨rfl, rfl⟩ := z_1
  refine tv_if_ne C 10 dX8_tell_5 (by decide) (fun c_2 => ?_) (fun c_2 => ?_)
  · skip
    obtain ⟨j_p0, hj_p0, ej_p0, ek_p0⟩ := in_ix e7 (by omega) c_2
    refine tv_aload_n C dX8_tell_10 rfl 0 rfl ?_
    refine tv_get (ci := 8) (Cn := RX8) (T := TX8) (Nf := 35) (v := .ref (tv_ad c 11)) C 0 (by decide) rfl rfl in_X8_tell_X8 21 (by decide) lk_X8_tell_41 rfl dX8_tell_11 ?_
    refine tv_iconst (v := 3) C dX8_tell_14 (by decide) ?_
    refine tv_iload_n C dX8_tell_15 rfl 1 rfl ?_
    refine tv_imul C dX8_tell_16 ?_
    refine tv_iald (f := (s 16)) (v := (s 16 (3 * j_p0))) C 11 (by decide) rfl (3 * j_p0) (tn_mul (tn_l 3) ej_p0) (show (3 * j_p0) < 18 by omega) (by decide) rfl dX8_tell_17 ?_
    refine tv_istore_n (lv' := [(2, .int (s 16 (3 * j_p0))), (0, .ref (tv_ad c 0)), (1, .int p0)]) C dX8_tell_18 rfl (by decide) rfl ?_
    refine tv_aload_n C dX8_tell_19 rfl 1 rfl ?_
    refine tv_get (ci := 8) (Cn := RX8) (T := TX8) (Nf := 35) (v := .ref (tv_ad c 10)) C 0 (by decide) rfl rfl in_X8_tell_X8 20 (by decide) lk_X8_tell_38 rfl dX8_tell_20 ?_
    refine tv_iload_n C dX8_tell_23 rfl 2 rfl ?_
    refine tv_iald (f := (s 15)) (v := (s 15 j_p0)) C 10 (by decide) rfl j_p0 ej_p0 (show j_p0 < 6 by omega) (by decide) rfl dX8_tell_24 ?_
    by_cases c_3 : (s 15 j_p0) = 1
    · skip
      refine tv_lookup C 52 dX8_tell_25 (by decide) (by rw [c_3]; try rfl) (by decide) ?_
      refine tv_aload_n C dX8_tell_52 rfl 1 rfl ?_
      refine tv_iconst (v := 2) C dX8_tell_53 (by decide) ?_
      refine tv_callv (As := [.int 2]) (rest := []) (ci := 8) (cn := RX8) (T := TX8) (Nf := 35) C 0 (kX8_begins c s r  2 ) gX8_tell_X8_begins rfl yd_X8_begins ⟨rfl, rfl⟩ (by decide) (by decide) rfl rfl rfl rfl (Nat.le_of_ble_eq_true rfl) dX8_tell_54 (fun u_4 z_4 => ?_)
      subst z_4
      refine tv_aload_n C dX8_tell_57 rfl 1 rfl ?_
      refine tv_iconst (v := 1) C dX8_tell_58 (by decide) ?_
      refine tv_callv (As := [.int 1]) (rest := []) (ci := 8) (cn := RX8) (T := TX8) (Nf := 35) C 0 (kX8_begins c (ts_s s 1 (31 * (s 1 0) + 2)) r  1 ) gX8_tell_X8_begins rfl yd_X8_begins ⟨rfl, rfl⟩ (by decide) (by decide) rfl rfl rfl rfl (Nat.le_of_ble_eq_true rfl) dX8_tell_59 (fun u_5 z_5 => ?_)
      subst z_5
      show tv_V c 19 X (eM c (ts_s (ts_s s 1 (31 * (s 1 0) + 2)) 1 (31 * ((31 * (s 1 0) + 2)) + 1)) r) 62 [(2, .int (s 16 (3 * j_p0))), (0, .ref (tv_ad c 0)), (1, .int p0)] []
      refine tv_eqE (E' := (eM c (ts_s s 1 (31 * ((31 * (s 1 0) + 2)) + 1)) r)) (congrArg (fun z => eM c z r) (by funext zz; rcases Classical.em (zz = 1) with hzz | h_1; (subst hzz; rfl); simp only [ts_s, ts_a, h_1, ↓reduceIte])) ?_
      show tv_V c 19 X (eM c (ts_s s 1 (31 * ((31 * (s 1 0) + 2)) + 1)) r) 62 [(2, .int (s 16 (3 * j_p0))), (0, .ref (tv_ad c 0)), (1, .int p0)] []
      refine tv_iload_n C dX8_tell_62 rfl 0 rfl ?_
      refine tv_bipush (v := 100) C dX8_tell_63 (by decide) ?_
      refine tv_iadd C dX8_tell_65 ?_
      exact hR _ _ _ _ dX8_tell_66 ⟨by first | (simp only [sp_tell, sp_tr, c_2, ek_p0, eq_true c_3, if_true, ↓reduceIte]; done) | rfl | (simp [sp_tell, sp_tr, c_2, ek_p0, eq_true c_3, if_true]; done) | (exfalso; clear hR C; simp_all; done), by first | (simp only [sp_tell, sp_tr, c_2, ek_p0, eq_true c_3, if_true, ts_ss, ts_aa, ↓reduceIte]; done) | rfl | (simp [sp_tell, sp_tr, c_2, ek_p0, eq_true c_3, if_true, ts_ss, ts_aa]; done) | (exfalso; clear hR C; simp_all; done)⟩
    by_cases c_6 : (s 15 j_p0) = 2
    · skip
      refine tv_lookup C 67 dX8_tell_25 (by decide) (by rw [c_6]; try rfl) (by decide) ?_
      refine tv_aload_n C dX8_tell_67 rfl 1 rfl ?_
      refine tv_iconst (v := 3) C dX8_tell_68 (by decide) ?_
      refine tv_callv (As := [.int 3]) (rest := []) (ci := 8) (cn := RX8) (T := TX8) (Nf := 35) C 0 (kX8_begins c s r  3 ) gX8_tell_X8_begins rfl yd_X8_begins ⟨rfl, rfl⟩ (by decide) (by decide) rfl rfl rfl rfl (Nat.le_of_ble_eq_true rfl) dX8_tell_69 (fun u_7 z_7 => ?_)
      subst z_7
      refine tv_aload_n C dX8_tell_72 rfl 1 rfl ?_
      refine tv_iconst (v := 2) C dX8_tell_73 (by decide) ?_
      refine tv_callv (As := [.int 2]) (rest := []) (ci := 8) (cn := RX8) (T := TX8) (Nf := 35) C 0 (kX8_begins c (ts_s s 1 (31 * (s 1 0) + 3)) r  2 ) gX8_tell_X8_begins rfl yd_X8_begins ⟨rfl, rfl⟩ (by decide) (by decide) rfl rfl rfl rfl (Nat.le_of_ble_eq_true rfl) dX8_tell_74 (fun u_8 z_8 => ?_)
      subst z_8
      show tv_V c 19 X (eM c (ts_s (ts_s s 1 (31 * (s 1 0) + 3)) 1 (31 * ((31 * (s 1 0) + 3)) + 2)) r) 77 [(2, .int (s 16 (3 * j_p0))), (0, .ref (tv_ad c 0)), (1, .int p0)] []
      refine tv_eqE (E' := (eM c (ts_s s 1 (31 * ((31 * (s 1 0) + 3)) + 2)) r)) (congrArg (fun z => eM c z r) (by funext zz; rcases Classical.em (zz = 1) with hzz | h_1; (subst hzz; rfl); simp only [ts_s, ts_a, h_1, ↓reduceIte])) ?_
      show tv_V c 19 X (eM c (ts_s s 1 (31 * ((31 * (s 1 0) + 3)) + 2)) r) 77 [(2, .int (s 16 (3 * j_p0))), (0, .ref (tv_ad c 0)), (1, .int p0)] []
      refine tv_aload_n C dX8_tell_77 rfl 1 rfl ?_
      refine tv_iconst (v := 1) C dX8_tell_78 (by decide) ?_
      refine tv_callv (As := [.int 1]) (rest := []) (ci := 8) (cn := RX8) (T := TX8) (Nf := 35) C 0 (kX8_begins c (ts_s s 1 (31 * ((31 * (s 1 0) + 3)) + 2)) r  1 ) gX8_tell_X8_begins rfl yd_X8_begins ⟨rfl, rfl⟩ (by decide) (by decide) rfl rfl rfl rfl (Nat.le_of_ble_eq_true rfl) dX8_tell_79 (fun u_9 z_9 => ?_)
      subst z_9
      show tv_V c 19 X (eM c (ts_s (ts_s s 1 (31 * ((31 * (s 1 0) + 3)) + 2)) 1 (31 * ((31 * ((31 * (s 1 0) + 3)) + 2)) + 1)) r) 82 [(2, .int (s 16 (3 * j_p0))), (0, .ref (tv_ad c 0)), (1, .int p0)] []
      refine tv_eqE (E' := (eM c (ts_s s 1 (31 * ((31 * ((31 * (s 1 0) + 3)) + 2)) + 1)) r)) (congrArg (fun z => eM c z r) (by funext zz; rcases Classical.em (zz = 1) with hzz | h_1; (subst hzz; rfl); simp only [ts_s, ts_a, h_1, ↓reduceIte])) ?_
      show tv_V c 19 X (eM c (ts_s s 1 (31 * ((31 * ((31 * (s 1 0) + 3)) + 2)) + 1)) r) 82 [(2, .int (s 16 (3 * j_p0))), (0, .ref (tv_ad c 0)), (1, .int p0)] []
      refine tv_aload_n C dX8_tell_82 rfl 1 rfl ?_
      refine tv_iconst (v := 1) C dX8_tell_83 (by decide) ?_
      refine tv_callv (As := [.int 1]) (rest := []) (ci := 8) (cn := RX8) (T := TX8) (Nf := 35) C 0 (kX8_begins c (ts_s s 1 (31 * ((31 * ((31 * (s 1 0) + 3)) + 2)) + 1)) r  1 ) gX8_tell_X8_begins rfl yd_X8_begins ⟨rfl, rfl⟩ (by decide) (by decide) rfl rfl rfl rfl (Nat.le_of_ble_eq_true rfl) dX8_tell_84 (fun u_10 z_10 => ?_)
      subst z_10
      show tv_V c 19 X (eM c (ts_s (ts_s s 1 (31 * ((31 * ((31 * (s 1 0) + 3)) + 2)) + 1)) 1 (31 * ((31 * ((31 * ((31 * (s 1 0) + 3)) + 2)) + 1)) + 1)) r) 87 [(2, .int (s 16 (3 * j_p0))), (0, .ref (tv_ad c 0)), (1, .int p0)] []
      refine tv_eqE (E' := (eM c (ts_s s 1 (31 * ((31 * ((31 * ((31 * (s 1 0) + 3)) + 2)) + 1)) + 1)) r)) (congrArg (fun z => eM c z r) (by funext zz; rcases Classical.em (zz = 1) with hzz | h_1; (subst hzz; rfl); simp only [ts_s, ts_a, h_1, ↓reduceIte])) ?_
      show tv_V c 19 X (eM c (ts_s s 1 (31 * ((31 * ((31 * ((31 * (s 1 0) + 3)) + 2)) + 1)) + 1)) r) 87 [(2, .int (s 16 (3 * j_p0))), (0, .ref (tv_ad c 0)), (1, .int p0)] []
      refine tv_iconst (v := 2) C dX8_tell_87 (by decide) ?_
      refine tv_iload_n C dX8_tell_88 rfl 0 rfl ?_
      refine tv_imul C dX8_tell_89 ?_
      refine tv_bipush (v := 100) C dX8_tell_90 (by decide) ?_
      refine tv_iadd C dX8_tell_92 ?_
      exact hR _ _ _ _ dX8_tell_93 ⟨by first | (simp only [sp_tell, sp_tr, c_2, ek_p0, c_3, eq_true c_6, if_true, ↓reduceIte]; done) | rfl | (simp [sp_tell, sp_tr, c_2, ek_p0, c_3, eq_true c_6, if_true]; done) | (exfalso; clear hR C; simp_all; done), by first | (simp only [sp_tell, sp_tr, c_2, ek_p0, c_3, eq_true c_6, if_true, ts_ss, ts_aa, ↓reduceIte]; done) | rfl | (simp [sp_tell, sp_tr, c_2, ek_p0, c_3, eq_true c_6, if_true, ts_ss, ts_aa]; done) | (exfalso; clear hR C; simp_all; done)⟩
    refine tv_lookup (off := 69) C 94 dX8_tell_25 (by decide) (by show Op.lookupswitch.offset [(1, 27), (2, 42)] 69 _ = 69; rw [lv_osw c_3 (by decide), lv_osw c_6 (by decide)]; try rfl) (by decide) ?_
    refine tv_aload_n C dX8_tell_94 rfl 1 rfl ?_
    refine tv_iconst (v := 1) C dX8_tell_95 (by decide) ?_
    refine tv_callv (As := [.int 1]) (rest := []) (ci := 8) (cn := RX8) (T := TX8) (Nf := 35) C 0 (kX8_begins c s r  1 ) gX8_tell_X8_begins rfl yd_X8_begins ⟨rfl, rfl⟩ (by decide) (by decide) rfl rfl rfl rfl (Nat.le_of_ble_eq_true rfl) dX8_tell_96 (fun u_11 z_11 => ?_)
    subst z_11
    refine tv_iload_n C dX8_tell_99 rfl 0 rfl ?_
    exact hR _ _ _ _ dX8_tell_100 ⟨by first | (simp only [sp_tell, sp_tr, c_2, ek_p0, c_3, c_6, if_true, ↓reduceIte]; done) | rfl | (simp [sp_tell, sp_tr, c_2, ek_p0, c_3, c_6, if_true]; done) | (exfalso; clear hR C; simp_all; done), by first | (simp only [sp_tell, sp_tr, c_2, ek_p0, c_3, c_6, if_true, ts_ss, ts_aa, ↓reduceIte]; done) | rfl | (simp [sp_tell, sp_tr, c_2, ek_p0, c_3, c_6, if_true, ts_ss, ts_aa]; done) | (exfalso; clear hR C; simp_all; done)⟩
  · skip
    refine tv_iconst (v := (-1)) C dX8_tell_8 (by decide) ?_
    exact hR _ _ _ _ dX8_tell_9 ⟨by first | (simp only [sp_tell, sp_tr, eq_true c_2, if_true, ↓reduceIte]; done) | rfl | (simp [sp_tell, sp_tr, eq_true c_2, if_true]; done) | (exfalso; clear hR C; simp_all; done), by first | (simp only [sp_tell, sp_tr, eq_true c_2, if_true, ts_ss, ts_aa, ↓reduceIte]; done) | rfl | (simp [sp_tell, sp_tr, eq_true c_2, if_true, ts_ss, ts_aa]; done) | (exfalso; clear hR C; simp_all; done)⟩
set_option maxHeartbeats 4000000 in
set_option maxRecDepth 100000 in
theorem kX8_as (c : tv_c) (s r : ts_T)  (p0 p1 : Int32) (hI : iv s) : tv_Fi c 19 yX8_as wsX8_as { frames := 1, cells := 0, slots := 0, locals := 22 } [.ref (tv_ad c 0), .int p0, .int p1] (eM c s r) ((sp_as s p0 p1).1) (eM c (sp_as s p0 p1).2 r) := by
  refine tv_metI (by decide +kernel) rfl rfl (Nat.le_of_ble_eq_true rfl) (fun X C hR => ?_)
  show tv_V c 19 X (eM c s r) 0 [(0, .ref (tv_ad c 0)), (1, .int p0), (2, .int p1)] []
  have hC := iv.hC hI
  obtain ⟨h, w, n, nk, nl, ny, nm, li, e2, e3, e9, hnw, hh, hw, hn, hz, hp, e7, hk, e8, hl, e4, hy, e5, hm, e6, hli, hcel, hkin, hban, hwei, hshe⟩ := id hI
  refine tv_aload_n C dX8_as_0 rfl 0 rfl ?_
  refine tv_iconst (v := 0) C dX8_as_1 (by decide) ?_
  refine tv_put (ci := 8) (Cn := RX8) (T := TX8) (Nf := 35) (ty := .int) (E' := (eM c (ts_s s 0 0) r)) C 0 (by decide) rfl rfl in_X8_as_X8 tyX8 tyX8_ok nmX8 0 (by decide) lk_X8_as_65 rfl (by decide +kernel) rfl rfl (Nat.le_of_ble_eq_true rfl) (eM_u_fault c s r 0) dX8_as_2 ?_
  refine tv_aload_n C dX8_as_5 rfl 0 rfl ?_
  refine tv_iload_n C dX8_as_6 rfl 1 rfl ?_
  refine tv_calli (As := [.int p0]) (rest := []) (ci := 8) (cn := RX8) (T := TX8) (Nf := 35) C 0 (kX8_isCoat c (ts_s s 0 0) r  p0 ) gX8_as_X8_isCoat rfl yd_X8_isCoat ⟨rfl, rfl⟩ (by decide) (by decide) rfl rfl rfl rfl (Nat.le_of_ble_eq_true rfl) dX8_as_7 (fun q_1 u_1 z_1 => ?_)
  obtain ⟨rfl, rfl⟩ := z_1
  show tv_V c 19 X (eM c (ts_s s 0 0) r) 10 [(0, .ref (tv_ad c 0)), (1, .int p0), (2, .int p1)] [.int (sp_ix p0 (s 7 0))]
  refine tv_if_ne C 15 dX8_as_10 (by decide) (fun c_2 => ?_) (fun c_2 => ?_)
  · skip
    obtain ⟨j_p0, hj_p0, ej_p0, ek_p0⟩ := in_ix e7 (by omega) c_2
    refine tv_iload_n C dX8_as_15 rfl 2 rfl ?_
    refine tv_iconst (v := 0) C dX8_as_16 (by decide) ?_
    refine tv_iconst (v := 2) C dX8_as_17 (by decide) ?_
    refine tv_callis (As := [.int p1, .int 0, .int 2]) (rest := []) C (kX8_within c (ts_s s 0 0) r  p1 0 2 ) gX8_as_X8_within rfl yd_X8_within ⟨rfl, rfl⟩ (by decide) rfl rfl (Nat.le_of_ble_eq_true rfl) dX8_as_18 (fun q_3 u_3 z_3 => ?_)
    obtain ⟨rfl, rfl⟩ := z_3
    show tv_V c 19 X (eM c (ts_s s 0 0) r) 21 [(0, .ref (tv_ad c 0)), (1, .int p0), (2, .int p1)] [.int (sp_in p1 0 2)]
    refine tv_if_ne C 27 dX8_as_21 (by decide) (fun c_4 => ?_) (fun c_4 => ?_)
    · skip
      obtain ⟨j_p1, hj_p1, ej_p1, ek_p1⟩ := in_in (b := 2) (by decide) c_4
      refine tv_aload_n C dX8_as_27 rfl 0 rfl ?_
      refine tv_get (ci := 8) (Cn := RX8) (T := TX8) (Nf := 35) (v := .ref (tv_ad c 10)) C 0 (by decide) rfl rfl in_X8_as_X8 20 (by decide) lk_X8_as_38 rfl dX8_as_28 ?_
      refine tv_iload_n C dX8_as_31 rfl 1 rfl ?_
      refine tv_iald (f := (s 15)) (v := (s 15 j_p0)) C 10 (by decide) rfl j_p0 ej_p0 (show j_p0 < 6 by omega) (by decide) rfl dX8_as_32 ?_
      refine tv_iload_n C dX8_as_33 rfl 2 rfl ?_
      refine tv_icmp_lt C 41 dX8_as_34 (by decide) (fun c_5 => ?_) (fun c_5 => ?_)
      · skip
        refine tv_aload_n C dX8_as_41 rfl 0 rfl ?_
        refine tv_iconst (v := 2) C dX8_as_42 (by decide) ?_
        refine tv_calli (As := [.int 2]) (rest := []) (ci := 8) (cn := RX8) (T := TX8) (Nf := 35) C 0 (kX8_fails c (ts_s s 0 0) r  2 ) gX8_as_X8_fails rfl yd_X8_fails ⟨rfl, rfl⟩ (by decide) (by decide) rfl rfl rfl rfl (Nat.le_of_ble_eq_true rfl) dX8_as_43 (fun q_6 u_6 z_6 => ?_)
        obtain ⟨rfl, rfl⟩ := z_6
        show tv_V c 19 X (eM c (ts_s (ts_s s 0 0) 0 2) r) 46 [(0, .ref (tv_ad c 0)), (1, .int p0), (2, .int p1)] [.int ((-10) - 2)]
        refine tv_eqE (E' := (eM c (ts_s s 0 2) r)) (congrArg (fun z => eM c z r) (by funext zz; rcases Classical.em (zz = 0) with hzz | h_0; (subst hzz; rfl); simp only [ts_s, ts_a, h_0, ↓reduceIte])) ?_
        show tv_V c 19 X (eM c (ts_s s 0 2) r) 46 [(0, .ref (tv_ad c 0)), (1, .int p0), (2, .int p1)] [.int ((-10) - 2)]
        exact hR _ _ _ _ dX8_as_46 ⟨by first | (simp only [sp_as, c_2, ek_p0, c_4, ek_p1, c_5, tn_d_lt c_5, if_true, ↓reduceIte]; done) | rfl | (simp [sp_as, c_2, ek_p0, c_4, ek_p1, c_5, tn_d_lt c_5, if_true]; done) | (exfalso; clear hR C; simp_all; done), by first | (simp only [sp_as, c_2, ek_p0, c_4, ek_p1, c_5, tn_d_lt c_5, if_true, ts_ss, ts_aa, ↓reduceIte]; done) | rfl | (simp [sp_as, c_2, ek_p0, c_4, ek_p1, c_5, tn_d_lt c_5, if_true, ts_ss, ts_aa]; done) | (exfalso; clear hR C; simp_all; done)⟩
      · skip
        refine tv_iconst (v := 1) C dX8_as_37 (by decide) ?_
        refine tv_goto C 46 dX8_as_38 (by decide) ?_
        exact hR _ _ _ _ dX8_as_46 ⟨by first | (simp only [sp_as, c_2, ek_p0, c_4, ek_p1, c_5, tn_d_nlt c_5, if_true, ↓reduceIte]; done) | rfl | (simp [sp_as, c_2, ek_p0, c_4, ek_p1, c_5, tn_d_nlt c_5, if_true]; done) | (exfalso; clear hR C; simp_all; done), by first | (simp only [sp_as, c_2, ek_p0, c_4, ek_p1, c_5, tn_d_nlt c_5, if_true, ts_ss, ts_aa, ↓reduceIte]; done) | rfl | (simp [sp_as, c_2, ek_p0, c_4, ek_p1, c_5, tn_d_nlt c_5, if_true, ts_ss, ts_aa]; done) | (exfalso; clear hR C; simp_all; done)⟩
    · skip
      refine tv_bipush (v := (-2)) C dX8_as_24 (by decide) ?_
      exact hR _ _ _ _ dX8_as_26 ⟨by first | (simp only [sp_as, c_2, ek_p0, eq_true c_4, if_true, ↓reduceIte]; done) | rfl | (simp [sp_as, c_2, ek_p0, eq_true c_4, if_true]; done) | (exfalso; clear hR C; simp_all; done), by first | (simp only [sp_as, c_2, ek_p0, eq_true c_4, if_true, ts_ss, ts_aa, ↓reduceIte]; done) | rfl | (simp [sp_as, c_2, ek_p0, eq_true c_4, if_true, ts_ss, ts_aa]; done) | (exfalso; clear hR C; simp_all; done)⟩
  · skip
    refine tv_iconst (v := (-1)) C dX8_as_13 (by decide) ?_
    exact hR _ _ _ _ dX8_as_14 ⟨by first | (simp only [sp_as, eq_true c_2, if_true, ↓reduceIte]; done) | rfl | (simp [sp_as, eq_true c_2, if_true]; done) | (exfalso; clear hR C; simp_all; done), by first | (simp only [sp_as, eq_true c_2, if_true, ts_ss, ts_aa, ↓reduceIte]; done) | rfl | (simp [sp_as, eq_true c_2, if_true, ts_ss, ts_aa]; done) | (exfalso; clear hR C; simp_all; done)⟩
