set_option maxRecDepth 20000 in
theorem in_X8_hung_X8 : ∀ w ∈ u_ws RX8 TX8 35, w ∈ wsX8_hung := by decide +kernel
set_option maxRecDepth 20000 in
theorem lk_X8_hung_65 : Cond.fieldLink RX8 65 (TX8 0).1 (TX8 0).2.1 (TX8 0).2.2.1 ∈ wsX8_hung := by decide +kernel
theorem yd_X8_against : yX8_against.cls = RX8 ∧ yX8_against.cls ≠ "java/lang/invoke/MethodHandle" ∧ yX8_against.cls ≠ "java/lang/invoke/VarHandle" ∧ (parseMethodDescriptor yX8_against.desc).map (fun d => d.parameters.length) = some 4 := by decide +kernel
set_option maxRecDepth 20000 in
theorem lk_X8_hung_112 : Cond.fieldLink RX8 112 (TX8 7).1 (TX8 7).2.1 (TX8 7).2.2.1 ∈ wsX8_hung := by decide +kernel
theorem yd_X8_isSo : yX8_isSo.cls = RX8 ∧ yX8_isSo.cls ≠ "java/lang/invoke/MethodHandle" ∧ yX8_isSo.cls ≠ "java/lang/invoke/VarHandle" ∧ (parseMethodDescriptor yX8_isSo.desc).map (fun d => d.parameters.length) = some 4 := by decide +kernel
set_option maxRecDepth 20000 in
theorem in_X8_old_X8 : ∀ w ∈ u_ws RX8 TX8 35, w ∈ wsX8_old := by decide +kernel
set_option maxRecDepth 20000 in
theorem lk_X8_old_65 : Cond.fieldLink RX8 65 (TX8 0).1 (TX8 0).2.1 (TX8 0).2.2.1 ∈ wsX8_old := by decide +kernel
set_option maxRecDepth 20000 in
theorem wd_X8_old_k69 : Cond.constantLong RX8 69 (-9223372036854775808) ∈ wsX8_old := by decide +kernel
set_option maxRecDepth 20000 in
theorem in_X8_years_X8 : ∀ w ∈ u_ws RX8 TX8 35, w ∈ wsX8_years := by decide +kernel
set_option maxRecDepth 20000 in
theorem lk_X8_years_112 : Cond.fieldLink RX8 112 (TX8 7).1 (TX8 7).2.1 (TX8 7).2.2.1 ∈ wsX8_years := by decide +kernel
set_option maxRecDepth 20000 in
theorem lk_X8_years_31 : Cond.fieldLink RX8 31 (TX8 14).1 (TX8 14).2.1 (TX8 14).2.2.1 ∈ wsX8_years := by decide +kernel
set_option maxRecDepth 20000 in
theorem lk_X8_years_25 : Cond.fieldLink RX8 25 (TX8 12).1 (TX8 12).2.1 (TX8 12).2.2.1 ∈ wsX8_years := by decide +kernel
set_option maxRecDepth 20000 in
theorem lk_X8_years_19 : Cond.fieldLink RX8 19 (TX8 10).1 (TX8 10).2.1 (TX8 10).2.2.1 ∈ wsX8_years := by decide +kernel
set_option maxRecDepth 20000 in
theorem lk_X8_years_28 : Cond.fieldLink RX8 28 (TX8 13).1 (TX8 13).2.1 (TX8 13).2.2.1 ∈ wsX8_years := by decide +kernel
set_option maxRecDepth 20000 in
theorem in_X8_isEdge_X8 : ∀ w ∈ u_ws RX8 TX8 35, w ∈ wsX8_isEdge := by decide +kernel
set_option maxRecDepth 20000 in
theorem lk_X8_isEdge_121 : Cond.fieldLink RX8 121 (TX8 22).1 (TX8 22).2.1 (TX8 22).2.2.1 ∈ wsX8_isEdge := by decide +kernel
set_option maxRecDepth 20000 in
theorem lk_X8_isEdge_118 : Cond.fieldLink RX8 118 (TX8 9).1 (TX8 9).2.1 (TX8 9).2.2.1 ∈ wsX8_isEdge := by decide +kernel
set_option maxHeartbeats 4000000 in
set_option maxRecDepth 100000 in
theorem kX8_hung (c : tv_c) (s r : ts_T)  (p0 p1 p2 p3 p4 p5 : Int32) (hI : iv s) : tv_Fi c 19 yX8_hung wsX8_hung { frames := 3, cells := 0, slots := 0, locals := 78 } [.ref (tv_ad c 0), .int p0, .int p1, .int p2, .int p3, .int p4, .int p5] (eM c s r) ((sp_hung s p0 p1 p2 p3 p4 p5).1) (eM c (sp_hung s p0 p1 p2 p3 p4 p5).2 r) := by
  refine tv_metI (by decide +kernel) rfl rfl (Nat.le_of_ble_eq_true rfl) (fun X C hR => ?_)
  show tv_V c 19 X (eM c s r) 0 [(0, .ref (tv_ad c 0)), (1, .int p0), (2, .int p1), (3, .int p2), (4, .int p3), (5, .int p4), (6, .int p5)] []
  have hC := iv.hC hI
  obtain ⟨h, w, n, nk, nl, ny, nm, li, e2, e3, e9, hnw, hh, hw, hn, hz, hp, e7, hk, e8, hl, e4, hy, e5, hm, e6, hli, hcel, hkin, hban, hwei, hshe⟩ := id hI
  have ek4 := tk_e e4 (by omega)
  refine tv_aload_n C dX8_hung_0 rfl 0 rfl ?_
  refine tv_iconst (v := 0) C dX8_hung_1 (by decide) ?_
  refine tv_put (ci := 8) (Cn := RX8) (T := TX8) (Nf := 35) (ty := .int) (E' := (eM c (ts_s s 0 0) r)) C 0 (by decide) rfl rfl in_X8_hung_X8 tyX8 tyX8_ok nmX8 0 (by decide) lk_X8_hung_65 rfl (by decide +kernel) rfl rfl (Nat.le_of_ble_eq_true rfl) (eM_u_fault c s r 0) dX8_hung_2 ?_
  refine tv_aload_n C dX8_hung_5 rfl 0 rfl ?_
  refine tv_iload_n C dX8_hung_6 rfl 1 rfl ?_
  refine tv_calli (As := [.int p0]) (rest := []) (ci := 8) (cn := RX8) (T := TX8) (Nf := 35) C 0 (kX8_isCoat c (ts_s s 0 0) r  p0 ) gX8_hung_X8_isCoat rfl yd_X8_isCoat ⟨rfl, rfl⟩ (by decide) (by decide) rfl rfl rfl rfl (Nat.le_of_ble_eq_true rfl) dX8_hung_7 (fun q_1 u_1 z_1 => ?_)
  obtain ⟨rfl, rfl⟩ := z_1
  show tv_V c 19 X (eM c (ts_s s 0 0) r) 10 [(0, .ref (tv_ad c 0)), (1, .int p0), (2, .int p1), (3, .int p2), (4, .int p3), (5, .int p4), (6, .int p5)] [.int (sp_ix p0 (s 7 0))]
  refine tv_if_eq C 20 dX8_hung_10 (by decide) (fun c_2 => ?_) (fun c_2 => ?_)
  · skip
    refine tv_iconst (v := (-1)) C dX8_hung_20 (by decide) ?_
    exact hR _ _ _ _ dX8_hung_21 ⟨by first | (simp only [sp_hung, ek4, eq_true c_2, if_true, ↓reduceIte]; done) | rfl | (simp [sp_hung, ek4, eq_true c_2, if_true]; done) | (exfalso; clear hR C; simp_all; done), by first | (simp only [sp_hung, ek4, eq_true c_2, if_true, ts_ss, ts_aa, ↓reduceIte]; done) | rfl | (simp [sp_hung, ek4, eq_true c_2, if_true, ts_ss, ts_aa]; done) | (exfalso; clear hR C; simp_all; done)⟩
  · skip
    obtain ⟨j_p0, hj_p0, ej_p0, ek_p0⟩ := in_ix e7 (by omega) c_2
    refine tv_iload_n C dX8_hung_13 rfl 3 rfl ?_
    refine tv_callis (As := [.int p2]) (rest := []) C (kX8_isSheet c (ts_s s 0 0) r  p2 ) gX8_hung_X8_isSheet rfl yd_X8_isSheet ⟨rfl, rfl⟩ (by decide) rfl rfl (Nat.le_of_ble_eq_true rfl) dX8_hung_14 (fun q_3 u_3 z_3 => ?_)
    obtain ⟨rfl, rfl⟩ := z_3
    show tv_V c 19 X (eM c (ts_s s 0 0) r) 17 [(0, .ref (tv_ad c 0)), (1, .int p0), (2, .int p1), (3, .int p2), (4, .int p3), (5, .int p4), (6, .int p5)] [.int (sp_in p2 0 3)]
    refine tv_if_ne C 22 dX8_hung_17 (by decide) (fun c_4 => ?_) (fun c_4 => ?_)
    · skip
      obtain ⟨j_p2, hj_p2, ej_p2, ek_p2⟩ := in_in (b := 3) (by decide) c_4
      refine tv_iload_n C dX8_hung_22 rfl 2 rfl ?_
      refine tv_iconst (v := 0) C dX8_hung_23 (by decide) ?_
      refine tv_bipush (v := 9) C dX8_hung_24 (by decide) ?_
      refine tv_callis (As := [.int p1, .int 0, .int 9]) (rest := []) C (kX8_within c (ts_s s 0 0) r  p1 0 9 ) gX8_hung_X8_within rfl yd_X8_within ⟨rfl, rfl⟩ (by decide) rfl rfl (Nat.le_of_ble_eq_true rfl) dX8_hung_26 (fun q_5 u_5 z_5 => ?_)
      obtain ⟨rfl, rfl⟩ := z_5
      show tv_V c 19 X (eM c (ts_s s 0 0) r) 29 [(0, .ref (tv_ad c 0)), (1, .int p0), (2, .int p1), (3, .int p2), (4, .int p3), (5, .int p4), (6, .int p5)] [.int (sp_in p1 0 9)]
      refine tv_if_eq C 50 dX8_hung_29 (by decide) (fun c_6 => ?_) (fun c_6 => ?_)
      · skip
        refine tv_bipush (v := (-2)) C dX8_hung_50 (by decide) ?_
        exact hR _ _ _ _ dX8_hung_52 ⟨by first | (simp only [sp_hung, ek4, c_2, ek_p0, c_4, ek_p2, eq_true c_6, if_true, ↓reduceIte]; done) | rfl | (simp [sp_hung, ek4, c_2, ek_p0, c_4, ek_p2, eq_true c_6, if_true]; done) | (exfalso; clear hR C; simp_all; done), by first | (simp only [sp_hung, ek4, c_2, ek_p0, c_4, ek_p2, eq_true c_6, if_true, ts_ss, ts_aa, ↓reduceIte]; done) | rfl | (simp [sp_hung, ek4, c_2, ek_p0, c_4, ek_p2, eq_true c_6, if_true, ts_ss, ts_aa]; done) | (exfalso; clear hR C; simp_all; done)⟩
      · skip
        obtain ⟨j_p1, hj_p1, ej_p1, ek_p1⟩ := in_in (b := 9) (by decide) c_6
        refine tv_iload C dX8_hung_32 6 rfl ?_
        refine tv_iconst (v := 0) C dX8_hung_34 (by decide) ?_
        refine tv_iconst (v := 2) C dX8_hung_35 (by decide) ?_
        refine tv_callis (As := [.int p5, .int 0, .int 2]) (rest := []) C (kX8_within c (ts_s s 0 0) r  p5 0 2 ) gX8_hung_X8_within rfl yd_X8_within ⟨rfl, rfl⟩ (by decide) rfl rfl (Nat.le_of_ble_eq_true rfl) dX8_hung_36 (fun q_7 u_7 z_7 => ?_)
        obtain ⟨rfl, rfl⟩ := z_7
        show tv_V c 19 X (eM c (ts_s s 0 0) r) 39 [(0, .ref (tv_ad c 0)), (1, .int p0), (2, .int p1), (3, .int p2), (4, .int p3), (5, .int p4), (6, .int p5)] [.int (sp_in p5 0 2)]
        refine tv_if_eq C 50 dX8_hung_39 (by decide) (fun c_8 => ?_) (fun c_8 => ?_)
        · skip
          refine tv_bipush (v := (-2)) C dX8_hung_50 (by decide) ?_
          exact hR _ _ _ _ dX8_hung_52 ⟨by first | (simp only [sp_hung, ek4, c_2, ek_p0, c_4, ek_p2, c_6, ek_p1, eq_true c_8, if_true, ↓reduceIte]; done) | rfl | (simp [sp_hung, ek4, c_2, ek_p0, c_4, ek_p2, c_6, ek_p1, eq_true c_8, if_true]; done) | (exfalso; clear hR C; simp_all; done), by first | (simp only [sp_hung, ek4, c_2, ek_p0, c_4, ek_p2, c_6, ek_p1, eq_true c_8, if_true, ts_ss, ts_aa, ↓reduceIte]; done) | rfl | (simp [sp_hung, ek4, c_2, ek_p0, c_4, ek_p2, c_6, ek_p1, eq_true c_8, if_true, ts_ss, ts_aa]; done) | (exfalso; clear hR C; simp_all; done)⟩
        · skip
          obtain ⟨j_p5, hj_p5, ej_p5, ek_p5⟩ := in_in (b := 2) (by decide) c_8
          refine tv_iload C dX8_hung_42 4 rfl ?_
          refine tv_callis (As := [.int p3]) (rest := []) C (kX8_isSort c (ts_s s 0 0) r  p3 ) gX8_hung_X8_isSort rfl yd_X8_isSort ⟨rfl, rfl⟩ (by decide) rfl rfl (Nat.le_of_ble_eq_true rfl) dX8_hung_44 (fun q_9 u_9 z_9 => ?_)
          obtain ⟨rfl, rfl⟩ := z_9
          show tv_V c 19 X (eM c (ts_s s 0 0) r) 47 [(0, .ref (tv_ad c 0)), (1, .int p0), (2, .int p1), (3, .int p2), (4, .int p3), (5, .int p4), (6, .int p5)] [.int (sp_in p3 0 2)]
          refine tv_if_ne C 53 dX8_hung_47 (by decide) (fun c_10 => ?_) (fun c_10 => ?_)
          · skip
            obtain ⟨j_p3, hj_p3, ej_p3, ek_p3⟩ := in_in (b := 2) (by decide) c_10
            refine tv_aload_n C dX8_hung_53 rfl 0 rfl ?_
            refine tv_iload_n C dX8_hung_54 rfl 3 rfl ?_
            refine tv_iload C dX8_hung_55 4 rfl ?_
            refine tv_iload C dX8_hung_57 5 rfl ?_
            refine tv_iconst (v := 3) C dX8_hung_59 (by decide) ?_
            refine tv_calli (As := [.int p2, .int p3, .int p4, .int 3]) (rest := []) (ci := 8) (cn := RX8) (T := TX8) (Nf := 35) C 0 (kX8_against c (ts_s s 0 0) r j_p2 p2 p3 p4 3 ej_p2 (by omega) (hshe j_p2 (by omega))) gX8_hung_X8_against rfl yd_X8_against ⟨rfl, rfl⟩ (by decide) (by decide) rfl rfl rfl rfl (Nat.le_of_ble_eq_true rfl) dX8_hung_60 (fun q_11 u_11 z_11 => ?_)
            obtain ⟨rfl, rfl⟩ := z_11
            show tv_V c 19 X (eM c (ts_s s 0 0) r) 63 [(0, .ref (tv_ad c 0)), (1, .int p0), (2, .int p1), (3, .int p2), (4, .int p3), (5, .int p4), (6, .int p5)] [.int (sp_ag s j_p2 p3 p4 3)]
            refine tv_istore (lv' := [(7, .int (sp_ag s j_p2 p3 p4 3)), (0, .ref (tv_ad c 0)), (1, .int p0), (2, .int p1), (3, .int p2), (4, .int p3), (5, .int p4), (6, .int p5)]) C dX8_hung_63 (by decide) rfl ?_
            refine tv_iload C dX8_hung_65 0 rfl ?_
            refine tv_if_eq C 77 dX8_hung_67 (by decide) (fun c_12 => ?_) (fun c_12 => ?_)
            · skip
              obtain ⟨a, b3, L, ea, eb, eL, hL, hab, eka, ekb⟩ := sp_ag_z (hshe j_p2 (by omega)) c_12
              have hb3 : b3 = 3 := by rw [← ekb]; rfl
              refine tv_iconst (v := 0) C dX8_hung_77 (by decide) ?_
              refine tv_istore (lv' := [(8, .int 0), (7, .int (sp_ag s j_p2 p3 p4 3)), (0, .ref (tv_ad c 0)), (1, .int p0), (2, .int p1), (3, .int p2), (4, .int p3), (5, .int p4), (6, .int p5)]) C dX8_hung_78 (by decide) rfl ?_
              refine tv_bipush (v := (-9)) C dX8_hung_80 (by decide) ?_
              refine tv_istore (lv' := [(9, .int (-9)), (8, .int 0), (7, .int (sp_ag s j_p2 p3 p4 3)), (0, .ref (tv_ad c 0)), (1, .int p0), (2, .int p1), (3, .int p2), (4, .int p3), (5, .int p4), (6, .int p5)]) C dX8_hung_82 (by decide) rfl ?_
              refine tv_bipush (v := (-9)) C dX8_hung_84 (by decide) ?_
              refine tv_istore (lv' := [(10, .int (-9)), (9, .int (-9)), (8, .int 0), (7, .int (sp_ag s j_p2 p3 p4 3)), (0, .ref (tv_ad c 0)), (1, .int p0), (2, .int p1), (3, .int p2), (4, .int p3), (5, .int p4), (6, .int p5)]) C dX8_hung_86 (by decide) rfl ?_
              refine tv_iconst (v := 0) C dX8_hung_88 (by decide) ?_
              refine tv_istore (lv' := [(11, .int 0), (10, .int (-9)), (9, .int (-9)), (8, .int 0), (7, .int (sp_ag s j_p2 p3 p4 3)), (0, .ref (tv_ad c 0)), (1, .int p0), (2, .int p1), (3, .int p2), (4, .int p3), (5, .int p4), (6, .int p5)]) C dX8_hung_89 (by decide) rfl ?_
              have hL91 : ∀ (k_91 i : Nat) (x_91_8 : Int32) (x_91_9 : Int32) (x_91_10 : Int32) (x_91_11 : Int32), i + k_91 = (ny + 1) → x_91_8 = (sp_hn (fun y => sp_so s j_p0 p1 (nI y) (40 * j_p2 + a)) i) → x_91_9 = (sp_hl (fun y => sp_so s j_p0 p1 (nI y) (40 * j_p2 + a)) i) → x_91_10 = (sp_hm (fun y => sp_so s j_p0 p1 (nI y) (40 * j_p2 + a)) i) → x_91_11 = (nI i) → tv_V c 19 X (eM c (ts_s s 0 0) r) 91 [(0, .ref (tv_ad c 0)), (1, .int p0), (2, .int p1), (3, .int p2), (4, .int p3), (5, .int p4), (6, .int p5), (7, .int (sp_ag s j_p2 p3 p4 3)), (8, .int x_91_8), (9, .int x_91_9), (10, .int x_91_10), (11, .int x_91_11)] [] := by
                intro k_91
                induction k_91 with
                | zero =>
                  intro i x_91_8 x_91_9 x_91_10 x_91_11 hi91  ex_91_8 ex_91_9 ex_91_10 ex_91_11
                  subst ex_91_8
                  subst ex_91_9
                  subst ex_91_10
                  subst ex_91_11
                  have hN91 : i = (ny + 1) := by omega
                  refine tv_iload C dX8_hung_91 11 rfl ?_
                  refine tv_aload_n C dX8_hung_93 rfl 0 rfl ?_
                  refine tv_get (ci := 8) (Cn := RX8) (T := TX8) (Nf := 35) (v := .int (s 4 0)) C 0 (by decide) rfl rfl in_X8_hung_X8 7 (by decide) lk_X8_hung_112 rfl dX8_hung_94 ?_
                  refine tv_icmp_gt C 147 dX8_hung_97 (by decide) (fun c_13 => ?_) (fun c_13 => absurd (tn_lt e4 (rfl : nI i = nI i) (by omega) (by omega)) c_13)
                  refine tv_iload C dX8_hung_147 6 rfl ?_
                  refine tv_if_ne C 157 dX8_hung_149 (by decide) (fun c_14 => ?_) (fun c_14 => ?_)
                  · skip
                    refine tv_iload C dX8_hung_157 6 rfl ?_
                    refine tv_iconst (v := 1) C dX8_hung_159 (by decide) ?_
                    refine tv_icmp_ne C 168 dX8_hung_160 (by decide) (fun c_15 => ?_) (fun c_15 => ?_)
                    · skip
                      refine tv_iload C dX8_hung_168 10 rfl ?_
                      exact hR _ _ _ _ dX8_hung_170 ⟨by first | (simp only [sp_hung, ek4, c_2, ek_p0, c_4, ek_p2, c_6, ek_p1, c_8, ek_p5, c_10, ek_p3, eq_true c_12, eka, hN91, c_13, c_14, c_15, if_true, ↓reduceIte]; done) | rfl | (simp [sp_hung, ek4, c_2, ek_p0, c_4, ek_p2, c_6, ek_p1, c_8, ek_p5, c_10, ek_p3, eq_true c_12, eka, hN91, c_13, c_14, c_15, if_true]; done) | (exfalso; clear hR C; simp_all; done), by first | (simp only [sp_hung, ek4, c_2, ek_p0, c_4, ek_p2, c_6, ek_p1, c_8, ek_p5, c_10, ek_p3, eq_true c_12, eka, hN91, c_13, c_14, c_15, if_true, ts_ss, ts_aa, ↓reduceIte]; done) | rfl | (simp [sp_hung, ek4, c_2, ek_p0, c_4, ek_p2, c_6, ek_p1, c_8, ek_p5, c_10, ek_p3, eq_true c_12, eka, hN91, c_13, c_14, c_15, if_true, ts_ss, ts_aa]; done) | (exfalso; clear hR C; simp_all; done)⟩
                    · skip
                      refine tv_iload C dX8_hung_163 9 rfl ?_
                      refine tv_goto C 170 dX8_hung_165 (by decide) ?_
                      exact hR _ _ _ _ dX8_hung_170 ⟨by first | (simp only [sp_hung, ek4, c_2, ek_p0, c_4, ek_p2, c_6, ek_p1, c_8, ek_p5, c_10, ek_p3, eq_true c_12, eka, hN91, c_13, c_14, eq_true c_15, if_true, ↓reduceIte]; done) | rfl | (simp [sp_hung, ek4, c_2, ek_p0, c_4, ek_p2, c_6, ek_p1, c_8, ek_p5, c_10, ek_p3, eq_true c_12, eka, hN91, c_13, c_14, eq_true c_15, if_true]; done) | (exfalso; clear hR C; simp_all; done), by first | (simp only [sp_hung, ek4, c_2, ek_p0, c_4, ek_p2, c_6, ek_p1, c_8, ek_p5, c_10, ek_p3, eq_true c_12, eka, hN91, c_13, c_14, eq_true c_15, if_true, ts_ss, ts_aa, ↓reduceIte]; done) | rfl | (simp [sp_hung, ek4, c_2, ek_p0, c_4, ek_p2, c_6, ek_p1, c_8, ek_p5, c_10, ek_p3, eq_true c_12, eka, hN91, c_13, c_14, eq_true c_15, if_true, ts_ss, ts_aa]; done) | (exfalso; clear hR C; simp_all; done)⟩
                  · skip
                    refine tv_iload C dX8_hung_152 8 rfl ?_
                    refine tv_goto C 170 dX8_hung_154 (by decide) ?_
                    exact hR _ _ _ _ dX8_hung_170 ⟨by first | (simp only [sp_hung, ek4, c_2, ek_p0, c_4, ek_p2, c_6, ek_p1, c_8, ek_p5, c_10, ek_p3, eq_true c_12, eka, hN91, c_13, eq_true c_14, if_true, ↓reduceIte]; done) | rfl | (simp [sp_hung, ek4, c_2, ek_p0, c_4, ek_p2, c_6, ek_p1, c_8, ek_p5, c_10, ek_p3, eq_true c_12, eka, hN91, c_13, eq_true c_14, if_true]; done) | (exfalso; clear hR C; simp_all; done), by first | (simp only [sp_hung, ek4, c_2, ek_p0, c_4, ek_p2, c_6, ek_p1, c_8, ek_p5, c_10, ek_p3, eq_true c_12, eka, hN91, c_13, eq_true c_14, if_true, ts_ss, ts_aa, ↓reduceIte]; done) | rfl | (simp [sp_hung, ek4, c_2, ek_p0, c_4, ek_p2, c_6, ek_p1, c_8, ek_p5, c_10, ek_p3, eq_true c_12, eka, hN91, c_13, eq_true c_14, if_true, ts_ss, ts_aa]; done) | (exfalso; clear hR C; simp_all; done)⟩
                | succ k_91 ih91 =>
                  intro i x_91_8 x_91_9 x_91_10 x_91_11 hi91  ex_91_8 ex_91_9 ex_91_10 ex_91_11
                  subst ex_91_8
                  subst ex_91_9
                  subst ex_91_10
                  subst ex_91_11
                  have hN91 : i < (ny + 1) := by omega
                  refine tv_iload C dX8_hung_91 11 rfl ?_
                  refine tv_aload_n C dX8_hung_93 rfl 0 rfl ?_
                  refine tv_get (ci := 8) (Cn := RX8) (T := TX8) (Nf := 35) (v := .int (s 4 0)) C 0 (by decide) rfl rfl in_X8_hung_X8 7 (by decide) lk_X8_hung_112 rfl dX8_hung_94 ?_
                  refine tv_icmp_gt C 147 dX8_hung_97 (by decide) (fun c_16 => absurd c_16 (tn_nlt e4 (rfl : nI i = nI i) (by omega) (by omega))) (fun c_16 => ?_)
                  refine tv_aload_n C dX8_hung_100 rfl 0 rfl ?_
                  refine tv_iload_n C dX8_hung_101 rfl 1 rfl ?_
                  refine tv_iload_n C dX8_hung_102 rfl 2 rfl ?_
                  refine tv_iload C dX8_hung_103 11 rfl ?_
                  refine tv_bipush (v := 40) C dX8_hung_105 (by decide) ?_
                  refine tv_iload_n C dX8_hung_107 rfl 3 rfl ?_
                  refine tv_imul C dX8_hung_108 ?_
                  refine tv_iload C dX8_hung_109 5 rfl ?_
                  refine tv_iadd C dX8_hung_111 ?_
                  refine tv_calli (As := [.int p0, .int p1, .int (nI i), .int ((40 * p2) + p4)]) (rest := []) (ci := 8) (cn := RX8) (T := TX8) (Nf := 35) C 0 (kX8_isSo c (ts_s s 0 0) r j_p0 ((40 * j_p2) + a) p0 p1 (nI i) ((40 * p2) + p4) ej_p0 (by omega) (tn_add (tn_mul (tn_l 40) ej_p2) ea) (by omega)) gX8_hung_X8_isSo rfl yd_X8_isSo ⟨rfl, rfl⟩ (by decide) (by decide) rfl rfl rfl rfl (Nat.le_of_ble_eq_true rfl) dX8_hung_112 (fun q_17 u_17 z_17 => ?_)
                  obtain ⟨rfl, rfl⟩ := z_17
                  show tv_V c 19 X (eM c (ts_s s 0 0) r) 115 [(0, .ref (tv_ad c 0)), (1, .int p0), (2, .int p1), (3, .int p2), (4, .int p3), (5, .int p4), (6, .int p5), (7, .int (sp_ag s j_p2 p3 p4 3)), (8, .int (sp_hn (fun y => sp_so s j_p0 p1 (nI y) (40 * j_p2 + a)) i)), (9, .int (sp_hl (fun y => sp_so s j_p0 p1 (nI y) (40 * j_p2 + a)) i)), (10, .int (sp_hm (fun y => sp_so s j_p0 p1 (nI y) (40 * j_p2 + a)) i)), (11, .int (nI i))] [.int (sp_so s j_p0 p1 (nI i) (40 * j_p2 + a))]
                  refine tv_if_eq C 141 dX8_hung_115 (by decide) (fun c_18 => ?_) (fun c_18 => ?_)
                  · skip
                    refine tv_iinc (v := ((nI i) + 1)) (lv' := [(11, .int ((nI i) + 1)), (0, .ref (tv_ad c 0)), (1, .int p0), (2, .int p1), (3, .int p2), (4, .int p3), (5, .int p4), (6, .int p5), (7, .int (sp_ag s j_p2 p3 p4 3)), (8, .int (sp_hn (fun y => sp_so s j_p0 p1 (nI y) (40 * j_p2 + a)) i)), (9, .int (sp_hl (fun y => sp_so s j_p0 p1 (nI y) (40 * j_p2 + a)) i)), (10, .int (sp_hm (fun y => sp_so s j_p0 p1 (nI y) (40 * j_p2 + a)) i))]) C dX8_hung_141 11 rfl rfl (by decide) rfl ?_
                    refine tv_goto C 91 dX8_hung_144 (by decide) ?_
                    refine tv_lsub [1, 2, 3, 4, 5, 6, 7, 8, 9, 10, 11, 0] rfl ?_
                    exact ih91 (i + 1) _ _ _ _ (by omega)  (by simp only [sp_hn, ek4, c_2, ek_p0, c_4, ek_p2, c_6, ek_p1, c_8, ek_p5, c_10, ek_p3, eq_true c_12, eka, c_16, eq_true c_18, ↓reduceIte]) (by simp only [sp_hl, ek4, c_2, ek_p0, c_4, ek_p2, c_6, ek_p1, c_8, ek_p5, c_10, ek_p3, eq_true c_12, eka, c_16, eq_true c_18, ↓reduceIte]) (by simp only [sp_hm, ek4, c_2, ek_p0, c_4, ek_p2, c_6, ek_p1, c_8, ek_p5, c_10, ek_p3, eq_true c_12, eka, c_16, eq_true c_18, ↓reduceIte]) (by first | rfl | exact nI_1 _ | (simp only [sp_hung, ek4, c_2, ek_p0, c_4, ek_p2, c_6, ek_p1, c_8, ek_p5, c_10, ek_p3, eq_true c_12, eka, c_16, eq_true c_18, if_true, ↓reduceIte]; done) | (simp [sp_hung, ek4, c_2, ek_p0, c_4, ek_p2, c_6, ek_p1, c_8, ek_p5, c_10, ek_p3, eq_true c_12, eka, c_16, eq_true c_18, if_true]; done) | (exfalso; clear hR C; simp_all; done))
                  · skip
                    refine tv_iinc (v := ((sp_hn (fun y => sp_so s j_p0 p1 (nI y) (40 * j_p2 + a)) i) + 1)) (lv' := [(8, .int ((sp_hn (fun y => sp_so s j_p0 p1 (nI y) (40 * j_p2 + a)) i) + 1)), (0, .ref (tv_ad c 0)), (1, .int p0), (2, .int p1), (3, .int p2), (4, .int p3), (5, .int p4), (6, .int p5), (7, .int (sp_ag s j_p2 p3 p4 3)), (9, .int (sp_hl (fun y => sp_so s j_p0 p1 (nI y) (40 * j_p2 + a)) i)), (10, .int (sp_hm (fun y => sp_so s j_p0 p1 (nI y) (40 * j_p2 + a)) i)), (11, .int (nI i))]) C dX8_hung_118 8 rfl rfl (by decide) rfl ?_
                    refine tv_iload C dX8_hung_121 9 rfl ?_
                    refine tv_bipush (v := (-9)) C dX8_hung_123 (by decide) ?_
                    refine tv_icmp_ne C 133 dX8_hung_125 (by decide) (fun c_19 => ?_) (fun c_19 => ?_)
                    · skip
                      refine tv_iload C dX8_hung_133 9 rfl ?_
                      refine tv_istore (lv' := [(9, .int (sp_hl (fun y => sp_so s j_p0 p1 (nI y) (40 * j_p2 + a)) i)), (8, .int ((sp_hn (fun y => sp_so s j_p0 p1 (nI y) (40 * j_p2 + a)) i) + 1)), (0, .ref (tv_ad c 0)), (1, .int p0), (2, .int p1), (3, .int p2), (4, .int p3), (5, .int p4), (6, .int p5), (7, .int (sp_ag s j_p2 p3 p4 3)), (10, .int (sp_hm (fun y => sp_so s j_p0 p1 (nI y) (40 * j_p2 + a)) i)), (11, .int (nI i))]) C dX8_hung_135 (by decide) rfl ?_
                      refine tv_iload C dX8_hung_137 11 rfl ?_
                      refine tv_istore (lv' := [(10, .int (nI i)), (9, .int (sp_hl (fun y => sp_so s j_p0 p1 (nI y) (40 * j_p2 + a)) i)), (8, .int ((sp_hn (fun y => sp_so s j_p0 p1 (nI y) (40 * j_p2 + a)) i) + 1)), (0, .ref (tv_ad c 0)), (1, .int p0), (2, .int p1), (3, .int p2), (4, .int p3), (5, .int p4), (6, .int p5), (7, .int (sp_ag s j_p2 p3 p4 3)), (11, .int (nI i))]) C dX8_hung_139 (by decide) rfl ?_
                      refine tv_iinc (v := ((nI i) + 1)) (lv' := [(11, .int ((nI i) + 1)), (10, .int (nI i)), (9, .int (sp_hl (fun y => sp_so s j_p0 p1 (nI y) (40 * j_p2 + a)) i)), (8, .int ((sp_hn (fun y => sp_so s j_p0 p1 (nI y) (40 * j_p2 + a)) i) + 1)), (0, .ref (tv_ad c 0)), (1, .int p0), (2, .int p1), (3, .int p2), (4, .int p3), (5, .int p4), (6, .int p5), (7, .int (sp_ag s j_p2 p3 p4 3))]) C dX8_hung_141 11 rfl rfl (by decide) rfl ?_
                      refine tv_goto C 91 dX8_hung_144 (by decide) ?_
                      refine tv_lsub [4, 5, 6, 7, 8, 9, 10, 11, 3, 2, 1, 0] rfl ?_
                      exact ih91 (i + 1) _ _ _ _ (by omega)  (by simp only [sp_hn, ek4, c_2, ek_p0, c_4, ek_p2, c_6, ek_p1, c_8, ek_p5, c_10, ek_p3, eq_true c_12, eka, c_16, c_18, c_19, ↓reduceIte]) (by simp only [sp_hl, ek4, c_2, ek_p0, c_4, ek_p2, c_6, ek_p1, c_8, ek_p5, c_10, ek_p3, eq_true c_12, eka, c_16, c_18, c_19, ↓reduceIte]) (by simp only [sp_hm, ek4, c_2, ek_p0, c_4, ek_p2, c_6, ek_p1, c_8, ek_p5, c_10, ek_p3, eq_true c_12, eka, c_16, c_18, c_19, ↓reduceIte]) (by first | rfl | exact nI_1 _ | (simp only [sp_hung, ek4, c_2, ek_p0, c_4, ek_p2, c_6, ek_p1, c_8, ek_p5, c_10, ek_p3, eq_true c_12, eka, c_16, c_18, c_19, if_true, ↓reduceIte]; done) | (simp [sp_hung, ek4, c_2, ek_p0, c_4, ek_p2, c_6, ek_p1, c_8, ek_p5, c_10, ek_p3, eq_true c_12, eka, c_16, c_18, c_19, if_true]; done) | (exfalso; clear hR C; simp_all; done))
                    · skip
                      refine tv_iload C dX8_hung_128 11 rfl ?_
                      refine tv_goto C 135 dX8_hung_130 (by decide) ?_
                      refine tv_istore (lv' := [(9, .int (nI i)), (8, .int ((sp_hn (fun y => sp_so s j_p0 p1 (nI y) (40 * j_p2 + a)) i) + 1)), (0, .ref (tv_ad c 0)), (1, .int p0), (2, .int p1), (3, .int p2), (4, .int p3), (5, .int p4), (6, .int p5), (7, .int (sp_ag s j_p2 p3 p4 3)), (10, .int (sp_hm (fun y => sp_so s j_p0 p1 (nI y) (40 * j_p2 + a)) i)), (11, .int (nI i))]) C dX8_hung_135 (by decide) rfl ?_
                      refine tv_iload C dX8_hung_137 11 rfl ?_
                      refine tv_istore (lv' := [(10, .int (nI i)), (9, .int (nI i)), (8, .int ((sp_hn (fun y => sp_so s j_p0 p1 (nI y) (40 * j_p2 + a)) i) + 1)), (0, .ref (tv_ad c 0)), (1, .int p0), (2, .int p1), (3, .int p2), (4, .int p3), (5, .int p4), (6, .int p5), (7, .int (sp_ag s j_p2 p3 p4 3)), (11, .int (nI i))]) C dX8_hung_139 (by decide) rfl ?_
                      refine tv_iinc (v := ((nI i) + 1)) (lv' := [(11, .int ((nI i) + 1)), (10, .int (nI i)), (9, .int (nI i)), (8, .int ((sp_hn (fun y => sp_so s j_p0 p1 (nI y) (40 * j_p2 + a)) i) + 1)), (0, .ref (tv_ad c 0)), (1, .int p0), (2, .int p1), (3, .int p2), (4, .int p3), (5, .int p4), (6, .int p5), (7, .int (sp_ag s j_p2 p3 p4 3))]) C dX8_hung_141 11 rfl rfl (by decide) rfl ?_
                      refine tv_goto C 91 dX8_hung_144 (by decide) ?_
                      refine tv_lsub [4, 5, 6, 7, 8, 9, 10, 11, 3, 2, 1, 0] rfl ?_
                      exact ih91 (i + 1) _ _ _ _ (by omega)  (by simp only [sp_hn, ek4, c_2, ek_p0, c_4, ek_p2, c_6, ek_p1, c_8, ek_p5, c_10, ek_p3, eq_true c_12, eka, c_16, c_18, eq_true c_19, ↓reduceIte]) (by simp only [sp_hl, ek4, c_2, ek_p0, c_4, ek_p2, c_6, ek_p1, c_8, ek_p5, c_10, ek_p3, eq_true c_12, eka, c_16, c_18, eq_true c_19, ↓reduceIte]) (by simp only [sp_hm, ek4, c_2, ek_p0, c_4, ek_p2, c_6, ek_p1, c_8, ek_p5, c_10, ek_p3, eq_true c_12, eka, c_16, c_18, eq_true c_19, ↓reduceIte]) (by first | rfl | exact nI_1 _ | (simp only [sp_hung, ek4, c_2, ek_p0, c_4, ek_p2, c_6, ek_p1, c_8, ek_p5, c_10, ek_p3, eq_true c_12, eka, c_16, c_18, eq_true c_19, if_true, ↓reduceIte]; done) | (simp [sp_hung, ek4, c_2, ek_p0, c_4, ek_p2, c_6, ek_p1, c_8, ek_p5, c_10, ek_p3, eq_true c_12, eka, c_16, c_18, eq_true c_19, if_true]; done) | (exfalso; clear hR C; simp_all; done))
              refine tv_lsub [5, 6, 7, 8, 9, 10, 11, 4, 3, 2, 1, 0] rfl ?_
              exact hL91 ((ny + 1) - 0) 0 _ _ _ _ (by omega)  (by first | (simp only [sp_hung, ek4, c_2, ek_p0, c_4, ek_p2, c_6, ek_p1, c_8, ek_p5, c_10, ek_p3, eq_true c_12, eka, if_true, ↓reduceIte]; done) | rfl | (simp [sp_hung, ek4, c_2, ek_p0, c_4, ek_p2, c_6, ek_p1, c_8, ek_p5, c_10, ek_p3, eq_true c_12, eka, if_true]; done) | (exfalso; clear hR C; simp_all; done)) (by first | (simp only [sp_hung, ek4, c_2, ek_p0, c_4, ek_p2, c_6, ek_p1, c_8, ek_p5, c_10, ek_p3, eq_true c_12, eka, if_true, ↓reduceIte]; done) | rfl | (simp [sp_hung, ek4, c_2, ek_p0, c_4, ek_p2, c_6, ek_p1, c_8, ek_p5, c_10, ek_p3, eq_true c_12, eka, if_true]; done) | (exfalso; clear hR C; simp_all; done)) (by first | (simp only [sp_hung, ek4, c_2, ek_p0, c_4, ek_p2, c_6, ek_p1, c_8, ek_p5, c_10, ek_p3, eq_true c_12, eka, if_true, ↓reduceIte]; done) | rfl | (simp [sp_hung, ek4, c_2, ek_p0, c_4, ek_p2, c_6, ek_p1, c_8, ek_p5, c_10, ek_p3, eq_true c_12, eka, if_true]; done) | (exfalso; clear hR C; simp_all; done)) (by first | (simp only [sp_hung, ek4, c_2, ek_p0, c_4, ek_p2, c_6, ek_p1, c_8, ek_p5, c_10, ek_p3, eq_true c_12, eka, if_true, ↓reduceIte]; done) | rfl | (simp [sp_hung, ek4, c_2, ek_p0, c_4, ek_p2, c_6, ek_p1, c_8, ek_p5, c_10, ek_p3, eq_true c_12, eka, if_true]; done) | (exfalso; clear hR C; simp_all; done))
            · skip
              refine tv_aload_n C dX8_hung_70 rfl 1 rfl ?_
              refine tv_iload C dX8_hung_71 0 rfl ?_
              refine tv_calli (As := [.int (sp_ag s j_p2 p3 p4 3)]) (rest := []) (ci := 8) (cn := RX8) (T := TX8) (Nf := 35) C 0 (kX8_fails c (ts_s s 0 0) r  (sp_ag s j_p2 p3 p4 3) ) gX8_hung_X8_fails rfl yd_X8_fails ⟨rfl, rfl⟩ (by decide) (by decide) rfl rfl rfl rfl (Nat.le_of_ble_eq_true rfl) dX8_hung_73 (fun q_20 u_20 z_20 => ?_)
              obtain ⟨rfl, rfl⟩ := z_20
              show tv_V c 19 X (eM c (ts_s (ts_s s 0 0) 0 (sp_ag s j_p2 p3 p4 3)) r) 76 [(7, .int (sp_ag s j_p2 p3 p4 3)), (0, .ref (tv_ad c 0)), (1, .int p0), (2, .int p1), (3, .int p2), (4, .int p3), (5, .int p4), (6, .int p5)] [.int ((-10) - (sp_ag s j_p2 p3 p4 3))]
              refine tv_eqE (E' := (eM c (ts_s s 0 (sp_ag s j_p2 p3 p4 3)) r)) (congrArg (fun z => eM c z r) (by funext zz; rcases Classical.em (zz = 0) with hzz | h_0; (subst hzz; rfl); simp only [ts_s, ts_a, h_0, ↓reduceIte])) ?_
              show tv_V c 19 X (eM c (ts_s s 0 (sp_ag s j_p2 p3 p4 3)) r) 76 [(7, .int (sp_ag s j_p2 p3 p4 3)), (0, .ref (tv_ad c 0)), (1, .int p0), (2, .int p1), (3, .int p2), (4, .int p3), (5, .int p4), (6, .int p5)] [.int ((-10) - (sp_ag s j_p2 p3 p4 3))]
              exact hR _ _ _ _ dX8_hung_76 ⟨by first | (simp only [sp_hung, ek4, c_2, ek_p0, c_4, ek_p2, c_6, ek_p1, c_8, ek_p5, c_10, ek_p3, c_12, if_true, ↓reduceIte]; done) | rfl | (simp [sp_hung, ek4, c_2, ek_p0, c_4, ek_p2, c_6, ek_p1, c_8, ek_p5, c_10, ek_p3, c_12, if_true]; done) | (exfalso; clear hR C; simp_all; done), by first | (simp only [sp_hung, ek4, c_2, ek_p0, c_4, ek_p2, c_6, ek_p1, c_8, ek_p5, c_10, ek_p3, c_12, if_true, ts_ss, ts_aa, ↓reduceIte]; done) | rfl | (simp [sp_hung, ek4, c_2, ek_p0, c_4, ek_p2, c_6, ek_p1, c_8, ek_p5, c_10, ek_p3, c_12, if_true, ts_ss, ts_aa]; done) | (exfalso; clear hR C; simp_all; done)⟩
          · skip
            refine tv_bipush (v := (-2)) C dX8_hung_50 (by decide) ?_
            exact hR _ _ _ _ dX8_hung_52 ⟨by first | (simp only [sp_hung, ek4, c_2, ek_p0, c_4, ek_p2, c_6, ek_p1, c_8, ek_p5, eq_true c_10, if_true, ↓reduceIte]; done) | rfl | (simp [sp_hung, ek4, c_2, ek_p0, c_4, ek_p2, c_6, ek_p1, c_8, ek_p5, eq_true c_10, if_true]; done) | (exfalso; clear hR C; simp_all; done), by first | (simp only [sp_hung, ek4, c_2, ek_p0, c_4, ek_p2, c_6, ek_p1, c_8, ek_p5, eq_true c_10, if_true, ts_ss, ts_aa, ↓reduceIte]; done) | rfl | (simp [sp_hung, ek4, c_2, ek_p0, c_4, ek_p2, c_6, ek_p1, c_8, ek_p5, eq_true c_10, if_true, ts_ss, ts_aa]; done) | (exfalso; clear hR C; simp_all; done)⟩
    · skip
      refine tv_iconst (v := (-1)) C dX8_hung_20 (by decide) ?_
      exact hR _ _ _ _ dX8_hung_21 ⟨by first | (simp only [sp_hung, ek4, c_2, ek_p0, eq_true c_4, if_true, ↓reduceIte]; done) | rfl | (simp [sp_hung, ek4, c_2, ek_p0, eq_true c_4, if_true]; done) | (exfalso; clear hR C; simp_all; done), by first | (simp only [sp_hung, ek4, c_2, ek_p0, eq_true c_4, if_true, ts_ss, ts_aa, ↓reduceIte]; done) | rfl | (simp [sp_hung, ek4, c_2, ek_p0, eq_true c_4, if_true, ts_ss, ts_aa]; done) | (exfalso; clear hR C; simp_all; done)⟩
set_option maxHeartbeats 4000000 in
set_option maxRecDepth 100000 in
theorem kX8_old (c : tv_c) (s r : ts_T)  (p0 p1 p2 p3 p4 : Int32) (hI : iv s) : tv_Fl c 19 yX8_old wsX8_old { frames := 3, cells := 0, slots := 0, locals := 78 } [.ref (tv_ad c 0), .int p0, .int p1, .int p2, .int p3, .int p4] (eM c s r) ((sp_old s p0 p1 p2 p3 p4).1) (eM c (sp_old s p0 p1 p2 p3 p4).2 r) := by
  refine tv_metL (by decide +kernel) rfl rfl (Nat.le_of_ble_eq_true rfl) (fun X C hR => ?_)
  show tv_V c 19 X (eM c s r) 0 [(0, .ref (tv_ad c 0)), (1, .int p0), (2, .int p1), (3, .int p2), (4, .int p3), (5, .int p4)] []
  have hC := iv.hC hI
  obtain ⟨h, w, n, nk, nl, ny, nm, li, e2, e3, e9, hnw, hh, hw, hn, hz, hp, e7, hk, e8, hl, e4, hy, e5, hm, e6, hli, hcel, hkin, hban, hwei, hshe⟩ := id hI
  refine tv_aload_n C dX8_old_0 rfl 0 rfl ?_
  refine tv_iconst (v := 0) C dX8_old_1 (by decide) ?_
  refine tv_put (ci := 8) (Cn := RX8) (T := TX8) (Nf := 35) (ty := .int) (E' := (eM c (ts_s s 0 0) r)) C 0 (by decide) rfl rfl in_X8_old_X8 tyX8 tyX8_ok nmX8 0 (by decide) lk_X8_old_65 rfl (by decide +kernel) rfl rfl (Nat.le_of_ble_eq_true rfl) (eM_u_fault c s r 0) dX8_old_2 ?_
  refine tv_aload_n C dX8_old_5 rfl 0 rfl ?_
  refine tv_iload_n C dX8_old_6 rfl 1 rfl ?_
  refine tv_calli (As := [.int p0]) (rest := []) (ci := 8) (cn := RX8) (T := TX8) (Nf := 35) C 0 (kX8_isCoat c (ts_s s 0 0) r  p0 ) gX8_old_X8_isCoat rfl yd_X8_isCoat ⟨rfl, rfl⟩ (by decide) (by decide) rfl rfl rfl rfl (Nat.le_of_ble_eq_true rfl) dX8_old_7 (fun q_1 u_1 z_1 => ?_)
  obtain ⟨rfl, rfl⟩ := z_1
  show tv_V c 19 X (eM c (ts_s s 0 0) r) 10 [(0, .ref (tv_ad c 0)), (1, .int p0), (2, .int p1), (3, .int p2), (4, .int p3), (5, .int p4)] [.int (sp_ix p0 (s 7 0))]
  refine tv_if_eq C 38 dX8_old_10 (by decide) (fun c_2 => ?_) (fun c_2 => ?_)
  · skip
    refine tv_ldc2 (v := (-9223372036854775808)) C wd_X8_old_k69 dX8_old_38 ?_
    exact hR _ _ _ _ dX8_old_41 ⟨by first | (simp only [sp_old, eq_true c_2, if_true, ↓reduceIte]; done) | rfl | (simp [sp_old, eq_true c_2, if_true]; done) | (exfalso; clear hR C; simp_all; done), by first | (simp only [sp_old, eq_true c_2, if_true, ts_ss, ts_aa, ↓reduceIte]; done) | rfl | (simp [sp_old, eq_true c_2, if_true, ts_ss, ts_aa]; done) | (exfalso; clear hR C; simp_all; done)⟩
  · skip
    obtain ⟨j_p0, hj_p0, ej_p0, ek_p0⟩ := in_ix e7 (by omega) c_2
    refine tv_iload_n C dX8_old_13 rfl 3 rfl ?_
    refine tv_callis (As := [.int p2]) (rest := []) C (kX8_isSheet c (ts_s s 0 0) r  p2 ) gX8_old_X8_isSheet rfl yd_X8_isSheet ⟨rfl, rfl⟩ (by decide) rfl rfl (Nat.le_of_ble_eq_true rfl) dX8_old_14 (fun q_3 u_3 z_3 => ?_)
    obtain ⟨rfl, rfl⟩ := z_3
    show tv_V c 19 X (eM c (ts_s s 0 0) r) 17 [(0, .ref (tv_ad c 0)), (1, .int p0), (2, .int p1), (3, .int p2), (4, .int p3), (5, .int p4)] [.int (sp_in p2 0 3)]
    refine tv_if_eq C 38 dX8_old_17 (by decide) (fun c_4 => ?_) (fun c_4 => ?_)
    · skip
      refine tv_ldc2 (v := (-9223372036854775808)) C wd_X8_old_k69 dX8_old_38 ?_
      exact hR _ _ _ _ dX8_old_41 ⟨by first | (simp only [sp_old, c_2, ek_p0, eq_true c_4, if_true, ↓reduceIte]; done) | rfl | (simp [sp_old, c_2, ek_p0, eq_true c_4, if_true]; done) | (exfalso; clear hR C; simp_all; done), by first | (simp only [sp_old, c_2, ek_p0, eq_true c_4, if_true, ts_ss, ts_aa, ↓reduceIte]; done) | rfl | (simp [sp_old, c_2, ek_p0, eq_true c_4, if_true, ts_ss, ts_aa]; done) | (exfalso; clear hR C; simp_all; done)⟩
    · skip
      obtain ⟨j_p2, hj_p2, ej_p2, ek_p2⟩ := in_in (b := 3) (by decide) c_4
      refine tv_iload_n C dX8_old_20 rfl 2 rfl ?_
      refine tv_iconst (v := 0) C dX8_old_21 (by decide) ?_
      refine tv_bipush (v := 9) C dX8_old_22 (by decide) ?_
      refine tv_callis (As := [.int p1, .int 0, .int 9]) (rest := []) C (kX8_within c (ts_s s 0 0) r  p1 0 9 ) gX8_old_X8_within rfl yd_X8_within ⟨rfl, rfl⟩ (by decide) rfl rfl (Nat.le_of_ble_eq_true rfl) dX8_old_24 (fun q_5 u_5 z_5 => ?_)
      obtain ⟨rfl, rfl⟩ := z_5
      show tv_V c 19 X (eM c (ts_s s 0 0) r) 27 [(0, .ref (tv_ad c 0)), (1, .int p0), (2, .int p1), (3, .int p2), (4, .int p3), (5, .int p4)] [.int (sp_in p1 0 9)]
      refine tv_if_eq C 38 dX8_old_27 (by decide) (fun c_6 => ?_) (fun c_6 => ?_)
      · skip
        refine tv_ldc2 (v := (-9223372036854775808)) C wd_X8_old_k69 dX8_old_38 ?_
        exact hR _ _ _ _ dX8_old_41 ⟨by first | (simp only [sp_old, c_2, ek_p0, c_4, ek_p2, eq_true c_6, if_true, ↓reduceIte]; done) | rfl | (simp [sp_old, c_2, ek_p0, c_4, ek_p2, eq_true c_6, if_true]; done) | (exfalso; clear hR C; simp_all; done), by first | (simp only [sp_old, c_2, ek_p0, c_4, ek_p2, eq_true c_6, if_true, ts_ss, ts_aa, ↓reduceIte]; done) | rfl | (simp [sp_old, c_2, ek_p0, c_4, ek_p2, eq_true c_6, if_true, ts_ss, ts_aa]; done) | (exfalso; clear hR C; simp_all; done)⟩
      · skip
        obtain ⟨j_p1, hj_p1, ej_p1, ek_p1⟩ := in_in (b := 9) (by decide) c_6
        refine tv_iload C dX8_old_30 4 rfl ?_
        refine tv_callis (As := [.int p3]) (rest := []) C (kX8_isSort c (ts_s s 0 0) r  p3 ) gX8_old_X8_isSort rfl yd_X8_isSort ⟨rfl, rfl⟩ (by decide) rfl rfl (Nat.le_of_ble_eq_true rfl) dX8_old_32 (fun q_7 u_7 z_7 => ?_)
        obtain ⟨rfl, rfl⟩ := z_7
        show tv_V c 19 X (eM c (ts_s s 0 0) r) 35 [(0, .ref (tv_ad c 0)), (1, .int p0), (2, .int p1), (3, .int p2), (4, .int p3), (5, .int p4)] [.int (sp_in p3 0 2)]
        refine tv_if_ne C 42 dX8_old_35 (by decide) (fun c_8 => ?_) (fun c_8 => ?_)
        · skip
          obtain ⟨j_p3, hj_p3, ej_p3, ek_p3⟩ := in_in (b := 2) (by decide) c_8
          refine tv_aload_n C dX8_old_42 rfl 0 rfl ?_
          refine tv_iload_n C dX8_old_43 rfl 3 rfl ?_
          refine tv_iload C dX8_old_44 4 rfl ?_
          refine tv_iload C dX8_old_46 5 rfl ?_
          refine tv_iconst (v := 3) C dX8_old_48 (by decide) ?_
          refine tv_calli (As := [.int p2, .int p3, .int p4, .int 3]) (rest := []) (ci := 8) (cn := RX8) (T := TX8) (Nf := 35) C 0 (kX8_against c (ts_s s 0 0) r j_p2 p2 p3 p4 3 ej_p2 (by omega) (hshe j_p2 (by omega))) gX8_old_X8_against rfl yd_X8_against ⟨rfl, rfl⟩ (by decide) (by decide) rfl rfl rfl rfl (Nat.le_of_ble_eq_true rfl) dX8_old_49 (fun q_9 u_9 z_9 => ?_)
          obtain ⟨rfl, rfl⟩ := z_9
          show tv_V c 19 X (eM c (ts_s s 0 0) r) 52 [(0, .ref (tv_ad c 0)), (1, .int p0), (2, .int p1), (3, .int p2), (4, .int p3), (5, .int p4)] [.int (sp_ag s j_p2 p3 p4 3)]
          refine tv_istore (lv' := [(6, .int (sp_ag s j_p2 p3 p4 3)), (0, .ref (tv_ad c 0)), (1, .int p0), (2, .int p1), (3, .int p2), (4, .int p3), (5, .int p4)]) C dX8_old_52 (by decide) rfl ?_
          refine tv_iload C dX8_old_54 0 rfl ?_
          refine tv_if_eq C 66 dX8_old_56 (by decide) (fun c_10 => ?_) (fun c_10 => ?_)
          · skip
            obtain ⟨a, b3, L, ea, eb, eL, hL, hab, eka, ekb⟩ := sp_ag_z (hshe j_p2 (by omega)) c_10
            have hb3 : b3 = 3 := by rw [← ekb]; rfl
            refine tv_lconst (v := 0) C dX8_old_66 (by decide) ?_
            refine tv_lstore (lv' := [(7, .long 0), (6, .int (sp_ag s j_p2 p3 p4 3)), (0, .ref (tv_ad c 0)), (1, .int p0), (2, .int p1), (3, .int p2), (4, .int p3), (5, .int p4)]) C dX8_old_67 (by decide) rfl ?_
            refine tv_iconst (v := 0) C dX8_old_69 (by decide) ?_
            refine tv_istore (lv' := [(9, .int 0), (7, .long 0), (6, .int (sp_ag s j_p2 p3 p4 3)), (0, .ref (tv_ad c 0)), (1, .int p0), (2, .int p1), (3, .int p2), (4, .int p3), (5, .int p4)]) C dX8_old_70 (by decide) rfl ?_
            have hL72 : ∀ (k_72 i : Nat) (x_72_7 : Int64) (x_72_9 : Int32), i + k_72 = 41 → x_72_7 = (sp_od (fun y => sp_so s j_p0 p1 (nI y) (40 * j_p2 + a)) i) → x_72_9 = (nI i) → tv_V c 19 X (eM c (ts_s s 0 0) r) 72 [(0, .ref (tv_ad c 0)), (1, .int p0), (2, .int p1), (3, .int p2), (4, .int p3), (5, .int p4), (6, .int (sp_ag s j_p2 p3 p4 3)), (7, .long x_72_7), (9, .int x_72_9)] [] := by
              intro k_72
              induction k_72 with
              | zero =>
                intro i x_72_7 x_72_9 hi72  ex_72_7 ex_72_9
                subst ex_72_7
                subst ex_72_9
                have hN72 : i = 41 := by omega
                refine tv_iload C dX8_old_72 8 rfl ?_
                refine tv_bipush (v := 40) C dX8_old_74 (by decide) ?_
                refine tv_icmp_gt C 116 dX8_old_76 (by decide) (fun c_11 => ?_) (fun c_11 => absurd (tn_lt (tn_l 40) (rfl : nI i = nI i) (by omega) (by omega)) c_11)
                refine tv_lload C dX8_old_116 7 rfl ?_
                exact hR _ _ _ _ dX8_old_118 ⟨by first | (simp only [sp_old, c_2, ek_p0, c_4, ek_p2, c_6, ek_p1, c_8, ek_p3, eq_true c_10, eka, hN72, c_11, if_true, ↓reduceIte]; done) | rfl | (simp [sp_old, c_2, ek_p0, c_4, ek_p2, c_6, ek_p1, c_8, ek_p3, eq_true c_10, eka, hN72, c_11, if_true]; done) | (exfalso; clear hR C; simp_all; done), by first | (simp only [sp_old, c_2, ek_p0, c_4, ek_p2, c_6, ek_p1, c_8, ek_p3, eq_true c_10, eka, hN72, c_11, if_true, ts_ss, ts_aa, ↓reduceIte]; done) | rfl | (simp [sp_old, c_2, ek_p0, c_4, ek_p2, c_6, ek_p1, c_8, ek_p3, eq_true c_10, eka, hN72, c_11, if_true, ts_ss, ts_aa]; done) | (exfalso; clear hR C; simp_all; done)⟩
              | succ k_72 ih72 =>
                intro i x_72_7 x_72_9 hi72  ex_72_7 ex_72_9
                subst ex_72_7
                subst ex_72_9
                have hN72 : i < 41 := by omega
                refine tv_iload C dX8_old_72 8 rfl ?_
                refine tv_bipush (v := 40) C dX8_old_74 (by decide) ?_
                refine tv_icmp_gt C 116 dX8_old_76 (by decide) (fun c_12 => absurd c_12 (tn_nlt (tn_l 40) (rfl : nI i = nI i) (by omega) (by omega))) (fun c_12 => ?_)
                refine tv_lload C dX8_old_79 7 rfl ?_
                refine tv_aload_n C dX8_old_81 rfl 0 rfl ?_
                refine tv_iload_n C dX8_old_82 rfl 1 rfl ?_
                refine tv_iload_n C dX8_old_83 rfl 2 rfl ?_
                refine tv_iload C dX8_old_84 8 rfl ?_
                refine tv_bipush (v := 40) C dX8_old_86 (by decide) ?_
                refine tv_iload_n C dX8_old_88 rfl 3 rfl ?_
                refine tv_imul C dX8_old_89 ?_
                refine tv_iload C dX8_old_90 5 rfl ?_
                refine tv_iadd C dX8_old_92 ?_
                refine tv_calli (As := [.int p0, .int p1, .int (nI i), .int ((40 * p2) + p4)]) (rest := [.long (sp_od (fun y => sp_so s j_p0 p1 (nI y) (40 * j_p2 + a)) i)]) (ci := 8) (cn := RX8) (T := TX8) (Nf := 35) C 0 (kX8_isSo c (ts_s s 0 0) r j_p0 ((40 * j_p2) + a) p0 p1 (nI i) ((40 * p2) + p4) ej_p0 (by omega) (tn_add (tn_mul (tn_l 40) ej_p2) ea) (by omega)) gX8_old_X8_isSo rfl yd_X8_isSo ⟨rfl, rfl⟩ (by decide) (by decide) rfl rfl rfl rfl (Nat.le_of_ble_eq_true rfl) dX8_old_93 (fun q_13 u_13 z_13 => ?_)
                obtain ⟨rfl, rfl⟩ := z_13
                show tv_V c 19 X (eM c (ts_s s 0 0) r) 96 [(0, .ref (tv_ad c 0)), (1, .int p0), (2, .int p1), (3, .int p2), (4, .int p3), (5, .int p4), (6, .int (sp_ag s j_p2 p3 p4 3)), (7, .long (sp_od (fun y => sp_so s j_p0 p1 (nI y) (40 * j_p2 + a)) i)), (9, .int (nI i))] [.int (sp_so s j_p0 p1 (nI i) (40 * j_p2 + a)), .long (sp_od (fun y => sp_so s j_p0 p1 (nI y) (40 * j_p2 + a)) i)]
                refine tv_if_eq C 106 dX8_old_96 (by decide) (fun c_14 => ?_) (fun c_14 => ?_)
                · skip
                  refine tv_lconst (v := 0) C dX8_old_106 (by decide) ?_
                  refine tv_lor C dX8_old_107 ?_
                  refine tv_lstore (lv' := [(7, .long ((sp_od (fun y => sp_so s j_p0 p1 (nI y) (40 * j_p2 + a)) i) ||| 0)), (0, .ref (tv_ad c 0)), (1, .int p0), (2, .int p1), (3, .int p2), (4, .int p3), (5, .int p4), (6, .int (sp_ag s j_p2 p3 p4 3)), (9, .int (nI i))]) C dX8_old_108 (by decide) rfl ?_
                  refine tv_iinc (v := ((nI i) + 1)) (lv' := [(9, .int ((nI i) + 1)), (7, .long ((sp_od (fun y => sp_so s j_p0 p1 (nI y) (40 * j_p2 + a)) i) ||| 0)), (0, .ref (tv_ad c 0)), (1, .int p0), (2, .int p1), (3, .int p2), (4, .int p3), (5, .int p4), (6, .int (sp_ag s j_p2 p3 p4 3))]) C dX8_old_110 8 rfl rfl (by decide) rfl ?_
                  refine tv_goto C 72 dX8_old_113 (by decide) ?_
                  refine tv_lsub [2, 3, 4, 5, 6, 7, 8, 1, 0] rfl ?_
                  exact ih72 (i + 1) _ _ (by omega)  (by first | (simp only [sp_od, c_2, ek_p0, c_4, ek_p2, c_6, ek_p1, c_8, ek_p3, eq_true c_10, eka, c_12, eq_true c_14, ↓reduceIte]; done) | (simp only [sp_od, c_2, ek_p0, c_4, ek_p2, c_6, ek_p1, c_8, ek_p3, eq_true c_10, eka, c_12, eq_true c_14, ↓reduceIte]; exact Int64.or_zero)) (by first | rfl | exact nI_1 _ | (simp only [sp_old, c_2, ek_p0, c_4, ek_p2, c_6, ek_p1, c_8, ek_p3, eq_true c_10, eka, c_12, eq_true c_14, if_true, ↓reduceIte]; done) | (simp [sp_old, c_2, ek_p0, c_4, ek_p2, c_6, ek_p1, c_8, ek_p3, eq_true c_10, eka, c_12, eq_true c_14, if_true]; done) | (exfalso; clear hR C; simp_all; done))
                · skip
                  refine tv_lconst (v := 1) C dX8_old_99 (by decide) ?_
                  refine tv_iload C dX8_old_100 8 rfl ?_
                  refine tv_lshl C dX8_old_102 ?_
                  refine tv_goto C 107 dX8_old_103 (by decide) ?_
                  refine tv_lor C dX8_old_107 ?_
                  refine tv_lstore (lv' := [(7, .long ((sp_od (fun y => sp_so s j_p0 p1 (nI y) (40 * j_p2 + a)) i) ||| ((1 : Int64) <<< ((nI i).toInt64 &&& 63)))), (0, .ref (tv_ad c 0)), (1, .int p0), (2, .int p1), (3, .int p2), (4, .int p3), (5, .int p4), (6, .int (sp_ag s j_p2 p3 p4 3)), (9, .int (nI i))]) C dX8_old_108 (by decide) rfl ?_
                  refine tv_iinc (v := ((nI i) + 1)) (lv' := [(9, .int ((nI i) + 1)), (7, .long ((sp_od (fun y => sp_so s j_p0 p1 (nI y) (40 * j_p2 + a)) i) ||| ((1 : Int64) <<< ((nI i).toInt64 &&& 63)))), (0, .ref (tv_ad c 0)), (1, .int p0), (2, .int p1), (3, .int p2), (4, .int p3), (5, .int p4), (6, .int (sp_ag s j_p2 p3 p4 3))]) C dX8_old_110 8 rfl rfl (by decide) rfl ?_
                  refine tv_goto C 72 dX8_old_113 (by decide) ?_
                  refine tv_lsub [2, 3, 4, 5, 6, 7, 8, 1, 0] rfl ?_
                  exact ih72 (i + 1) _ _ (by omega)  (by first | (simp only [sp_od, c_2, ek_p0, c_4, ek_p2, c_6, ek_p1, c_8, ek_p3, eq_true c_10, eka, c_12, c_14, ↓reduceIte]; done) | (simp only [sp_od, c_2, ek_p0, c_4, ek_p2, c_6, ek_p1, c_8, ek_p3, eq_true c_10, eka, c_12, c_14, ↓reduceIte]; exact Int64.or_zero)) (by first | rfl | exact nI_1 _ | (simp only [sp_old, c_2, ek_p0, c_4, ek_p2, c_6, ek_p1, c_8, ek_p3, eq_true c_10, eka, c_12, c_14, if_true, ↓reduceIte]; done) | (simp [sp_old, c_2, ek_p0, c_4, ek_p2, c_6, ek_p1, c_8, ek_p3, eq_true c_10, eka, c_12, c_14, if_true]; done) | (exfalso; clear hR C; simp_all; done))
            refine tv_lsub [3, 4, 5, 6, 7, 8, 2, 1, 0] rfl ?_
            exact hL72 (41 - 0) 0 _ _ (by omega)  (by first | (simp only [sp_old, c_2, ek_p0, c_4, ek_p2, c_6, ek_p1, c_8, ek_p3, eq_true c_10, eka, if_true, ↓reduceIte]; done) | rfl | (simp [sp_old, c_2, ek_p0, c_4, ek_p2, c_6, ek_p1, c_8, ek_p3, eq_true c_10, eka, if_true]; done) | (exfalso; clear hR C; simp_all; done)) (by first | (simp only [sp_old, c_2, ek_p0, c_4, ek_p2, c_6, ek_p1, c_8, ek_p3, eq_true c_10, eka, if_true, ↓reduceIte]; done) | rfl | (simp [sp_old, c_2, ek_p0, c_4, ek_p2, c_6, ek_p1, c_8, ek_p3, eq_true c_10, eka, if_true]; done) | (exfalso; clear hR C; simp_all; done))
          · skip
            refine tv_aload_n C dX8_old_59 rfl 1 rfl ?_
            refine tv_iload C dX8_old_60 0 rfl ?_
            refine tv_calll (As := [.int (sp_ag s j_p2 p3 p4 3)]) (rest := []) (ci := 8) (cn := RX8) (T := TX8) (Nf := 35) C 0 (kX8_lost c (ts_s s 0 0) r  (sp_ag s j_p2 p3 p4 3) ) gX8_old_X8_lost rfl yd_X8_lost ⟨rfl, rfl⟩ (by decide) (by decide) rfl rfl rfl rfl (Nat.le_of_ble_eq_true rfl) dX8_old_62 (fun q_15 u_15 z_15 => ?_)
            obtain ⟨rfl, rfl⟩ := z_15
            show tv_V c 19 X (eM c (ts_s (ts_s s 0 0) 0 (sp_ag s j_p2 p3 p4 3)) r) 65 [(6, .int (sp_ag s j_p2 p3 p4 3)), (0, .ref (tv_ad c 0)), (1, .int p0), (2, .int p1), (3, .int p2), (4, .int p3), (5, .int p4)] [.long (-9223372036854775808)]
            refine tv_eqE (E' := (eM c (ts_s s 0 (sp_ag s j_p2 p3 p4 3)) r)) (congrArg (fun z => eM c z r) (by funext zz; rcases Classical.em (zz = 0) with hzz | h_0; (subst hzz; rfl); simp only [ts_s, ts_a, h_0, ↓reduceIte])) ?_
            show tv_V c 19 X (eM c (ts_s s 0 (sp_ag s j_p2 p3 p4 3)) r) 65 [(6, .int (sp_ag s j_p2 p3 p4 3)), (0, .ref (tv_ad c 0)), (1, .int p0), (2, .int p1), (3, .int p2), (4, .int p3), (5, .int p4)] [.long (-9223372036854775808)]
            exact hR _ _ _ _ dX8_old_65 ⟨by first | (simp only [sp_old, c_2, ek_p0, c_4, ek_p2, c_6, ek_p1, c_8, ek_p3, c_10, if_true, ↓reduceIte]; done) | rfl | (simp [sp_old, c_2, ek_p0, c_4, ek_p2, c_6, ek_p1, c_8, ek_p3, c_10, if_true]; done) | (exfalso; clear hR C; simp_all; done), by first | (simp only [sp_old, c_2, ek_p0, c_4, ek_p2, c_6, ek_p1, c_8, ek_p3, c_10, if_true, ts_ss, ts_aa, ↓reduceIte]; done) | rfl | (simp [sp_old, c_2, ek_p0, c_4, ek_p2, c_6, ek_p1, c_8, ek_p3, c_10, if_true, ts_ss, ts_aa]; done) | (exfalso; clear hR C; simp_all; done)⟩
        · skip
          refine tv_ldc2 (v := (-9223372036854775808)) C wd_X8_old_k69 dX8_old_38 ?_
          exact hR _ _ _ _ dX8_old_41 ⟨by first | (simp only [sp_old, c_2, ek_p0, c_4, ek_p2, c_6, ek_p1, eq_true c_8, if_true, ↓reduceIte]; done) | rfl | (simp [sp_old, c_2, ek_p0, c_4, ek_p2, c_6, ek_p1, eq_true c_8, if_true]; done) | (exfalso; clear hR C; simp_all; done), by first | (simp only [sp_old, c_2, ek_p0, c_4, ek_p2, c_6, ek_p1, eq_true c_8, if_true, ts_ss, ts_aa, ↓reduceIte]; done) | rfl | (simp [sp_old, c_2, ek_p0, c_4, ek_p2, c_6, ek_p1, eq_true c_8, if_true, ts_ss, ts_aa]; done) | (exfalso; clear hR C; simp_all; done)⟩
set_option maxHeartbeats 4000000 in
set_option maxRecDepth 100000 in
theorem kX8_years (c : tv_c) (s r : ts_T)  (p0 : Int32) (hI : iv s) : tv_Fi c 19 yX8_years wsX8_years { frames := 1, cells := 0, slots := 0, locals := 22 } [.ref (tv_ad c 0), .int p0] (eM c s r) ((sp_years s p0).1) (eM c (sp_years s p0).2 r) := by
  refine tv_metI (by decide +kernel) rfl rfl (Nat.le_of_ble_eq_true rfl) (fun X C hR => ?_)
  show tv_V c 19 X (eM c s r) 0 [(0, .ref (tv_ad c 0)), (1, .int p0)] []
  have hC := iv.hC hI
  obtain ⟨h, w, n, nk, nl, ny, nm, li, e2, e3, e9, hnw, hh, hw, hn, hz, hp, e7, hk, e8, hl, e4, hy, e5, hm, e6, hli, hcel, hkin, hban, hwei, hshe⟩ := id hI
  have ek9 := tk_e e9 (by omega)
  refine tv_iload_n C dX8_years_0 rfl 1 rfl ?_
  refine tv_iconst (v := 0) C dX8_years_1 (by decide) ?_
  refine tv_bipush (v := 40) C dX8_years_2 (by decide) ?_
  refine tv_callis (As := [.int p0, .int 0, .int 40]) (rest := []) C (kX8_within c s r  p0 0 40 ) gX8_years_X8_within rfl yd_X8_within ⟨rfl, rfl⟩ (by decide) rfl rfl (Nat.le_of_ble_eq_true rfl) dX8_years_4 (fun q_1 u_1 z_1 => ?_)
  obtain ⟨rfl, rfl⟩ := z_1
  refine tv_if_eq C 21 dX8_years_7 (by decide) (fun c_2 => ?_) (fun c_2 => ?_)
  · skip
    refine tv_bipush (v := (-2)) C dX8_years_21 (by decide) ?_
    exact hR _ _ _ _ dX8_years_23 ⟨by first | (simp only [sp_years, ek9, eq_true c_2, if_true, ↓reduceIte]; done) | rfl | (simp [sp_years, ek9, eq_true c_2, if_true]; done) | (exfalso; clear hR C; simp_all; done), by first | (simp only [sp_years, ek9, eq_true c_2, if_true, ts_ss, ts_aa, ↓reduceIte]; done) | rfl | (simp [sp_years, ek9, eq_true c_2, if_true, ts_ss, ts_aa]; done) | (exfalso; clear hR C; simp_all; done)⟩
  · skip
    obtain ⟨j_p0, hj_p0, ej_p0, ek_p0⟩ := in_in (b := 40) (by decide) c_2
    refine tv_aload_n C dX8_years_10 rfl 0 rfl ?_
    refine tv_get (ci := 8) (Cn := RX8) (T := TX8) (Nf := 35) (v := .int (s 4 0)) C 0 (by decide) rfl rfl in_X8_years_X8 7 (by decide) lk_X8_years_112 rfl dX8_years_11 ?_
    refine tv_iload_n C dX8_years_14 rfl 1 rfl ?_
    refine tv_iadd C dX8_years_15 ?_
    refine tv_bipush (v := 40) C dX8_years_16 (by decide) ?_
    refine tv_icmp_le C 24 dX8_years_18 (by decide) (fun c_3 => ?_) (fun c_3 => ?_)
    · skip
      refine tv_aload_n C dX8_years_24 rfl 0 rfl ?_
      refine tv_calli (As := []) (rest := []) (ci := 8) (cn := RX8) (T := TX8) (Nf := 35) C 0 (kX8_all c s r   hC) gX8_years_X8_all rfl yd_X8_all ⟨rfl, rfl⟩ (by decide) (by decide) rfl rfl rfl rfl (Nat.le_of_ble_eq_true rfl) dX8_years_25 (fun q_4 u_4 z_4 => ?_)
      obtain ⟨rfl, rfl⟩ := z_4
      refine tv_if_ne C 34 dX8_years_28 (by decide) (fun c_5 => ?_) (fun c_5 => ?_)
      · skip
        have nc_5 : ¬ n = 0 := tn_nf (tn_eqI e9 (tn_l 0) (by omega) (by omega)) c_5
        refine tv_iconst (v := 0) C dX8_years_34 (by decide) ?_
        refine tv_istore_n (lv' := [(2, .int 0), (0, .ref (tv_ad c 0)), (1, .int p0)]) C dX8_years_35 rfl (by decide) rfl ?_
        have hL36 : ∀ (k_36 i : Nat) (x_36_2 : Int32) (w_36 : Nat → va_E), i + k_36 = n → x_36_2 = (nI i) → w_36 = (eM c (ts_a (ts_a s 12 (yr_h s p0 i)) 13 (yr_a s p0 i)) r) → tv_V c 19 X w_36 36 [(0, .ref (tv_ad c 0)), (1, .int p0), (2, .int x_36_2)] [] := by
          intro k_36
          induction k_36 with
          | zero =>
            intro i x_36_2 w_36 hi36  ex_36_2 ew_36
            subst ex_36_2
            subst ew_36
            have hN36 : i = n := by omega
            refine tv_iload_n C dX8_years_36 rfl 2 rfl ?_
            refine tv_aload_n C dX8_years_37 rfl 0 rfl ?_
            refine tv_calli (As := []) (rest := [.int (nI i)]) (ci := 8) (cn := RX8) (T := TX8) (Nf := 35) C 0 (kX8_all c (ts_a (ts_a s 12 (yr_h s p0 i)) 13 (yr_a s p0 i)) r   hC) gX8_years_X8_all rfl yd_X8_all ⟨rfl, rfl⟩ (by decide) (by decide) rfl rfl rfl rfl (Nat.le_of_ble_eq_true rfl) dX8_years_38 (fun q_6 u_6 z_6 => ?_)
            obtain ⟨rfl, rfl⟩ := z_6
            show tv_V c 19 X (eM c (ts_a (ts_a s 12 (yr_h s p0 i)) 13 (yr_a s p0 i)) r) 41 [(0, .ref (tv_ad c 0)), (1, .int p0), (2, .int (nI i))] [.int (s 9 0), .int (nI i)]
            refine tv_icmp_ge C 86 dX8_years_41 (by decide) (fun c_7 => ?_) (fun c_7 => absurd (tn_le e9 (rfl : nI i = nI i) (by omega) (by omega)) c_7)
            refine tv_aload_n C dX8_years_86 rfl 0 rfl ?_
            refine tv_dup C dX8_years_87 rfl ?_
            refine tv_get (ci := 8) (Cn := RX8) (T := TX8) (Nf := 35) (v := .int (s 4 0)) C 0 (by decide) rfl rfl in_X8_years_X8 7 (by decide) lk_X8_years_112 rfl dX8_years_88 ?_
            refine tv_iload_n C dX8_years_91 rfl 1 rfl ?_
            refine tv_iadd C dX8_years_92 ?_
            refine tv_put (ci := 8) (Cn := RX8) (T := TX8) (Nf := 35) (ty := .int) (E' := (eM c (ts_s (ts_a (ts_a s 12 (yr_h s p0 i)) 13 (yr_a s p0 i)) 4 ((s 4 0) + p0)) r)) C 0 (by decide) rfl rfl in_X8_years_X8 tyX8 tyX8_ok nmX8 7 (by decide) lk_X8_years_112 rfl (by decide +kernel) rfl rfl (Nat.le_of_ble_eq_true rfl) (eM_u_year c (ts_a (ts_a s 12 (yr_h s p0 i)) 13 (yr_a s p0 i)) r ((s 4 0) + p0)) dX8_years_93 ?_
            refine tv_aload_n C dX8_years_96 rfl 0 rfl ?_
            refine tv_get (ci := 8) (Cn := RX8) (T := TX8) (Nf := 35) (v := .int ((s 4 0) + p0)) C 0 (by decide) rfl rfl in_X8_years_X8 7 (by decide) lk_X8_years_112 rfl dX8_years_97 ?_
            exact hR _ _ _ _ dX8_years_100 ⟨by first | (simp only [sp_years, ek9, c_2, ek_p0, c_3, tn_d_le c_3, c_5, nc_5, hN36, c_7, if_true, ↓reduceIte]; done) | rfl | (simp [sp_years, ek9, c_2, ek_p0, c_3, tn_d_le c_3, c_5, nc_5, hN36, c_7, if_true]; done) | (exfalso; clear hR C; simp_all; done), by first | (simp only [sp_years, ek9, c_2, ek_p0, c_3, tn_d_le c_3, c_5, nc_5, hN36, c_7, if_true, ts_ss, ts_aa, ↓reduceIte]; done) | rfl | (simp [sp_years, ek9, c_2, ek_p0, c_3, tn_d_le c_3, c_5, nc_5, hN36, c_7, if_true, ts_ss, ts_aa]; done) | (exfalso; clear hR C; simp_all; done)⟩
          | succ k_36 ih36 =>
            intro i x_36_2 w_36 hi36  ex_36_2 ew_36
            subst ex_36_2
            subst ew_36
            have hN36 : i < n := by omega
            refine tv_iload_n C dX8_years_36 rfl 2 rfl ?_
            refine tv_aload_n C dX8_years_37 rfl 0 rfl ?_
            refine tv_calli (As := []) (rest := [.int (nI i)]) (ci := 8) (cn := RX8) (T := TX8) (Nf := 35) C 0 (kX8_all c (ts_a (ts_a s 12 (yr_h s p0 i)) 13 (yr_a s p0 i)) r   hC) gX8_years_X8_all rfl yd_X8_all ⟨rfl, rfl⟩ (by decide) (by decide) rfl rfl rfl rfl (Nat.le_of_ble_eq_true rfl) dX8_years_38 (fun q_8 u_8 z_8 => ?_)
            obtain ⟨rfl, rfl⟩ := z_8
            show tv_V c 19 X (eM c (ts_a (ts_a s 12 (yr_h s p0 i)) 13 (yr_a s p0 i)) r) 41 [(0, .ref (tv_ad c 0)), (1, .int p0), (2, .int (nI i))] [.int (s 9 0), .int (nI i)]
            refine tv_icmp_ge C 86 dX8_years_41 (by decide) (fun c_9 => absurd c_9 (tn_nle e9 (rfl : nI i = nI i) (by omega) (by omega))) (fun c_9 => ?_)
            refine tv_aload_n C dX8_years_44 rfl 0 rfl ?_
            refine tv_get (ci := 8) (Cn := RX8) (T := TX8) (Nf := 35) (v := .ref (tv_ad c 8)) C 0 (by decide) rfl rfl in_X8_years_X8 14 (by decide) lk_X8_years_31 rfl dX8_years_45 ?_
            refine tv_iload_n C dX8_years_48 rfl 2 rfl ?_
            refine tv_zald (f := (s 14)) (v := (s 14 i)) C 8 (by decide) rfl i (rfl : nI i = nI i) (show i < 24 by omega) (by decide) rfl dX8_years_49 ?_
            refine tv_if_ne C 80 dX8_years_50 (by decide) (fun c_10 => ?_) (fun c_10 => ?_)
            · skip
              refine tv_iinc (v := ((nI i) + 1)) (lv' := [(2, .int ((nI i) + 1)), (0, .ref (tv_ad c 0)), (1, .int p0)]) C dX8_years_80 2 rfl rfl (by decide) rfl ?_
              refine tv_goto C 36 dX8_years_83 (by decide) ?_
              refine tv_lsub [1, 2, 0] rfl ?_
              exact ih36 (i + 1) _ _ (by omega)  (by first | rfl | exact nI_1 _ | (simp only [sp_years, ek9, c_2, ek_p0, c_3, tn_d_le c_3, c_5, nc_5, c_9, c_10, if_true, ↓reduceIte]; done) | (simp [sp_years, ek9, c_2, ek_p0, c_3, tn_d_le c_3, c_5, nc_5, c_9, c_10, if_true]; done) | (exfalso; clear hR C; simp_all; done)) (by (rcases Classical.em (s 14 i = 0) with z | z <;> first | exact absurd z (by assumption) | exact absurd (by assumption) z | (rw [← yr_h_s z, ← yr_a_s z]; done) | (rw [← yr_h_n z, ← yr_a_n z]; done)))
            · skip
              refine tv_aload_n C dX8_years_53 rfl 0 rfl ?_
              refine tv_get (ci := 8) (Cn := RX8) (T := TX8) (Nf := 35) (v := .ref (tv_ad c 6)) C 0 (by decide) rfl rfl in_X8_years_X8 12 (by decide) lk_X8_years_25 rfl dX8_years_54 ?_
              refine tv_iload_n C dX8_years_57 rfl 2 rfl ?_
              refine tv_dup2 C dX8_years_58 rfl rfl ?_
              refine tv_iald (f := (yr_h s p0 i)) (v := ((yr_h s p0 i) i)) C 6 (by decide) rfl i (rfl : nI i = nI i) (show i < 24 by omega) (by decide) rfl dX8_years_59 ?_
              refine tv_iload_n C dX8_years_60 rfl 1 rfl ?_
              refine tv_aload_n C dX8_years_61 rfl 0 rfl ?_
              refine tv_get (ci := 8) (Cn := RX8) (T := TX8) (Nf := 35) (v := .ref (tv_ad c 4)) C 0 (by decide) rfl rfl in_X8_years_X8 10 (by decide) lk_X8_years_19 rfl dX8_years_62 ?_
              refine tv_iload_n C dX8_years_65 rfl 2 rfl ?_
              refine tv_iald (f := (s 10)) (v := (s 10 i)) C 4 (by decide) rfl i (rfl : nI i = nI i) (show i < 24 by omega) (by decide) rfl dX8_years_66 ?_
              refine tv_imul C dX8_years_67 ?_
              refine tv_iadd C dX8_years_68 ?_
              refine tv_iast (E' := (eM c (ts_a (ts_a s 12 (upd (yr_h s p0 i) i (((yr_h s p0 i) i) + (p0 * (s 10 i))))) 13 (yr_a s p0 i)) r)) C 6 (by decide) rfl i (rfl : nI i = nI i) (show i < 24 by omega) (by decide) ((eM_u_had c (ts_a (ts_a s 12 (yr_h s p0 i)) 13 (yr_a s p0 i)) r (upd (yr_h s p0 i) i (((yr_h s p0 i) i) + (p0 * (s 10 i))))).trans (congrArg (fun z => eM c z r) (by funext zz; rcases Classical.em (zz = 12) with hzz | h_12; (subst hzz; rfl); rcases Classical.em (zz = 13) with hzz | h_13; (subst hzz; rfl); simp only [ts_s, ts_a, h_12, h_13, ↓reduceIte]))) dX8_years_69 ?_
              refine tv_aload_n C dX8_years_70 rfl 0 rfl ?_
              refine tv_get (ci := 8) (Cn := RX8) (T := TX8) (Nf := 35) (v := .ref (tv_ad c 7)) C 0 (by decide) rfl rfl in_X8_years_X8 13 (by decide) lk_X8_years_28 rfl dX8_years_71 ?_
              refine tv_iload_n C dX8_years_74 rfl 2 rfl ?_
              refine tv_dup2 C dX8_years_75 rfl rfl ?_
              refine tv_iald (f := (yr_a s p0 i)) (v := ((yr_a s p0 i) i)) C 7 (by decide) rfl i (rfl : nI i = nI i) (show i < 24 by omega) (by decide) rfl dX8_years_76 ?_
              refine tv_iload_n C dX8_years_77 rfl 1 rfl ?_
              refine tv_iadd C dX8_years_78 ?_
              refine tv_iast (E' := (eM c (ts_a (ts_a s 12 (upd (yr_h s p0 i) i (((yr_h s p0 i) i) + (p0 * (s 10 i))))) 13 (upd (yr_a s p0 i) i (((yr_a s p0 i) i) + p0))) r)) C 7 (by decide) rfl i (rfl : nI i = nI i) (show i < 24 by omega) (by decide) ((eM_u_air c (ts_a (ts_a s 12 (upd (yr_h s p0 i) i (((yr_h s p0 i) i) + (p0 * (s 10 i))))) 13 (yr_a s p0 i)) r (upd (yr_a s p0 i) i (((yr_a s p0 i) i) + p0))).trans (by first | (rw [ts_mg]; done) | (rw [ts_mg]; rfl) | (rw [ts_ss]; done) | (rw [ts_ss]; rfl))) dX8_years_79 ?_
              refine tv_iinc (v := ((nI i) + 1)) (lv' := [(2, .int ((nI i) + 1)), (0, .ref (tv_ad c 0)), (1, .int p0)]) C dX8_years_80 2 rfl rfl (by decide) rfl ?_
              refine tv_goto C 36 dX8_years_83 (by decide) ?_
              refine tv_lsub [1, 2, 0] rfl ?_
              exact ih36 (i + 1) _ _ (by omega)  (by first | rfl | exact nI_1 _ | (simp only [sp_years, ek9, c_2, ek_p0, c_3, tn_d_le c_3, c_5, nc_5, c_9, eq_true c_10, if_true, ↓reduceIte]; done) | (simp [sp_years, ek9, c_2, ek_p0, c_3, tn_d_le c_3, c_5, nc_5, c_9, eq_true c_10, if_true]; done) | (exfalso; clear hR C; simp_all; done)) (by (rcases Classical.em (s 14 i = 0) with z | z <;> first | exact absurd z (by assumption) | exact absurd (by assumption) z | (rw [← yr_h_s z, ← yr_a_s z]; done) | (rw [← yr_h_n z, ← yr_a_n z]; done)))
        refine tv_lsub [1, 2, 0] rfl ?_
        exact hL36 (n - 0) 0 _ _ (by omega)  (by first | (simp only [sp_years, ek9, c_2, ek_p0, c_3, tn_d_le c_3, c_5, nc_5, if_true, ↓reduceIte]; done) | rfl | (simp [sp_years, ek9, c_2, ek_p0, c_3, tn_d_le c_3, c_5, nc_5, if_true]; done) | (exfalso; clear hR C; simp_all; done)) (by rw [yr_h_0, yr_a_0, ts_id, ts_id])
      · skip
        have nc_5 : n = 0 := (tn_eqI e9 (tn_l 0) (by omega) (by omega)).mp c_5
        refine tv_bipush (v := (-3)) C dX8_years_31 (by decide) ?_
        exact hR _ _ _ _ dX8_years_33 ⟨by first | (simp only [sp_years, ek9, c_2, ek_p0, c_3, tn_d_le c_3, eq_true c_5, nc_5, if_true, ↓reduceIte]; done) | rfl | (simp [sp_years, ek9, c_2, ek_p0, c_3, tn_d_le c_3, eq_true c_5, nc_5, if_true]; done) | (exfalso; clear hR C; simp_all; done), by first | (simp only [sp_years, ek9, c_2, ek_p0, c_3, tn_d_le c_3, eq_true c_5, nc_5, if_true, ts_ss, ts_aa, ↓reduceIte]; done) | rfl | (simp [sp_years, ek9, c_2, ek_p0, c_3, tn_d_le c_3, eq_true c_5, nc_5, if_true, ts_ss, ts_aa]; done) | (exfalso; clear hR C; simp_all; done)⟩
    · skip
      refine tv_bipush (v := (-2)) C dX8_years_21 (by decide) ?_
      exact hR _ _ _ _ dX8_years_23 ⟨by first | (simp only [sp_years, ek9, c_2, ek_p0, c_3, tn_d_nle c_3, if_true, ↓reduceIte]; done) | rfl | (simp [sp_years, ek9, c_2, ek_p0, c_3, tn_d_nle c_3, if_true]; done) | (exfalso; clear hR C; simp_all; done), by first | (simp only [sp_years, ek9, c_2, ek_p0, c_3, tn_d_nle c_3, if_true, ts_ss, ts_aa, ↓reduceIte]; done) | rfl | (simp [sp_years, ek9, c_2, ek_p0, c_3, tn_d_nle c_3, if_true, ts_ss, ts_aa]; done) | (exfalso; clear hR C; simp_all; done)⟩
set_option maxHeartbeats 4000000 in
set_option maxRecDepth 100000 in
theorem kX8_isEdge (c : tv_c) (s r : ts_T) (nl : Nat) (a : Nat) (b : Nat) (p0 p1 : Int32) (e_p0 : p0 = nI a) (h_p0 : a < 24) (e_p1 : p1 = nI b) (h_p1 : b < 24) (hca : ∃ k, k < 6 ∧ s 11 a = nI k) (hcb : ∃ k, k < 6 ∧ s 11 b = nI k) (el : s 8 0 = nI nl) (hl : nl ≤ 4) : tv_Fi c 19 yX8_isEdge wsX8_isEdge { frames := 4, cells := 0, slots := 0, locals := 103 } [.ref (tv_ad c 0), .int p0, .int p1] (eM c s r) (sp_ed s a b) (eM c s r) := by
  refine tv_metZ (by decide +kernel) rfl rfl (Nat.le_of_ble_eq_true rfl) (fun X C hR => ?_)
  show tv_V c 19 X (eM c s r) 0 [(0, .ref (tv_ad c 0)), (1, .int p0), (2, .int p1)] []
  have ek8 := tk_e el (by omega)
  refine tv_iconst (v := 0) C dX8_isEdge_0 (by decide) ?_
  refine tv_istore_n (lv' := [(3, .int 0), (0, .ref (tv_ad c 0)), (1, .int p0), (2, .int p1)]) C dX8_isEdge_1 rfl (by decide) rfl ?_
  have hL2 : ∀ (k_2 i : Nat) (x_2_3 : Int32), i + k_2 = nl → (sp_any (sp_ht s a b) i = false) → x_2_3 = (nI i) → tv_V c 19 X (eM c s r) 2 [(0, .ref (tv_ad c 0)), (1, .int p0), (2, .int p1), (3, .int x_2_3)] [] := by
    intro k_2
    induction k_2 with
    | zero =>
      intro i x_2_3 hi2 q0 ex_2_3
      subst ex_2_3
      have hN2 : i = nl := by omega
      refine tv_iload_n C dX8_isEdge_2 rfl 3 rfl ?_
      refine tv_aload_n C dX8_isEdge_3 rfl 0 rfl ?_
      refine tv_get (ci := 8) (Cn := RX8) (T := TX8) (Nf := 35) (v := .int (s 8 0)) C 0 (by decide) rfl rfl in_X8_isEdge_X8 22 (by decide) lk_X8_isEdge_121 rfl dX8_isEdge_4 ?_
      refine tv_icmp_ge C 78 dX8_isEdge_7 (by decide) (fun c_1 => ?_) (fun c_1 => absurd (tn_le el (rfl : nI i = nI i) (by omega) (by omega)) c_1)
      refine tv_iconst (v := 0) C dX8_isEdge_78 (by decide) ?_
      exact hR _ _ _ _ dX8_isEdge_79 (by first | rfl | exact tn_nz (sp_in_z _ _ _) | exact tn_nz (sp_ix_z _ _)) ⟨by rw [sp_ed, ek8, ← hN2, q0]; rfl, by first | (simp only [ek8, q0, c_1, if_true, ts_ss, ts_aa, ↓reduceIte]; done) | rfl | (simp [ek8, q0, c_1, if_true, ts_ss, ts_aa]; done) | (exfalso; clear hR C; simp_all; done)⟩
    | succ k_2 ih2 =>
      intro i x_2_3 hi2 q0 ex_2_3
      subst ex_2_3
      have hN2 : i < nl := by omega
      refine tv_iload_n C dX8_isEdge_2 rfl 3 rfl ?_
      refine tv_aload_n C dX8_isEdge_3 rfl 0 rfl ?_
      refine tv_get (ci := 8) (Cn := RX8) (T := TX8) (Nf := 35) (v := .int (s 8 0)) C 0 (by decide) rfl rfl in_X8_isEdge_X8 22 (by decide) lk_X8_isEdge_121 rfl dX8_isEdge_4 ?_
      refine tv_icmp_ge C 78 dX8_isEdge_7 (by decide) (fun c_2 => absurd c_2 (tn_nle el (rfl : nI i = nI i) (by omega) (by omega))) (fun c_2 => ?_)
      refine tv_iconst (v := 0) C dX8_isEdge_10 (by decide) ?_
      refine tv_istore (lv' := [(4, .int 0), (0, .ref (tv_ad c 0)), (1, .int p0), (2, .int p1), (3, .int (nI i))]) C dX8_isEdge_11 (by decide) rfl ?_
      refine tv_iload C dX8_isEdge_13 0 rfl ?_
      refine tv_iconst (v := 2) C dX8_isEdge_15 (by decide) ?_
      refine tv_icmp_ge C 72 dX8_isEdge_16 (by decide) (fun c_3 => absurd c_3 (by decide)) (fun c_3 => ?_)
      refine tv_aload_n C dX8_isEdge_19 rfl 1 rfl ?_
      refine tv_iload_n C dX8_isEdge_20 rfl 2 rfl ?_
      refine tv_iload_n C dX8_isEdge_21 rfl 4 rfl ?_
      refine tv_iload C dX8_isEdge_22 0 rfl ?_
      refine tv_iconst (v := 1) C dX8_isEdge_24 (by decide) ?_
      refine tv_icmp_ne C 32 dX8_isEdge_25 (by decide) (fun c_4 => ?_) (fun c_4 => absurd c_4 (by decide))
      refine tv_iconst (v := 0) C dX8_isEdge_32 (by decide) ?_
      refine tv_calli (As := [.int p0, .int (nI i), .int 0]) (rest := []) (ci := 8) (cn := RX8) (T := TX8) (Nf := 35) C 0 (kX8_lookNow c s r a i p0 (nI i) 0 e_p0 (by omega) (rfl : nI i = nI i) (by omega) hca) gX8_isEdge_X8_lookNow rfl yd_X8_lookNow ⟨rfl, rfl⟩ (by decide) (by decide) rfl rfl rfl rfl (Nat.le_of_ble_eq_true rfl) dX8_isEdge_33 (fun q_5 u_5 z_5 => ?_)
      obtain ⟨rfl, rfl⟩ := z_5
      refine tv_aload_n C dX8_isEdge_36 rfl 1 rfl ?_
      refine tv_iload_n C dX8_isEdge_37 rfl 3 rfl ?_
      refine tv_iload_n C dX8_isEdge_38 rfl 4 rfl ?_
      refine tv_iload C dX8_isEdge_39 0 rfl ?_
      refine tv_iconst (v := 1) C dX8_isEdge_41 (by decide) ?_
      refine tv_icmp_ne C 49 dX8_isEdge_42 (by decide) (fun c_6 => ?_) (fun c_6 => absurd c_6 (by decide))
      refine tv_iconst (v := 0) C dX8_isEdge_49 (by decide) ?_
      refine tv_calli (As := [.int p1, .int (nI i), .int 0]) (rest := [.int (sp_ln s a i 0)]) (ci := 8) (cn := RX8) (T := TX8) (Nf := 35) C 0 (kX8_lookNow c s r b i p1 (nI i) 0 e_p1 (by omega) (rfl : nI i = nI i) (by omega) hcb) gX8_isEdge_X8_lookNow rfl yd_X8_lookNow ⟨rfl, rfl⟩ (by decide) (by decide) rfl rfl rfl rfl (Nat.le_of_ble_eq_true rfl) dX8_isEdge_50 (fun q_7 u_7 z_7 => ?_)
      obtain ⟨rfl, rfl⟩ := z_7
      refine tv_isub C dX8_isEdge_53 ?_
      refine tv_callis (As := [.int ((sp_ln s a i 0) - (sp_ln s b i 0))]) (rest := []) C (kX8_size c s r  ((sp_ln s a i 0) - (sp_ln s b i 0)) ) gX8_isEdge_X8_size rfl yd_X8_size ⟨rfl, rfl⟩ (by decide) rfl rfl (Nat.le_of_ble_eq_true rfl) dX8_isEdge_54 (fun q_8 u_8 z_8 => ?_)
      obtain ⟨rfl, rfl⟩ := z_8
      refine tv_aload_n C dX8_isEdge_57 rfl 1 rfl ?_
      refine tv_get (ci := 8) (Cn := RX8) (T := TX8) (Nf := 35) (v := .int (s 6 0)) C 0 (by decide) rfl rfl in_X8_isEdge_X8 9 (by decide) lk_X8_isEdge_118 rfl dX8_isEdge_58 ?_
      refine tv_icmp_lt C 66 dX8_isEdge_61 (by decide) (fun c_9 => ?_) (fun c_9 => ?_)
      · skip
        refine tv_iinc (v := 1) (lv' := [(4, .int 1), (0, .ref (tv_ad c 0)), (1, .int p0), (2, .int p1), (3, .int (nI i))]) C dX8_isEdge_66 0 rfl (by decide) (by decide) rfl ?_
        refine tv_goto C 13 dX8_isEdge_69 (by decide) ?_
        refine tv_iload C dX8_isEdge_13 0 rfl ?_
        refine tv_iconst (v := 2) C dX8_isEdge_15 (by decide) ?_
        refine tv_icmp_ge C 72 dX8_isEdge_16 (by decide) (fun c_10 => absurd c_10 (by decide)) (fun c_10 => ?_)
        refine tv_aload_n C dX8_isEdge_19 rfl 1 rfl ?_
        refine tv_iload_n C dX8_isEdge_20 rfl 2 rfl ?_
        refine tv_iload_n C dX8_isEdge_21 rfl 4 rfl ?_
        refine tv_iload C dX8_isEdge_22 0 rfl ?_
        refine tv_iconst (v := 1) C dX8_isEdge_24 (by decide) ?_
        refine tv_icmp_ne C 32 dX8_isEdge_25 (by decide) (fun c_11 => absurd (by decide) c_11) (fun c_11 => ?_)
        refine tv_iconst (v := 1) C dX8_isEdge_28 (by decide) ?_
        refine tv_goto C 33 dX8_isEdge_29 (by decide) ?_
        refine tv_calli (As := [.int p0, .int (nI i), .int 1]) (rest := []) (ci := 8) (cn := RX8) (T := TX8) (Nf := 35) C 0 (kX8_lookNow c s r a i p0 (nI i) 1 e_p0 (by omega) (rfl : nI i = nI i) (by omega) hca) gX8_isEdge_X8_lookNow rfl yd_X8_lookNow ⟨rfl, rfl⟩ (by decide) (by decide) rfl rfl rfl rfl (Nat.le_of_ble_eq_true rfl) dX8_isEdge_33 (fun q_12 u_12 z_12 => ?_)
        obtain ⟨rfl, rfl⟩ := z_12
        refine tv_aload_n C dX8_isEdge_36 rfl 1 rfl ?_
        refine tv_iload_n C dX8_isEdge_37 rfl 3 rfl ?_
        refine tv_iload_n C dX8_isEdge_38 rfl 4 rfl ?_
        refine tv_iload C dX8_isEdge_39 0 rfl ?_
        refine tv_iconst (v := 1) C dX8_isEdge_41 (by decide) ?_
        refine tv_icmp_ne C 49 dX8_isEdge_42 (by decide) (fun c_13 => absurd (by decide) c_13) (fun c_13 => ?_)
        refine tv_iconst (v := 1) C dX8_isEdge_45 (by decide) ?_
        refine tv_goto C 50 dX8_isEdge_46 (by decide) ?_
        refine tv_calli (As := [.int p1, .int (nI i), .int 1]) (rest := [.int (sp_ln s a i 1)]) (ci := 8) (cn := RX8) (T := TX8) (Nf := 35) C 0 (kX8_lookNow c s r b i p1 (nI i) 1 e_p1 (by omega) (rfl : nI i = nI i) (by omega) hcb) gX8_isEdge_X8_lookNow rfl yd_X8_lookNow ⟨rfl, rfl⟩ (by decide) (by decide) rfl rfl rfl rfl (Nat.le_of_ble_eq_true rfl) dX8_isEdge_50 (fun q_14 u_14 z_14 => ?_)
        obtain ⟨rfl, rfl⟩ := z_14
        refine tv_isub C dX8_isEdge_53 ?_
        refine tv_callis (As := [.int ((sp_ln s a i 1) - (sp_ln s b i 1))]) (rest := []) C (kX8_size c s r  ((sp_ln s a i 1) - (sp_ln s b i 1)) ) gX8_isEdge_X8_size rfl yd_X8_size ⟨rfl, rfl⟩ (by decide) rfl rfl (Nat.le_of_ble_eq_true rfl) dX8_isEdge_54 (fun q_15 u_15 z_15 => ?_)
        obtain ⟨rfl, rfl⟩ := z_15
        refine tv_aload_n C dX8_isEdge_57 rfl 1 rfl ?_
        refine tv_get (ci := 8) (Cn := RX8) (T := TX8) (Nf := 35) (v := .int (s 6 0)) C 0 (by decide) rfl rfl in_X8_isEdge_X8 9 (by decide) lk_X8_isEdge_118 rfl dX8_isEdge_58 ?_
        refine tv_icmp_lt C 66 dX8_isEdge_61 (by decide) (fun c_16 => ?_) (fun c_16 => ?_)
        · skip
          refine tv_iinc (v := 2) (lv' := [(4, .int 2), (0, .ref (tv_ad c 0)), (1, .int p0), (2, .int p1), (3, .int (nI i))]) C dX8_isEdge_66 0 rfl (by decide) (by decide) rfl ?_
          refine tv_goto C 13 dX8_isEdge_69 (by decide) ?_
          refine tv_iload C dX8_isEdge_13 0 rfl ?_
          refine tv_iconst (v := 2) C dX8_isEdge_15 (by decide) ?_
          refine tv_icmp_ge C 72 dX8_isEdge_16 (by decide) (fun c_17 => ?_) (fun c_17 => absurd (by decide) c_17)
          refine tv_iinc (v := ((nI i) + 1)) (lv' := [(3, .int ((nI i) + 1)), (4, .int 2), (0, .ref (tv_ad c 0)), (1, .int p0), (2, .int p1)]) C dX8_isEdge_72 4 rfl rfl (by decide) rfl ?_
          refine tv_goto C 2 dX8_isEdge_75 (by decide) ?_
          refine tv_lsub [2, 3, 4, 0] rfl ?_
          exact ih2 (i + 1) _ (by omega) (by exact sp_any_s q0 (by simp [sp_ht, ek8, q0, c_2, c_9, tn_d_lt c_9, c_16, tn_d_lt c_16])) (by first | rfl | exact nI_1 _ | (simp only [ek8, q0, c_2, c_9, tn_d_lt c_9, c_16, tn_d_lt c_16, if_true, ↓reduceIte]; done) | (simp [ek8, q0, c_2, c_9, tn_d_lt c_9, c_16, tn_d_lt c_16, if_true]; done) | (exfalso; clear hR C; simp_all; done))
        · skip
          refine tv_iconst (v := 1) C dX8_isEdge_64 (by decide) ?_
          exact hR _ _ _ _ dX8_isEdge_65 (by first | rfl | exact tn_nz (sp_in_z _ _ _) | exact tn_nz (sp_ix_z _ _)) ⟨by rw [sp_ed, ek8, sp_any_t hN2 (by simp [sp_ht, ek8, q0, c_2, c_9, tn_d_lt c_9, c_16, tn_d_nlt c_16])]; rfl, by first | (simp only [ek8, q0, c_2, c_9, tn_d_lt c_9, c_16, tn_d_nlt c_16, if_true, ts_ss, ts_aa, ↓reduceIte]; done) | rfl | (simp [ek8, q0, c_2, c_9, tn_d_lt c_9, c_16, tn_d_nlt c_16, if_true, ts_ss, ts_aa]; done) | (exfalso; clear hR C; simp_all; done)⟩
      · skip
        refine tv_iconst (v := 1) C dX8_isEdge_64 (by decide) ?_
        exact hR _ _ _ _ dX8_isEdge_65 (by first | rfl | exact tn_nz (sp_in_z _ _ _) | exact tn_nz (sp_ix_z _ _)) ⟨by rw [sp_ed, ek8, sp_any_t hN2 (by simp [sp_ht, ek8, q0, c_2, c_9, tn_d_nlt c_9])]; rfl, by first | (simp only [ek8, q0, c_2, c_9, tn_d_nlt c_9, if_true, ts_ss, ts_aa, ↓reduceIte]; done) | rfl | (simp [ek8, q0, c_2, c_9, tn_d_nlt c_9, if_true, ts_ss, ts_aa]; done) | (exfalso; clear hR C; simp_all; done)⟩
  refine tv_lsub [1, 2, 3, 0] rfl ?_
  exact hL2 (nl - 0) 0 _ (by omega) (by rfl) (by first | (simp only [ek8, if_true, ↓reduceIte]; done) | rfl | (simp [ek8, if_true]; done) | (exfalso; clear hR C; simp_all; done))
