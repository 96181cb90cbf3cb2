set_option maxRecDepth 20000 in
theorem in_X8_copy_X8 : ∀ w ∈ u_ws RX8 TX8 35, w ∈ wsX8_copy := by decide +kernel
set_option maxRecDepth 20000 in
theorem lk_X8_copy_65 : Cond.fieldLink RX8 65 (TX8 0).1 (TX8 0).2.1 (TX8 0).2.2.1 ∈ wsX8_copy := by decide +kernel
set_option maxRecDepth 20000 in
theorem lk_X8_copy_9 : Cond.fieldLink RX8 9 (TX8 2).1 (TX8 2).2.1 (TX8 2).2.2.1 ∈ wsX8_copy := by decide +kernel
set_option maxRecDepth 20000 in
theorem lk_X8_copy_13 : Cond.fieldLink RX8 13 (TX8 3).1 (TX8 3).2.1 (TX8 3).2.2.1 ∈ wsX8_copy := by decide +kernel
set_option maxRecDepth 20000 in
theorem lk_X8_copy_16 : Cond.fieldLink RX8 16 (TX8 4).1 (TX8 4).2.1 (TX8 4).2.2.1 ∈ wsX8_copy := by decide +kernel
set_option maxHeartbeats 4000000 in
set_option maxRecDepth 100000 in
theorem kX8_copy (c : tv_c) (s r : ts_T)  (p0 p1 p2 p3 p4 : Int32) (hI : iv s) : tv_Fi c 19 yX8_copy wsX8_copy { frames := 2, cells := 0, slots := 0, locals := 42 } [.ref (tv_ad c 0), .int p0, .int p1, .int p2, .int p3, .int p4] (eM c s r) ((sp_copy s p0 p1 p2 p3 p4).1) (eM c (sp_copy s p0 p1 p2 p3 p4).2 r) := by
  refine tv_metI (by decide +kernel) rfl rfl (Nat.le_of_ble_eq_true rfl) (fun X C hR => ?_)
  show tv_V c 19 X (eM c s r) 0 [(0, .ref (tv_ad c 0)), (1, .int p0), (2, .int p1), (3, .int p2), (4, .int p3), (5, .int p4)] []
  have hC := iv.hC hI
  obtain ⟨h, w, n, nk, nl, ny, nm, li, e2, e3, e9, hnw, hh, hw, hn, hz, hp, e7, hk, e8, hl, e4, hy, e5, hm, e6, hli, hcel, hkin, hban, hwei, hshe⟩ := id hI
  refine tv_aload_n C dX8_copy_0 rfl 0 rfl ?_
  refine tv_iconst (v := 0) C dX8_copy_1 (by decide) ?_
  refine tv_put (ci := 8) (Cn := RX8) (T := TX8) (Nf := 35) (ty := .int) (E' := (eM c (ts_s s 0 0) r)) C 0 (by decide) rfl rfl in_X8_copy_X8 tyX8 tyX8_ok nmX8 0 (by decide) lk_X8_copy_65 rfl (by decide +kernel) rfl rfl (Nat.le_of_ble_eq_true rfl) (eM_u_fault c s r 0) dX8_copy_2 ?_
  refine tv_iload_n C dX8_copy_5 rfl 1 rfl ?_
  refine tv_callis (As := [.int p0]) (rest := []) C (kX8_isSheet c (ts_s s 0 0) r  p0 ) gX8_copy_X8_isSheet rfl yd_X8_isSheet ⟨rfl, rfl⟩ (by decide) rfl rfl (Nat.le_of_ble_eq_true rfl) dX8_copy_6 (fun q_1 u_1 z_1 => ?_)
  obtain ⟨rfl, rfl⟩ := z_1
  show tv_V c 19 X (eM c (ts_s s 0 0) r) 9 [(0, .ref (tv_ad c 0)), (1, .int p0), (2, .int p1), (3, .int p2), (4, .int p3), (5, .int p4)] [.int (sp_in p0 0 3)]
  refine tv_if_eq C 19 dX8_copy_9 (by decide) (fun c_2 => ?_) (fun c_2 => ?_)
  · skip
    refine tv_iconst (v := (-1)) C dX8_copy_19 (by decide) ?_
    exact hR _ _ _ _ dX8_copy_20 ⟨by first | (simp only [sp_copy, sp_rc, tn_10, eq_true c_2, ts_ss, ↓reduceIte]; done) | (simp only [sp_copy, sp_rc, tn_10, eq_true c_2, ts_ss, ↓reduceIte]; (repeat' split) <;> first | rfl | (exfalso; simp_all; done)), by first | (simp only [sp_copy, sp_rc, tn_10, eq_true c_2, ts_ss, ↓reduceIte]; done) | (simp only [sp_copy, sp_rc, tn_10, eq_true c_2, ts_ss, ↓reduceIte]; (repeat' split) <;> first | rfl | (exfalso; simp_all; done))⟩
  · skip
    obtain ⟨j_p0, hj_p0, ej_p0, ek_p0⟩ := in_in (b := 3) (by decide) c_2
    refine tv_iload_n C dX8_copy_12 rfl 3 rfl ?_
    refine tv_callis (As := [.int p2]) (rest := []) C (kX8_isSheet c (ts_s s 0 0) r  p2 ) gX8_copy_X8_isSheet rfl yd_X8_isSheet ⟨rfl, rfl⟩ (by decide) rfl rfl (Nat.le_of_ble_eq_true rfl) dX8_copy_13 (fun q_3 u_3 z_3 => ?_)
    obtain ⟨rfl, rfl⟩ := z_3
    show tv_V c 19 X (eM c (ts_s s 0 0) r) 16 [(0, .ref (tv_ad c 0)), (1, .int p0), (2, .int p1), (3, .int p2), (4, .int p3), (5, .int p4)] [.int (sp_in p2 0 3)]
    refine tv_if_ne C 21 dX8_copy_16 (by decide) (fun c_4 => ?_) (fun c_4 => ?_)
    · skip
      obtain ⟨j_p2, hj_p2, ej_p2, ek_p2⟩ := in_in (b := 3) (by decide) c_4
      refine tv_aload_n C dX8_copy_21 rfl 0 rfl ?_
      refine tv_get (ci := 8) (Cn := RX8) (T := TX8) (Nf := 35) (v := .ref (tv_ad c 1)) C 0 (by decide) rfl rfl in_X8_copy_X8 2 (by decide) lk_X8_copy_9 rfl dX8_copy_22 ?_
      refine tv_iload_n C dX8_copy_25 rfl 1 rfl ?_
      refine tv_iald (v := (eM_so s j_p0)) C 1 (by decide) rfl j_p0 ej_p0 (show j_p0 < 4 by omega) (by decide) rfl dX8_copy_26 ?_
      refine tv_bipush (v := (-9)) C dX8_copy_27 (by decide) ?_
      refine tv_icmp_eq C 43 dX8_copy_29 (by decide) (fun c_5 => ?_) (fun c_5 => ?_)
      · skip
        have mc_5 : s 18 j_p0 = 0 := (so_iff (hshe j_p0 (by omega))).mp c_5
        refine tv_aload_n C dX8_copy_43 rfl 0 rfl ?_
        refine tv_iconst (v := 1) C dX8_copy_44 (by decide) ?_
        refine tv_calli (As := [.int 1]) (rest := []) (ci := 8) (cn := RX8) (T := TX8) (Nf := 35) C 0 (kX8_fails c (ts_s s 0 0) r  1 ) gX8_copy_X8_fails rfl yd_X8_fails ⟨rfl, rfl⟩ (by decide) (by decide) rfl rfl rfl rfl (Nat.le_of_ble_eq_true rfl) dX8_copy_45 (fun q_6 u_6 z_6 => ?_)
        obtain ⟨rfl, rfl⟩ := z_6
        show tv_V c 19 X (eM c (ts_s (ts_s s 0 0) 0 1) r) 48 [(0, .ref (tv_ad c 0)), (1, .int p0), (2, .int p1), (3, .int p2), (4, .int p3), (5, .int p4)] [.int ((-10) - 1)]
        refine tv_eqE (E' := (eM c (ts_s s 0 1) r)) (congrArg (fun z => eM c z r) (by funext zz; rcases Classical.em (zz = 0) with hzz | h_0; (subst hzz; rfl); simp only [ts_s, ts_a, h_0, ↓reduceIte])) ?_
        show tv_V c 19 X (eM c (ts_s s 0 1) r) 48 [(0, .ref (tv_ad c 0)), (1, .int p0), (2, .int p1), (3, .int p2), (4, .int p3), (5, .int p4)] [.int ((-10) - 1)]
        exact hR _ _ _ _ dX8_copy_48 ⟨by first | (simp only [sp_copy, sp_rc, tn_10, c_2, ek_p0, c_4, ek_p2, eq_true c_5, eq_true mc_5, ts_ss, ↓reduceIte]; done) | (simp only [sp_copy, sp_rc, tn_10, c_2, ek_p0, c_4, ek_p2, eq_true c_5, eq_true mc_5, ts_ss, ↓reduceIte]; (repeat' split) <;> first | rfl | (exfalso; simp_all; done)), by first | (simp only [sp_copy, sp_rc, tn_10, c_2, ek_p0, c_4, ek_p2, eq_true c_5, eq_true mc_5, ts_ss, ↓reduceIte]; done) | (simp only [sp_copy, sp_rc, tn_10, c_2, ek_p0, c_4, ek_p2, eq_true c_5, eq_true mc_5, ts_ss, ↓reduceIte]; (repeat' split) <;> first | rfl | (exfalso; simp_all; done))⟩
      · skip
        have mc_5 : ¬ s 18 j_p0 = 0 := tn_nf (so_iff (hshe j_p0 (by omega))) c_5
        have kc_5 : eM_so s j_p0 = s 19 j_p0 := so_eq mc_5
        refine tv_aload_n C dX8_copy_32 rfl 0 rfl ?_
        refine tv_get (ci := 8) (Cn := RX8) (T := TX8) (Nf := 35) (v := .ref (tv_ad c 1)) C 0 (by decide) rfl rfl in_X8_copy_X8 2 (by decide) lk_X8_copy_9 rfl dX8_copy_33 ?_
        refine tv_iload_n C dX8_copy_36 rfl 3 rfl ?_
        refine tv_iald (v := (eM_so s j_p2)) C 1 (by decide) rfl j_p2 ej_p2 (show j_p2 < 4 by omega) (by decide) rfl dX8_copy_37 ?_
        refine tv_bipush (v := (-9)) C dX8_copy_38 (by decide) ?_
        refine tv_icmp_ne C 49 dX8_copy_40 (by decide) (fun c_7 => ?_) (fun c_7 => ?_)
        · skip
          have mc_7 : ¬ s 18 j_p2 = 0 := tn_nf (so_iff (hshe j_p2 (by omega))) c_7
          have kc_7 : eM_so s j_p2 = s 19 j_p2 := so_eq mc_7
          refine tv_aload_n C dX8_copy_49 rfl 0 rfl ?_
          refine tv_get (ci := 8) (Cn := RX8) (T := TX8) (Nf := 35) (v := .ref (tv_ad c 1)) C 0 (by decide) rfl rfl in_X8_copy_X8 2 (by decide) lk_X8_copy_9 rfl dX8_copy_50 ?_
          refine tv_iload_n C dX8_copy_53 rfl 1 rfl ?_
          refine tv_iald (v := (s 19 j_p0)) C 1 (by decide) rfl j_p0 ej_p0 (show j_p0 < 4 by omega) (by decide) kc_5 dX8_copy_54 ?_
          refine tv_aload_n C dX8_copy_55 rfl 0 rfl ?_
          refine tv_get (ci := 8) (Cn := RX8) (T := TX8) (Nf := 35) (v := .ref (tv_ad c 1)) C 0 (by decide) rfl rfl in_X8_copy_X8 2 (by decide) lk_X8_copy_9 rfl dX8_copy_56 ?_
          refine tv_iload_n C dX8_copy_59 rfl 3 rfl ?_
          refine tv_iald (v := (s 19 j_p2)) C 1 (by decide) rfl j_p2 ej_p2 (show j_p2 < 4 by omega) (by decide) kc_7 dX8_copy_60 ?_
          refine tv_icmp_eq C 70 dX8_copy_61 (by decide) (fun c_8 => ?_) (fun c_8 => ?_)
          · skip
            refine tv_iload_n C dX8_copy_70 rfl 2 rfl ?_
            refine tv_if_lt C 109 dX8_copy_71 (by decide) (fun c_9 => ?_) (fun c_9 => ?_)
            · skip
              refine tv_iconst (v := 0) C dX8_copy_109 (by decide) ?_
              refine tv_istore (lv' := [(6, .int 0), (0, .ref (tv_ad c 0)), (1, .int p0), (2, .int p1), (3, .int p2), (4, .int p3), (5, .int p4)]) C dX8_copy_110 (by decide) rfl ?_
              refine tv_iload C dX8_copy_112 0 rfl ?_
              refine tv_if_eq C 144 dX8_copy_114 (by decide) (fun c_10 => ?_) (fun c_10 => absurd (by decide) c_10)
              refine tv_aload_n C dX8_copy_144 rfl 1 rfl ?_
              refine tv_iconst (v := 3) C dX8_copy_145 (by decide) ?_
              refine tv_calli (As := [.int 3]) (rest := []) (ci := 8) (cn := RX8) (T := TX8) (Nf := 35) C 0 (kX8_fails c (ts_s s 0 0) r  3 ) gX8_copy_X8_fails rfl yd_X8_fails ⟨rfl, rfl⟩ (by decide) (by decide) rfl rfl rfl rfl (Nat.le_of_ble_eq_true rfl) dX8_copy_146 (fun q_11 u_11 z_11 => ?_)
              obtain ⟨rfl, rfl⟩ := z_11
              show tv_V c 19 X (eM c (ts_s (ts_s s 0 0) 0 3) r) 149 [(6, .int 0), (0, .ref (tv_ad c 0)), (1, .int p0), (2, .int p1), (3, .int p2), (4, .int p3), (5, .int p4)] [.int ((-10) - 3)]
              refine tv_eqE (E' := (eM c (ts_s s 0 3) r)) (congrArg (fun z => eM c z r) (by funext zz; rcases Classical.em (zz = 0) with hzz | h_0; (subst hzz; rfl); simp only [ts_s, ts_a, h_0, ↓reduceIte])) ?_
              show tv_V c 19 X (eM c (ts_s s 0 3) r) 149 [(6, .int 0), (0, .ref (tv_ad c 0)), (1, .int p0), (2, .int p1), (3, .int p2), (4, .int p3), (5, .int p4)] [.int ((-10) - 3)]
              exact hR _ _ _ _ dX8_copy_149 ⟨by first | (simp only [sp_copy, sp_rc, tn_10, c_2, ek_p0, c_4, ek_p2, c_5, mc_5, c_7, mc_7, eq_true c_8, c_9, tn_d_lt c_9, ts_ss, ↓reduceIte]; done) | (simp only [sp_copy, sp_rc, tn_10, c_2, ek_p0, c_4, ek_p2, c_5, mc_5, c_7, mc_7, eq_true c_8, c_9, tn_d_lt c_9, ts_ss, ↓reduceIte]; (repeat' split) <;> first | rfl | (exfalso; simp_all; done)), by first | (simp only [sp_copy, sp_rc, tn_10, c_2, ek_p0, c_4, ek_p2, c_5, mc_5, c_7, mc_7, eq_true c_8, c_9, tn_d_lt c_9, ts_ss, ↓reduceIte]; done) | (simp only [sp_copy, sp_rc, tn_10, c_2, ek_p0, c_4, ek_p2, c_5, mc_5, c_7, mc_7, eq_true c_8, c_9, tn_d_lt c_9, ts_ss, ↓reduceIte]; (repeat' split) <;> first | rfl | (exfalso; simp_all; done))⟩
            · skip
              refine tv_iload C dX8_copy_74 4 rfl ?_
              refine tv_if_lt C 109 dX8_copy_76 (by decide) (fun c_12 => ?_) (fun c_12 => ?_)
              · skip
                refine tv_iconst (v := 0) C dX8_copy_109 (by decide) ?_
                refine tv_istore (lv' := [(6, .int 0), (0, .ref (tv_ad c 0)), (1, .int p0), (2, .int p1), (3, .int p2), (4, .int p3), (5, .int p4)]) C dX8_copy_110 (by decide) rfl ?_
                refine tv_iload C dX8_copy_112 0 rfl ?_
                refine tv_if_eq C 144 dX8_copy_114 (by decide) (fun c_13 => ?_) (fun c_13 => absurd (by decide) c_13)
                refine tv_aload_n C dX8_copy_144 rfl 1 rfl ?_
                refine tv_iconst (v := 3) C dX8_copy_145 (by decide) ?_
                refine tv_calli (As := [.int 3]) (rest := []) (ci := 8) (cn := RX8) (T := TX8) (Nf := 35) C 0 (kX8_fails c (ts_s s 0 0) r  3 ) gX8_copy_X8_fails rfl yd_X8_fails ⟨rfl, rfl⟩ (by decide) (by decide) rfl rfl rfl rfl (Nat.le_of_ble_eq_true rfl) dX8_copy_146 (fun q_14 u_14 z_14 => ?_)
                obtain ⟨rfl, rfl⟩ := z_14
                show tv_V c 19 X (eM c (ts_s (ts_s s 0 0) 0 3) r) 149 [(6, .int 0), (0, .ref (tv_ad c 0)), (1, .int p0), (2, .int p1), (3, .int p2), (4, .int p3), (5, .int p4)] [.int ((-10) - 3)]
                refine tv_eqE (E' := (eM c (ts_s s 0 3) r)) (congrArg (fun z => eM c z r) (by funext zz; rcases Classical.em (zz = 0) with hzz | h_0; (subst hzz; rfl); simp only [ts_s, ts_a, h_0, ↓reduceIte])) ?_
                show tv_V c 19 X (eM c (ts_s s 0 3) r) 149 [(6, .int 0), (0, .ref (tv_ad c 0)), (1, .int p0), (2, .int p1), (3, .int p2), (4, .int p3), (5, .int p4)] [.int ((-10) - 3)]
                exact hR _ _ _ _ dX8_copy_149 ⟨by first | (simp only [sp_copy, sp_rc, tn_10, c_2, ek_p0, c_4, ek_p2, c_5, mc_5, c_7, mc_7, eq_true c_8, c_9, tn_d_nlt c_9, c_12, tn_d_lt c_12, ts_ss, ↓reduceIte]; done) | (simp only [sp_copy, sp_rc, tn_10, c_2, ek_p0, c_4, ek_p2, c_5, mc_5, c_7, mc_7, eq_true c_8, c_9, tn_d_nlt c_9, c_12, tn_d_lt c_12, ts_ss, ↓reduceIte]; (repeat' split) <;> first | rfl | (exfalso; simp_all; done)), by first | (simp only [sp_copy, sp_rc, tn_10, c_2, ek_p0, c_4, ek_p2, c_5, mc_5, c_7, mc_7, eq_true c_8, c_9, tn_d_nlt c_9, c_12, tn_d_lt c_12, ts_ss, ↓reduceIte]; done) | (simp only [sp_copy, sp_rc, tn_10, c_2, ek_p0, c_4, ek_p2, c_5, mc_5, c_7, mc_7, eq_true c_8, c_9, tn_d_nlt c_9, c_12, tn_d_lt c_12, ts_ss, ↓reduceIte]; (repeat' split) <;> first | rfl | (exfalso; simp_all; done))⟩
              · skip
                refine tv_iload C dX8_copy_79 5 rfl ?_
                refine tv_if_lt C 109 dX8_copy_81 (by decide) (fun c_15 => ?_) (fun c_15 => ?_)
                · skip
                  refine tv_iconst (v := 0) C dX8_copy_109 (by decide) ?_
                  refine tv_istore (lv' := [(6, .int 0), (0, .ref (tv_ad c 0)), (1, .int p0), (2, .int p1), (3, .int p2), (4, .int p3), (5, .int p4)]) C dX8_copy_110 (by decide) rfl ?_
                  refine tv_iload C dX8_copy_112 0 rfl ?_
                  refine tv_if_eq C 144 dX8_copy_114 (by decide) (fun c_16 => ?_) (fun c_16 => absurd (by decide) c_16)
                  refine tv_aload_n C dX8_copy_144 rfl 1 rfl ?_
                  refine tv_iconst (v := 3) C dX8_copy_145 (by decide) ?_
                  refine tv_calli (As := [.int 3]) (rest := []) (ci := 8) (cn := RX8) (T := TX8) (Nf := 35) C 0 (kX8_fails c (ts_s s 0 0) r  3 ) gX8_copy_X8_fails rfl yd_X8_fails ⟨rfl, rfl⟩ (by decide) (by decide) rfl rfl rfl rfl (Nat.le_of_ble_eq_true rfl) dX8_copy_146 (fun q_17 u_17 z_17 => ?_)
                  obtain ⟨rfl, rfl⟩ := z_17
                  show tv_V c 19 X (eM c (ts_s (ts_s s 0 0) 0 3) r) 149 [(6, .int 0), (0, .ref (tv_ad c 0)), (1, .int p0), (2, .int p1), (3, .int p2), (4, .int p3), (5, .int p4)] [.int ((-10) - 3)]
                  refine tv_eqE (E' := (eM c (ts_s s 0 3) r)) (congrArg (fun z => eM c z r) (by funext zz; rcases Classical.em (zz = 0) with hzz | h_0; (subst hzz; rfl); simp only [ts_s, ts_a, h_0, ↓reduceIte])) ?_
                  show tv_V c 19 X (eM c (ts_s s 0 3) r) 149 [(6, .int 0), (0, .ref (tv_ad c 0)), (1, .int p0), (2, .int p1), (3, .int p2), (4, .int p3), (5, .int p4)] [.int ((-10) - 3)]
                  exact hR _ _ _ _ dX8_copy_149 ⟨by first | (simp only [sp_copy, sp_rc, tn_10, c_2, ek_p0, c_4, ek_p2, c_5, mc_5, c_7, mc_7, eq_true c_8, c_9, tn_d_nlt c_9, c_12, tn_d_nlt c_12, c_15, tn_d_lt c_15, ts_ss, ↓reduceIte]; done) | (simp only [sp_copy, sp_rc, tn_10, c_2, ek_p0, c_4, ek_p2, c_5, mc_5, c_7, mc_7, eq_true c_8, c_9, tn_d_nlt c_9, c_12, tn_d_nlt c_12, c_15, tn_d_lt c_15, ts_ss, ↓reduceIte]; (repeat' split) <;> first | rfl | (exfalso; simp_all; done)), by first | (simp only [sp_copy, sp_rc, tn_10, c_2, ek_p0, c_4, ek_p2, c_5, mc_5, c_7, mc_7, eq_true c_8, c_9, tn_d_nlt c_9, c_12, tn_d_nlt c_12, c_15, tn_d_lt c_15, ts_ss, ↓reduceIte]; done) | (simp only [sp_copy, sp_rc, tn_10, c_2, ek_p0, c_4, ek_p2, c_5, mc_5, c_7, mc_7, eq_true c_8, c_9, tn_d_nlt c_9, c_12, tn_d_nlt c_12, c_15, tn_d_lt c_15, ts_ss, ↓reduceIte]; (repeat' split) <;> first | rfl | (exfalso; simp_all; done))⟩
                · skip
                  refine tv_iload_n C dX8_copy_84 rfl 2 rfl ?_
                  refine tv_aload_n C dX8_copy_85 rfl 0 rfl ?_
                  refine tv_get (ci := 8) (Cn := RX8) (T := TX8) (Nf := 35) (v := .ref (tv_ad c 2)) C 0 (by decide) rfl rfl in_X8_copy_X8 3 (by decide) lk_X8_copy_13 rfl dX8_copy_86 ?_
                  refine tv_iload_n C dX8_copy_89 rfl 1 rfl ?_
                  refine tv_iald (f := (s 20)) (v := (s 20 j_p0)) C 2 (by decide) rfl j_p0 ej_p0 (show j_p0 < 4 by omega) (by decide) rfl dX8_copy_90 ?_
                  refine tv_icmp_gt C 109 dX8_copy_91 (by decide) (fun c_18 => ?_) (fun c_18 => ?_)
                  · skip
                    refine tv_iconst (v := 0) C dX8_copy_109 (by decide) ?_
                    refine tv_istore (lv' := [(6, .int 0), (0, .ref (tv_ad c 0)), (1, .int p0), (2, .int p1), (3, .int p2), (4, .int p3), (5, .int p4)]) C dX8_copy_110 (by decide) rfl ?_
                    refine tv_iload C dX8_copy_112 0 rfl ?_
                    refine tv_if_eq C 144 dX8_copy_114 (by decide) (fun c_19 => ?_) (fun c_19 => absurd (by decide) c_19)
                    refine tv_aload_n C dX8_copy_144 rfl 1 rfl ?_
                    refine tv_iconst (v := 3) C dX8_copy_145 (by decide) ?_
                    refine tv_calli (As := [.int 3]) (rest := []) (ci := 8) (cn := RX8) (T := TX8) (Nf := 35) C 0 (kX8_fails c (ts_s s 0 0) r  3 ) gX8_copy_X8_fails rfl yd_X8_fails ⟨rfl, rfl⟩ (by decide) (by decide) rfl rfl rfl rfl (Nat.le_of_ble_eq_true rfl) dX8_copy_146 (fun q_20 u_20 z_20 => ?_)
                    obtain ⟨rfl, rfl⟩ := z_20
                    show tv_V c 19 X (eM c (ts_s (ts_s s 0 0) 0 3) r) 149 [(6, .int 0), (0, .ref (tv_ad c 0)), (1, .int p0), (2, .int p1), (3, .int p2), (4, .int p3), (5, .int p4)] [.int ((-10) - 3)]
                    refine tv_eqE (E' := (eM c (ts_s s 0 3) r)) (congrArg (fun z => eM c z r) (by funext zz; rcases Classical.em (zz = 0) with hzz | h_0; (subst hzz; rfl); simp only [ts_s, ts_a, h_0, ↓reduceIte])) ?_
                    show tv_V c 19 X (eM c (ts_s s 0 3) r) 149 [(6, .int 0), (0, .ref (tv_ad c 0)), (1, .int p0), (2, .int p1), (3, .int p2), (4, .int p3), (5, .int p4)] [.int ((-10) - 3)]
                    exact hR _ _ _ _ dX8_copy_149 ⟨by first | (simp only [sp_copy, sp_rc, tn_10, c_2, ek_p0, c_4, ek_p2, c_5, mc_5, c_7, mc_7, eq_true c_8, c_9, tn_d_nlt c_9, c_12, tn_d_nlt c_12, c_15, tn_d_nlt c_15, c_18, tn_d_lt c_18, ts_ss, ↓reduceIte]; done) | (simp only [sp_copy, sp_rc, tn_10, c_2, ek_p0, c_4, ek_p2, c_5, mc_5, c_7, mc_7, eq_true c_8, c_9, tn_d_nlt c_9, c_12, tn_d_nlt c_12, c_15, tn_d_nlt c_15, c_18, tn_d_lt c_18, ts_ss, ↓reduceIte]; (repeat' split) <;> first | rfl | (exfalso; simp_all; done)), by first | (simp only [sp_copy, sp_rc, tn_10, c_2, ek_p0, c_4, ek_p2, c_5, mc_5, c_7, mc_7, eq_true c_8, c_9, tn_d_nlt c_9, c_12, tn_d_nlt c_12, c_15, tn_d_nlt c_15, c_18, tn_d_lt c_18, ts_ss, ↓reduceIte]; done) | (simp only [sp_copy, sp_rc, tn_10, c_2, ek_p0, c_4, ek_p2, c_5, mc_5, c_7, mc_7, eq_true c_8, c_9, tn_d_nlt c_9, c_12, tn_d_nlt c_12, c_15, tn_d_nlt c_15, c_18, tn_d_lt c_18, ts_ss, ↓reduceIte]; (repeat' split) <;> first | rfl | (exfalso; simp_all; done))⟩
                  · skip
                    refine tv_iload C dX8_copy_94 4 rfl ?_
                    refine tv_aload_n C dX8_copy_96 rfl 0 rfl ?_
                    refine tv_get (ci := 8) (Cn := RX8) (T := TX8) (Nf := 35) (v := .ref (tv_ad c 2)) C 0 (by decide) rfl rfl in_X8_copy_X8 3 (by decide) lk_X8_copy_13 rfl dX8_copy_97 ?_
                    refine tv_iload_n C dX8_copy_100 rfl 3 rfl ?_
                    refine tv_iald (f := (s 20)) (v := (s 20 j_p2)) C 2 (by decide) rfl j_p2 ej_p2 (show j_p2 < 4 by omega) (by decide) rfl dX8_copy_101 ?_
                    refine tv_icmp_gt C 109 dX8_copy_102 (by decide) (fun c_21 => ?_) (fun c_21 => ?_)
                    · skip
                      refine tv_iconst (v := 0) C dX8_copy_109 (by decide) ?_
                      refine tv_istore (lv' := [(6, .int 0), (0, .ref (tv_ad c 0)), (1, .int p0), (2, .int p1), (3, .int p2), (4, .int p3), (5, .int p4)]) C dX8_copy_110 (by decide) rfl ?_
                      refine tv_iload C dX8_copy_112 0 rfl ?_
                      refine tv_if_eq C 144 dX8_copy_114 (by decide) (fun c_22 => ?_) (fun c_22 => absurd (by decide) c_22)
                      refine tv_aload_n C dX8_copy_144 rfl 1 rfl ?_
                      refine tv_iconst (v := 3) C dX8_copy_145 (by decide) ?_
                      refine tv_calli (As := [.int 3]) (rest := []) (ci := 8) (cn := RX8) (T := TX8) (Nf := 35) C 0 (kX8_fails c (ts_s s 0 0) r  3 ) gX8_copy_X8_fails rfl yd_X8_fails ⟨rfl, rfl⟩ (by decide) (by decide) rfl rfl rfl rfl (Nat.le_of_ble_eq_true rfl) dX8_copy_146 (fun q_23 u_23 z_23 => ?_)
                      obtain ⟨rfl, rfl⟩ := z_23
                      show tv_V c 19 X (eM c (ts_s (ts_s s 0 0) 0 3) r) 149 [(6, .int 0), (0, .ref (tv_ad c 0)), (1, .int p0), (2, .int p1), (3, .int p2), (4, .int p3), (5, .int p4)] [.int ((-10) - 3)]
                      refine tv_eqE (E' := (eM c (ts_s s 0 3) r)) (congrArg (fun z => eM c z r) (by funext zz; rcases Classical.em (zz = 0) with hzz | h_0; (subst hzz; rfl); simp only [ts_s, ts_a, h_0, ↓reduceIte])) ?_
                      show tv_V c 19 X (eM c (ts_s s 0 3) r) 149 [(6, .int 0), (0, .ref (tv_ad c 0)), (1, .int p0), (2, .int p1), (3, .int p2), (4, .int p3), (5, .int p4)] [.int ((-10) - 3)]
                      exact hR _ _ _ _ dX8_copy_149 ⟨by first | (simp only [sp_copy, sp_rc, tn_10, c_2, ek_p0, c_4, ek_p2, c_5, mc_5, c_7, mc_7, eq_true c_8, c_9, tn_d_nlt c_9, c_12, tn_d_nlt c_12, c_15, tn_d_nlt c_15, c_18, tn_d_nlt c_18, c_21, tn_d_lt c_21, ts_ss, ↓reduceIte]; done) | (simp only [sp_copy, sp_rc, tn_10, c_2, ek_p0, c_4, ek_p2, c_5, mc_5, c_7, mc_7, eq_true c_8, c_9, tn_d_nlt c_9, c_12, tn_d_nlt c_12, c_15, tn_d_nlt c_15, c_18, tn_d_nlt c_18, c_21, tn_d_lt c_21, ts_ss, ↓reduceIte]; (repeat' split) <;> first | rfl | (exfalso; simp_all; done)), by first | (simp only [sp_copy, sp_rc, tn_10, c_2, ek_p0, c_4, ek_p2, c_5, mc_5, c_7, mc_7, eq_true c_8, c_9, tn_d_nlt c_9, c_12, tn_d_nlt c_12, c_15, tn_d_nlt c_15, c_18, tn_d_nlt c_18, c_21, tn_d_lt c_21, ts_ss, ↓reduceIte]; done) | (simp only [sp_copy, sp_rc, tn_10, c_2, ek_p0, c_4, ek_p2, c_5, mc_5, c_7, mc_7, eq_true c_8, c_9, tn_d_nlt c_9, c_12, tn_d_nlt c_12, c_15, tn_d_nlt c_15, c_18, tn_d_nlt c_18, c_21, tn_d_lt c_21, ts_ss, ↓reduceIte]; (repeat' split) <;> first | rfl | (exfalso; simp_all; done))⟩
                    · skip
                      refine tv_iconst (v := 1) C dX8_copy_105 (by decide) ?_
                      refine tv_goto C 110 dX8_copy_106 (by decide) ?_
                      refine tv_istore (lv' := [(6, .int 1), (0, .ref (tv_ad c 0)), (1, .int p0), (2, .int p1), (3, .int p2), (4, .int p3), (5, .int p4)]) C dX8_copy_110 (by decide) rfl ?_
                      refine tv_iload C dX8_copy_112 0 rfl ?_
                      refine tv_if_eq C 144 dX8_copy_114 (by decide) (fun c_24 => absurd c_24 (by decide)) (fun c_24 => ?_)
                      refine tv_iload C dX8_copy_117 6 rfl ?_
                      refine tv_aload_n C dX8_copy_119 rfl 1 rfl ?_
                      refine tv_get (ci := 8) (Cn := RX8) (T := TX8) (Nf := 35) (v := .ref (tv_ad c 2)) C 0 (by decide) rfl rfl in_X8_copy_X8 3 (by decide) lk_X8_copy_13 rfl dX8_copy_120 ?_
                      refine tv_iload_n C dX8_copy_123 rfl 2 rfl ?_
                      refine tv_iald (f := (s 20)) (v := (s 20 j_p0)) C 2 (by decide) rfl j_p0 ej_p0 (show j_p0 < 4 by omega) (by decide) rfl dX8_copy_124 ?_
                      refine tv_iload_n C dX8_copy_125 rfl 3 rfl ?_
                      refine tv_isub C dX8_copy_126 ?_
                      refine tv_icmp_gt C 144 dX8_copy_127 (by decide) (fun c_25 => ?_) (fun c_25 => ?_)
                      · skip
                        refine tv_aload_n C dX8_copy_144 rfl 1 rfl ?_
                        refine tv_iconst (v := 3) C dX8_copy_145 (by decide) ?_
                        refine tv_calli (As := [.int 3]) (rest := []) (ci := 8) (cn := RX8) (T := TX8) (Nf := 35) C 0 (kX8_fails c (ts_s s 0 0) r  3 ) gX8_copy_X8_fails rfl yd_X8_fails ⟨rfl, rfl⟩ (by decide) (by decide) rfl rfl rfl rfl (Nat.le_of_ble_eq_true rfl) dX8_copy_146 (fun q_26 u_26 z_26 => ?_)
                        obtain ⟨rfl, rfl⟩ := z_26
                        show tv_V c 19 X (eM c (ts_s (ts_s s 0 0) 0 3) r) 149 [(6, .int 1), (0, .ref (tv_ad c 0)), (1, .int p0), (2, .int p1), (3, .int p2), (4, .int p3), (5, .int p4)] [.int ((-10) - 3)]
                        refine tv_eqE (E' := (eM c (ts_s s 0 3) r)) (congrArg (fun z => eM c z r) (by funext zz; rcases Classical.em (zz = 0) with hzz | h_0; (subst hzz; rfl); simp only [ts_s, ts_a, h_0, ↓reduceIte])) ?_
                        show tv_V c 19 X (eM c (ts_s s 0 3) r) 149 [(6, .int 1), (0, .ref (tv_ad c 0)), (1, .int p0), (2, .int p1), (3, .int p2), (4, .int p3), (5, .int p4)] [.int ((-10) - 3)]
                        exact hR _ _ _ _ dX8_copy_149 ⟨by first | (simp only [sp_copy, sp_rc, tn_10, c_2, ek_p0, c_4, ek_p2, c_5, mc_5, c_7, mc_7, eq_true c_8, c_9, tn_d_nlt c_9, c_12, tn_d_nlt c_12, c_15, tn_d_nlt c_15, c_18, tn_d_nlt c_18, c_21, tn_d_nlt c_21, c_25, tn_d_lt c_25, ts_ss, ↓reduceIte]; done) | (simp only [sp_copy, sp_rc, tn_10, c_2, ek_p0, c_4, ek_p2, c_5, mc_5, c_7, mc_7, eq_true c_8, c_9, tn_d_nlt c_9, c_12, tn_d_nlt c_12, c_15, tn_d_nlt c_15, c_18, tn_d_nlt c_18, c_21, tn_d_nlt c_21, c_25, tn_d_lt c_25, ts_ss, ↓reduceIte]; (repeat' split) <;> first | rfl | (exfalso; simp_all; done)), by first | (simp only [sp_copy, sp_rc, tn_10, c_2, ek_p0, c_4, ek_p2, c_5, mc_5, c_7, mc_7, eq_true c_8, c_9, tn_d_nlt c_9, c_12, tn_d_nlt c_12, c_15, tn_d_nlt c_15, c_18, tn_d_nlt c_18, c_21, tn_d_nlt c_21, c_25, tn_d_lt c_25, ts_ss, ↓reduceIte]; done) | (simp only [sp_copy, sp_rc, tn_10, c_2, ek_p0, c_4, ek_p2, c_5, mc_5, c_7, mc_7, eq_true c_8, c_9, tn_d_nlt c_9, c_12, tn_d_nlt c_12, c_15, tn_d_nlt c_15, c_18, tn_d_nlt c_18, c_21, tn_d_nlt c_21, c_25, tn_d_lt c_25, ts_ss, ↓reduceIte]; (repeat' split) <;> first | rfl | (exfalso; simp_all; done))⟩
                      · skip
                        refine tv_iload C dX8_copy_130 6 rfl ?_
                        refine tv_aload_n C dX8_copy_132 rfl 1 rfl ?_
                        refine tv_get (ci := 8) (Cn := RX8) (T := TX8) (Nf := 35) (v := .ref (tv_ad c 2)) C 0 (by decide) rfl rfl in_X8_copy_X8 3 (by decide) lk_X8_copy_13 rfl dX8_copy_133 ?_
                        refine tv_iload_n C dX8_copy_136 rfl 4 rfl ?_
                        refine tv_iald (f := (s 20)) (v := (s 20 j_p2)) C 2 (by decide) rfl j_p2 ej_p2 (show j_p2 < 4 by omega) (by decide) rfl dX8_copy_137 ?_
                        refine tv_iload C dX8_copy_138 5 rfl ?_
                        refine tv_isub C dX8_copy_140 ?_
                        refine tv_icmp_le C 150 dX8_copy_141 (by decide) (fun c_27 => ?_) (fun c_27 => ?_)
                        · skip
                          obtain ⟨a, d, L1, ea, ed, eL1, hL1, had1, eka, ekd⟩ := rc_nat (hshe j_p0 (by omega)).2.2 (i := p1) (n := p4) (by assumption) (by assumption) (by assumption) (tn_d_nlt (by assumption))
                          obtain ⟨b, d2, L2, eb, ed2, eL2, hL2, had2, ekb, ekd2⟩ := rc_nat (hshe j_p2 (by omega)).2.2 (i := p3) (n := p4) (by assumption) (by assumption) (by assumption) (by assumption)
                          have hdd : d2 = d := by rw [← ekd2, ekd]
                          subst hdd
                          refine tv_iload_n C dX8_copy_150 rfl 3 rfl ?_
                          refine tv_iload C dX8_copy_151 5 rfl ?_
                          refine tv_icmp_ge C 160 dX8_copy_153 (by decide) (fun c_28 => ?_) (fun c_28 => ?_)
                          · skip
                            have nc_28 : b ≤ a := (tn_geI ea eb (by omega) (by omega)).mp c_28
                            refine tv_iconst (v := 0) C dX8_copy_160 (by decide) ?_
                            refine tv_istore (lv' := [(7, .int 0), (6, .int 1), (0, .ref (tv_ad c 0)), (1, .int p0), (2, .int p1), (3, .int p2), (4, .int p3), (5, .int p4)]) C dX8_copy_161 (by decide) rfl ?_
                            refine tv_iconst (v := 0) C dX8_copy_163 (by decide) ?_
                            refine tv_istore (lv' := [(8, .int 0), (7, .int 0), (6, .int 1), (0, .ref (tv_ad c 0)), (1, .int p0), (2, .int p1), (3, .int p2), (4, .int p3), (5, .int p4)]) C dX8_copy_164 (by decide) rfl ?_
                            have hL166 : ∀ (k_166 m : Nat) (x_166_8 : Int32) (w_166 : Nat → va_E), m + k_166 = d2 → x_166_8 = (nI m) → w_166 = (eM c (ts_a (ts_s s 0 0) 21 (ts_cp (s 21) (40 * j_p0 + a) (40 * j_p2 + b) m)) r) → tv_V c 19 X w_166 166 [(0, .ref (tv_ad c 0)), (1, .int p0), (2, .int p1), (3, .int p2), (4, .int p3), (5, .int p4), (6, .int 1), (7, .int 0), (8, .int x_166_8)] [] := by
                              intro k_166
                              induction k_166 with
                              | zero =>
                                intro m x_166_8 w_166 hi166  ex_166_8 ew_166
                                subst ex_166_8
                                subst ew_166
                                have hN166 : m = d2 := by omega
                                refine tv_iload C dX8_copy_166 8 rfl ?_
                                refine tv_iload C dX8_copy_168 5 rfl ?_
                                refine tv_icmp_ge C 227 dX8_copy_170 (by decide) (fun c_29 => ?_) (fun c_29 => absurd (tn_le ed (rfl : nI m = nI m) (by omega) (by omega)) c_29)
                                refine tv_iload C dX8_copy_227 5 rfl ?_
                                exact hR _ _ _ _ dX8_copy_229 ⟨by simp only [sp_copy, sp_rc, tn_10, c_2, ek_p0, c_4, ek_p2, c_5, mc_5, c_7, mc_7, eq_true c_8, c_9, tn_d_nlt c_9, c_12, tn_d_nlt c_12, c_15, tn_d_nlt c_15, c_18, tn_d_nlt c_18, c_21, tn_d_nlt c_21, c_25, tn_d_nlt c_25, c_27, tn_d_le c_27, eka, ekb, ekd, c_28, nc_28, tn_d_le c_28, hN166, c_29, ↓reduceIte], by first | (rw [hN166]; simp only [sp_copy, sp_rc, tn_10, c_2, ek_p0, c_4, ek_p2, c_5, mc_5, c_7, mc_7, eq_true c_8, c_9, tn_d_nlt c_9, c_12, tn_d_nlt c_12, c_15, tn_d_nlt c_15, c_18, tn_d_nlt c_18, c_21, tn_d_nlt c_21, c_25, tn_d_nlt c_25, c_27, tn_d_le c_27, eka, ekb, ekd, c_28, nc_28, tn_d_le c_28, c_29, ts_cq_n, ↓reduceIte]; done)⟩
                              | succ k_166 ih166 =>
                                intro m x_166_8 w_166 hi166  ex_166_8 ew_166
                                subst ex_166_8
                                subst ew_166
                                have hN166 : m < d2 := by omega
                                refine tv_iload C dX8_copy_166 8 rfl ?_
                                refine tv_iload C dX8_copy_168 5 rfl ?_
                                refine tv_icmp_ge C 227 dX8_copy_170 (by decide) (fun c_30 => absurd c_30 (tn_nle ed (rfl : nI m = nI m) (by omega) (by omega))) (fun c_30 => ?_)
                                refine tv_iload C dX8_copy_173 7 rfl ?_
                                refine tv_if_eq C 188 dX8_copy_175 (by decide) (fun c_31 => ?_) (fun c_31 => absurd (by decide) c_31)
                                refine tv_iload C dX8_copy_188 8 rfl ?_
                                refine tv_istore (lv' := [(9, .int (nI m)), (0, .ref (tv_ad c 0)), (1, .int p0), (2, .int p1), (3, .int p2), (4, .int p3), (5, .int p4), (6, .int 1), (7, .int 0), (8, .int (nI m))]) C dX8_copy_190 (by decide) rfl ?_
                                refine tv_aload_n C dX8_copy_192 rfl 1 rfl ?_
                                refine tv_get (ci := 8) (Cn := RX8) (T := TX8) (Nf := 35) (v := .ref (tv_ad c 3)) C 0 (by decide) rfl rfl in_X8_copy_X8 4 (by decide) lk_X8_copy_16 rfl dX8_copy_193 ?_
                                refine tv_bipush (v := 40) C dX8_copy_196 (by decide) ?_
                                refine tv_iload_n C dX8_copy_198 rfl 4 rfl ?_
                                refine tv_imul C dX8_copy_199 ?_
                                refine tv_iload C dX8_copy_200 5 rfl ?_
                                refine tv_iadd C dX8_copy_202 ?_
                                refine tv_iload C dX8_copy_203 0 rfl ?_
                                refine tv_iadd C dX8_copy_205 ?_
                                refine tv_aload_n C dX8_copy_206 rfl 1 rfl ?_
                                refine tv_get (ci := 8) (Cn := RX8) (T := TX8) (Nf := 35) (v := .ref (tv_ad c 3)) C 0 (by decide) rfl rfl in_X8_copy_X8 4 (by decide) lk_X8_copy_16 rfl dX8_copy_207 ?_
                                refine tv_bipush (v := 40) C dX8_copy_210 (by decide) ?_
                                refine tv_iload_n C dX8_copy_212 rfl 2 rfl ?_
                                refine tv_imul C dX8_copy_213 ?_
                                refine tv_iload_n C dX8_copy_214 rfl 3 rfl ?_
                                refine tv_iadd C dX8_copy_215 ?_
                                refine tv_iload C dX8_copy_216 0 rfl ?_
                                refine tv_iadd C dX8_copy_218 ?_
                                refine tv_iald (f := (ts_cp (s 21) (40 * j_p0 + a) (40 * j_p2 + b) m)) (v := ((ts_cp (s 21) (40 * j_p0 + a) (40 * j_p2 + b) m) (((40 * j_p0) + a) + m))) C 3 (by decide) rfl (((40 * j_p0) + a) + m) (tn_add (tn_add (tn_mul (tn_l 40) ej_p0) ea) (rfl : nI m = nI m)) (show (((40 * j_p0) + a) + m) < 160 by omega) (by decide) rfl dX8_copy_219 ?_
                                refine tv_iast (E' := (eM c (ts_a (ts_s s 0 0) 21 (upd (ts_cp (s 21) (40 * j_p0 + a) (40 * j_p2 + b) m) (((40 * j_p2) + b) + m) ((ts_cp (s 21) (40 * j_p0 + a) (40 * j_p2 + b) m) (((40 * j_p0) + a) + m)))) r)) C 3 (by decide) rfl (((40 * j_p2) + b) + m) (tn_add (tn_add (tn_mul (tn_l 40) ej_p2) eb) (rfl : nI m = nI m)) (show (((40 * j_p2) + b) + m) < 160 by omega) (by decide) ((eM_u_cells c (ts_a (ts_s s 0 0) 21 (ts_cp (s 21) (40 * j_p0 + a) (40 * j_p2 + b) m)) r (upd (ts_cp (s 21) (40 * j_p0 + a) (40 * j_p2 + b) m) (((40 * j_p2) + b) + m) ((ts_cp (s 21) (40 * j_p0 + a) (40 * j_p2 + b) m) (((40 * j_p0) + a) + m)))).trans (by first | (rw [ts_mg]; done) | (rw [ts_mg]; rfl) | (rw [ts_ss]; done) | (rw [ts_ss]; rfl))) dX8_copy_220 ?_
                                refine tv_iinc (v := ((nI m) + 1)) (lv' := [(8, .int ((nI m) + 1)), (9, .int (nI m)), (0, .ref (tv_ad c 0)), (1, .int p0), (2, .int p1), (3, .int p2), (4, .int p3), (5, .int p4), (6, .int 1), (7, .int 0)]) C dX8_copy_221 9 rfl rfl (by decide) rfl ?_
                                refine tv_goto C 166 dX8_copy_224 (by decide) ?_
                                refine tv_lsub [2, 3, 4, 5, 6, 7, 8, 9, 0] rfl ?_
                                exact ih166 (m + 1) _ _ (by omega)  (by first | rfl | exact nI_1 _ | (simp only [sp_copy, c_2, ek_p0, c_4, ek_p2, c_5, mc_5, c_7, mc_7, eq_true c_8, c_9, tn_d_nlt c_9, c_12, tn_d_nlt c_12, c_15, tn_d_nlt c_15, c_18, tn_d_nlt c_18, c_21, tn_d_nlt c_21, c_25, tn_d_nlt c_25, c_27, tn_d_le c_27, eka, ekb, ekd, c_28, nc_28, tn_d_le c_28, c_30, if_true, ↓reduceIte]; done) | (simp [sp_copy, c_2, ek_p0, c_4, ek_p2, c_5, mc_5, c_7, mc_7, eq_true c_8, c_9, tn_d_nlt c_9, c_12, tn_d_nlt c_12, c_15, tn_d_nlt c_15, c_18, tn_d_nlt c_18, c_21, tn_d_nlt c_21, c_25, tn_d_nlt c_25, c_27, tn_d_le c_27, eka, ekb, ekd, c_28, nc_28, tn_d_le c_28, c_30, if_true]; done) | (exfalso; clear hR C; simp_all; done)) (by rw [← ts_cp_s _ (show 40 * j_p2 + b ≤ 40 * j_p0 + a ∨ 40 * j_p0 + a + m < 40 * j_p2 + b by omega)])
                            refine tv_lsub [3, 4, 5, 6, 7, 8, 2, 1, 0] rfl ?_
                            exact hL166 (d2 - 0) 0 _ _ (by omega)  (by first | (simp only [sp_copy, c_2, ek_p0, c_4, ek_p2, c_5, mc_5, c_7, mc_7, eq_true c_8, c_9, tn_d_nlt c_9, c_12, tn_d_nlt c_12, c_15, tn_d_nlt c_15, c_18, tn_d_nlt c_18, c_21, tn_d_nlt c_21, c_25, tn_d_nlt c_25, c_27, tn_d_le c_27, eka, ekb, ekd, c_28, nc_28, tn_d_le c_28, if_true, ↓reduceIte]; done) | rfl | (simp [sp_copy, c_2, ek_p0, c_4, ek_p2, c_5, mc_5, c_7, mc_7, eq_true c_8, c_9, tn_d_nlt c_9, c_12, tn_d_nlt c_12, c_15, tn_d_nlt c_15, c_18, tn_d_nlt c_18, c_21, tn_d_nlt c_21, c_25, tn_d_nlt c_25, c_27, tn_d_le c_27, eka, ekb, ekd, c_28, nc_28, tn_d_le c_28, if_true]; done) | (exfalso; clear hR C; simp_all; done)) (by rw [ts_cp_0, ts_ids])
                          · skip
                            have nc_28 : ¬ b ≤ a := tn_nf (tn_geI ea eb (by omega) (by omega)) c_28
                            refine tv_iconst (v := 1) C dX8_copy_156 (by decide) ?_
                            refine tv_goto C 161 dX8_copy_157 (by decide) ?_
                            refine tv_istore (lv' := [(7, .int 1), (6, .int 1), (0, .ref (tv_ad c 0)), (1, .int p0), (2, .int p1), (3, .int p2), (4, .int p3), (5, .int p4)]) C dX8_copy_161 (by decide) rfl ?_
                            refine tv_iconst (v := 0) C dX8_copy_163 (by decide) ?_
                            refine tv_istore (lv' := [(8, .int 0), (7, .int 1), (6, .int 1), (0, .ref (tv_ad c 0)), (1, .int p0), (2, .int p1), (3, .int p2), (4, .int p3), (5, .int p4)]) C dX8_copy_164 (by decide) rfl ?_
                            have hL166 : ∀ (k_166 m : Nat) (x_166_8 : Int32) (w_166 : Nat → va_E), m + k_166 = d2 → x_166_8 = (nI m) → w_166 = (eM c (ts_a (ts_s s 0 0) 21 (ts_cq (s 21) (40 * j_p0 + a) (40 * j_p2 + b) d2 m)) r) → tv_V c 19 X w_166 166 [(0, .ref (tv_ad c 0)), (1, .int p0), (2, .int p1), (3, .int p2), (4, .int p3), (5, .int p4), (6, .int 1), (7, .int 1), (8, .int x_166_8)] [] := by
                              intro k_166
                              induction k_166 with
                              | zero =>
                                intro m x_166_8 w_166 hi166  ex_166_8 ew_166
                                subst ex_166_8
                                subst ew_166
                                have hN166 : m = d2 := by omega
                                refine tv_iload C dX8_copy_166 8 rfl ?_
                                refine tv_iload C dX8_copy_168 5 rfl ?_
                                refine tv_icmp_ge C 227 dX8_copy_170 (by decide) (fun c_32 => ?_) (fun c_32 => absurd (tn_le ed (rfl : nI m = nI m) (by omega) (by omega)) c_32)
                                refine tv_iload C dX8_copy_227 5 rfl ?_
                                exact hR _ _ _ _ dX8_copy_229 ⟨by simp only [sp_copy, sp_rc, tn_10, c_2, ek_p0, c_4, ek_p2, c_5, mc_5, c_7, mc_7, eq_true c_8, c_9, tn_d_nlt c_9, c_12, tn_d_nlt c_12, c_15, tn_d_nlt c_15, c_18, tn_d_nlt c_18, c_21, tn_d_nlt c_21, c_25, tn_d_nlt c_25, c_27, tn_d_le c_27, eka, ekb, ekd, c_28, nc_28, tn_d_nle c_28, hN166, c_32, ↓reduceIte], by first | (rw [hN166]; simp only [sp_copy, sp_rc, tn_10, c_2, ek_p0, c_4, ek_p2, c_5, mc_5, c_7, mc_7, eq_true c_8, c_9, tn_d_nlt c_9, c_12, tn_d_nlt c_12, c_15, tn_d_nlt c_15, c_18, tn_d_nlt c_18, c_21, tn_d_nlt c_21, c_25, tn_d_nlt c_25, c_27, tn_d_le c_27, eka, ekb, ekd, c_28, nc_28, tn_d_nle c_28, c_32, ts_cq_n, ↓reduceIte]; done)⟩
                              | succ k_166 ih166 =>
                                intro m x_166_8 w_166 hi166  ex_166_8 ew_166
                                subst ex_166_8
                                subst ew_166
                                have hN166 : m < d2 := by omega
                                refine tv_iload C dX8_copy_166 8 rfl ?_
                                refine tv_iload C dX8_copy_168 5 rfl ?_
                                refine tv_icmp_ge C 227 dX8_copy_170 (by decide) (fun c_33 => absurd c_33 (tn_nle ed (rfl : nI m = nI m) (by omega) (by omega))) (fun c_33 => ?_)
                                refine tv_iload C dX8_copy_173 7 rfl ?_
                                refine tv_if_eq C 188 dX8_copy_175 (by decide) (fun c_34 => absurd c_34 (by decide)) (fun c_34 => ?_)
                                refine tv_iload C dX8_copy_178 5 rfl ?_
                                refine tv_iconst (v := 1) C dX8_copy_180 (by decide) ?_
                                refine tv_isub C dX8_copy_181 ?_
                                refine tv_iload C dX8_copy_182 8 rfl ?_
                                refine tv_isub C dX8_copy_184 ?_
                                refine tv_goto C 190 dX8_copy_185 (by decide) ?_
                                refine tv_istore (lv' := [(9, .int ((p4 - 1) - (nI m))), (0, .ref (tv_ad c 0)), (1, .int p0), (2, .int p1), (3, .int p2), (4, .int p3), (5, .int p4), (6, .int 1), (7, .int 1), (8, .int (nI m))]) C dX8_copy_190 (by decide) rfl ?_
                                refine tv_aload_n C dX8_copy_192 rfl 1 rfl ?_
                                refine tv_get (ci := 8) (Cn := RX8) (T := TX8) (Nf := 35) (v := .ref (tv_ad c 3)) C 0 (by decide) rfl rfl in_X8_copy_X8 4 (by decide) lk_X8_copy_16 rfl dX8_copy_193 ?_
                                refine tv_bipush (v := 40) C dX8_copy_196 (by decide) ?_
                                refine tv_iload_n C dX8_copy_198 rfl 4 rfl ?_
                                refine tv_imul C dX8_copy_199 ?_
                                refine tv_iload C dX8_copy_200 5 rfl ?_
                                refine tv_iadd C dX8_copy_202 ?_
                                refine tv_iload C dX8_copy_203 0 rfl ?_
                                refine tv_iadd C dX8_copy_205 ?_
                                refine tv_aload_n C dX8_copy_206 rfl 1 rfl ?_
                                refine tv_get (ci := 8) (Cn := RX8) (T := TX8) (Nf := 35) (v := .ref (tv_ad c 3)) C 0 (by decide) rfl rfl in_X8_copy_X8 4 (by decide) lk_X8_copy_16 rfl dX8_copy_207 ?_
                                refine tv_bipush (v := 40) C dX8_copy_210 (by decide) ?_
                                refine tv_iload_n C dX8_copy_212 rfl 2 rfl ?_
                                refine tv_imul C dX8_copy_213 ?_
                                refine tv_iload_n C dX8_copy_214 rfl 3 rfl ?_
                                refine tv_iadd C dX8_copy_215 ?_
                                refine tv_iload C dX8_copy_216 0 rfl ?_
                                refine tv_iadd C dX8_copy_218 ?_
                                refine tv_iald (f := (ts_cq (s 21) (40 * j_p0 + a) (40 * j_p2 + b) d2 m)) (v := ((ts_cq (s 21) (40 * j_p0 + a) (40 * j_p2 + b) d2 m) (((40 * j_p0) + a) + ((d2 - 1) - m)))) C 3 (by decide) rfl (((40 * j_p0) + a) + ((d2 - 1) - m)) (tn_add (tn_add (tn_mul (tn_l 40) ej_p0) ea) (tn_sub (tn_sub ed (tn_l 1) (by omega)) (rfl : nI m = nI m) (by omega))) (show (((40 * j_p0) + a) + ((d2 - 1) - m)) < 160 by omega) (by decide) rfl dX8_copy_219 ?_
                                refine tv_iast (E' := (eM c (ts_a (ts_s s 0 0) 21 (upd (ts_cq (s 21) (40 * j_p0 + a) (40 * j_p2 + b) d2 m) (((40 * j_p2) + b) + ((d2 - 1) - m)) ((ts_cq (s 21) (40 * j_p0 + a) (40 * j_p2 + b) d2 m) (((40 * j_p0) + a) + ((d2 - 1) - m))))) r)) C 3 (by decide) rfl (((40 * j_p2) + b) + ((d2 - 1) - m)) (tn_add (tn_add (tn_mul (tn_l 40) ej_p2) eb) (tn_sub (tn_sub ed (tn_l 1) (by omega)) (rfl : nI m = nI m) (by omega))) (show (((40 * j_p2) + b) + ((d2 - 1) - m)) < 160 by omega) (by decide) ((eM_u_cells c (ts_a (ts_s s 0 0) 21 (ts_cq (s 21) (40 * j_p0 + a) (40 * j_p2 + b) d2 m)) r (upd (ts_cq (s 21) (40 * j_p0 + a) (40 * j_p2 + b) d2 m) (((40 * j_p2) + b) + ((d2 - 1) - m)) ((ts_cq (s 21) (40 * j_p0 + a) (40 * j_p2 + b) d2 m) (((40 * j_p0) + a) + ((d2 - 1) - m))))).trans (by first | (rw [ts_mg]; done) | (rw [ts_mg]; rfl) | (rw [ts_ss]; done) | (rw [ts_ss]; rfl))) dX8_copy_220 ?_
                                refine tv_iinc (v := ((nI m) + 1)) (lv' := [(8, .int ((nI m) + 1)), (9, .int ((p4 - 1) - (nI m))), (0, .ref (tv_ad c 0)), (1, .int p0), (2, .int p1), (3, .int p2), (4, .int p3), (5, .int p4), (6, .int 1), (7, .int 1)]) C dX8_copy_221 9 rfl rfl (by decide) rfl ?_
                                refine tv_goto C 166 dX8_copy_224 (by decide) ?_
                                refine tv_lsub [2, 3, 4, 5, 6, 7, 8, 9, 0] rfl ?_
                                exact ih166 (m + 1) _ _ (by omega)  (by first | rfl | exact nI_1 _ | (simp only [sp_copy, c_2, ek_p0, c_4, ek_p2, c_5, mc_5, c_7, mc_7, eq_true c_8, c_9, tn_d_nlt c_9, c_12, tn_d_nlt c_12, c_15, tn_d_nlt c_15, c_18, tn_d_nlt c_18, c_21, tn_d_nlt c_21, c_25, tn_d_nlt c_25, c_27, tn_d_le c_27, eka, ekb, ekd, c_28, nc_28, tn_d_nle c_28, c_33, if_true, ↓reduceIte]; done) | (simp [sp_copy, c_2, ek_p0, c_4, ek_p2, c_5, mc_5, c_7, mc_7, eq_true c_8, c_9, tn_d_nlt c_9, c_12, tn_d_nlt c_12, c_15, tn_d_nlt c_15, c_18, tn_d_nlt c_18, c_21, tn_d_nlt c_21, c_25, tn_d_nlt c_25, c_27, tn_d_le c_27, eka, ekb, ekd, c_28, nc_28, tn_d_nle c_28, c_33, if_true]; done) | (exfalso; clear hR C; simp_all; done)) (by rw [← ts_cq_s _ hN166 (show 40 * j_p0 + a < 40 * j_p2 + b ∨ 40 * j_p2 + b + d2 ≤ 40 * j_p0 + a by omega)])
                            refine tv_lsub [3, 4, 5, 6, 7, 8, 2, 1, 0] rfl ?_
                            exact hL166 (d2 - 0) 0 _ _ (by omega)  (by first | (simp only [sp_copy, c_2, ek_p0, c_4, ek_p2, c_5, mc_5, c_7, mc_7, eq_true c_8, c_9, tn_d_nlt c_9, c_12, tn_d_nlt c_12, c_15, tn_d_nlt c_15, c_18, tn_d_nlt c_18, c_21, tn_d_nlt c_21, c_25, tn_d_nlt c_25, c_27, tn_d_le c_27, eka, ekb, ekd, c_28, nc_28, tn_d_nle c_28, if_true, ↓reduceIte]; done) | rfl | (simp [sp_copy, c_2, ek_p0, c_4, ek_p2, c_5, mc_5, c_7, mc_7, eq_true c_8, c_9, tn_d_nlt c_9, c_12, tn_d_nlt c_12, c_15, tn_d_nlt c_15, c_18, tn_d_nlt c_18, c_21, tn_d_nlt c_21, c_25, tn_d_nlt c_25, c_27, tn_d_le c_27, eka, ekb, ekd, c_28, nc_28, tn_d_nle c_28, if_true]; done) | (exfalso; clear hR C; simp_all; done)) (by rw [ts_cq_0, ts_ids])
                        · skip
                          refine tv_aload_n C dX8_copy_144 rfl 1 rfl ?_
                          refine tv_iconst (v := 3) C dX8_copy_145 (by decide) ?_
                          refine tv_calli (As := [.int 3]) (rest := []) (ci := 8) (cn := RX8) (T := TX8) (Nf := 35) C 0 (kX8_fails c (ts_s s 0 0) r  3 ) gX8_copy_X8_fails rfl yd_X8_fails ⟨rfl, rfl⟩ (by decide) (by decide) rfl rfl rfl rfl (Nat.le_of_ble_eq_true rfl) dX8_copy_146 (fun q_35 u_35 z_35 => ?_)
                          obtain ⟨rfl, rfl⟩ := z_35
                          show tv_V c 19 X (eM c (ts_s (ts_s s 0 0) 0 3) r) 149 [(6, .int 1), (0, .ref (tv_ad c 0)), (1, .int p0), (2, .int p1), (3, .int p2), (4, .int p3), (5, .int p4)] [.int ((-10) - 3)]
                          refine tv_eqE (E' := (eM c (ts_s s 0 3) r)) (congrArg (fun z => eM c z r) (by funext zz; rcases Classical.em (zz = 0) with hzz | h_0; (subst hzz; rfl); simp only [ts_s, ts_a, h_0, ↓reduceIte])) ?_
                          show tv_V c 19 X (eM c (ts_s s 0 3) r) 149 [(6, .int 1), (0, .ref (tv_ad c 0)), (1, .int p0), (2, .int p1), (3, .int p2), (4, .int p3), (5, .int p4)] [.int ((-10) - 3)]
                          exact hR _ _ _ _ dX8_copy_149 ⟨by first | (simp only [sp_copy, sp_rc, tn_10, c_2, ek_p0, c_4, ek_p2, c_5, mc_5, c_7, mc_7, eq_true c_8, c_9, tn_d_nlt c_9, c_12, tn_d_nlt c_12, c_15, tn_d_nlt c_15, c_18, tn_d_nlt c_18, c_21, tn_d_nlt c_21, c_25, tn_d_nlt c_25, c_27, tn_d_nle c_27, ts_ss, ↓reduceIte]; done) | (simp only [sp_copy, sp_rc, tn_10, c_2, ek_p0, c_4, ek_p2, c_5, mc_5, c_7, mc_7, eq_true c_8, c_9, tn_d_nlt c_9, c_12, tn_d_nlt c_12, c_15, tn_d_nlt c_15, c_18, tn_d_nlt c_18, c_21, tn_d_nlt c_21, c_25, tn_d_nlt c_25, c_27, tn_d_nle c_27, ts_ss, ↓reduceIte]; (repeat' split) <;> first | rfl | (exfalso; simp_all; done)), by first | (simp only [sp_copy, sp_rc, tn_10, c_2, ek_p0, c_4, ek_p2, c_5, mc_5, c_7, mc_7, eq_true c_8, c_9, tn_d_nlt c_9, c_12, tn_d_nlt c_12, c_15, tn_d_nlt c_15, c_18, tn_d_nlt c_18, c_21, tn_d_nlt c_21, c_25, tn_d_nlt c_25, c_27, tn_d_nle c_27, ts_ss, ↓reduceIte]; done) | (simp only [sp_copy, sp_rc, tn_10, c_2, ek_p0, c_4, ek_p2, c_5, mc_5, c_7, mc_7, eq_true c_8, c_9, tn_d_nlt c_9, c_12, tn_d_nlt c_12, c_15, tn_d_nlt c_15, c_18, tn_d_nlt c_18, c_21, tn_d_nlt c_21, c_25, tn_d_nlt c_25, c_27, tn_d_nle c_27, ts_ss, ↓reduceIte]; (repeat' split) <;> first | rfl | (exfalso; simp_all; done))⟩
          · skip
            refine tv_aload_n C dX8_copy_64 rfl 0 rfl ?_
            refine tv_iconst (v := 2) C dX8_copy_65 (by decide) ?_
            refine tv_calli (As := [.int 2]) (rest := []) (ci := 8) (cn := RX8) (T := TX8) (Nf := 35) C 0 (kX8_fails c (ts_s s 0 0) r  2 ) gX8_copy_X8_fails rfl yd_X8_fails ⟨rfl, rfl⟩ (by decide) (by decide) rfl rfl rfl rfl (Nat.le_of_ble_eq_true rfl) dX8_copy_66 (fun q_36 u_36 z_36 => ?_)
            obtain ⟨rfl, rfl⟩ := z_36
            show tv_V c 19 X (eM c (ts_s (ts_s s 0 0) 0 2) r) 69 [(0, .ref (tv_ad c 0)), (1, .int p0), (2, .int p1), (3, .int p2), (4, .int p3), (5, .int p4)] [.int ((-10) - 2)]
            refine tv_eqE (E' := (eM c (ts_s s 0 2) r)) (congrArg (fun z => eM c z r) (by funext zz; rcases Classical.em (zz = 0) with hzz | h_0; (subst hzz; rfl); simp only [ts_s, ts_a, h_0, ↓reduceIte])) ?_
            show tv_V c 19 X (eM c (ts_s s 0 2) r) 69 [(0, .ref (tv_ad c 0)), (1, .int p0), (2, .int p1), (3, .int p2), (4, .int p3), (5, .int p4)] [.int ((-10) - 2)]
            exact hR _ _ _ _ dX8_copy_69 ⟨by first | (simp only [sp_copy, sp_rc, tn_10, c_2, ek_p0, c_4, ek_p2, c_5, mc_5, c_7, mc_7, c_8, ts_ss, ↓reduceIte]; done) | (simp only [sp_copy, sp_rc, tn_10, c_2, ek_p0, c_4, ek_p2, c_5, mc_5, c_7, mc_7, c_8, ts_ss, ↓reduceIte]; (repeat' split) <;> first | rfl | (exfalso; simp_all; done)), by first | (simp only [sp_copy, sp_rc, tn_10, c_2, ek_p0, c_4, ek_p2, c_5, mc_5, c_7, mc_7, c_8, ts_ss, ↓reduceIte]; done) | (simp only [sp_copy, sp_rc, tn_10, c_2, ek_p0, c_4, ek_p2, c_5, mc_5, c_7, mc_7, c_8, ts_ss, ↓reduceIte]; (repeat' split) <;> first | rfl | (exfalso; simp_all; done))⟩
        · skip
          have mc_7 : s 18 j_p2 = 0 := (so_iff (hshe j_p2 (by omega))).mp c_7
          refine tv_aload_n C dX8_copy_43 rfl 0 rfl ?_
          refine tv_iconst (v := 1) C dX8_copy_44 (by decide) ?_
          refine tv_calli (As := [.int 1]) (rest := []) (ci := 8) (cn := RX8) (T := TX8) (Nf := 35) C 0 (kX8_fails c (ts_s s 0 0) r  1 ) gX8_copy_X8_fails rfl yd_X8_fails ⟨rfl, rfl⟩ (by decide) (by decide) rfl rfl rfl rfl (Nat.le_of_ble_eq_true rfl) dX8_copy_45 (fun q_37 u_37 z_37 => ?_)
          obtain ⟨rfl, rfl⟩ := z_37
          show tv_V c 19 X (eM c (ts_s (ts_s s 0 0) 0 1) r) 48 [(0, .ref (tv_ad c 0)), (1, .int p0), (2, .int p1), (3, .int p2), (4, .int p3), (5, .int p4)] [.int ((-10) - 1)]
          refine tv_eqE (E' := (eM c (ts_s s 0 1) r)) (congrArg (fun z => eM c z r) (by funext zz; rcases Classical.em (zz = 0) with hzz | h_0; (subst hzz; rfl); simp only [ts_s, ts_a, h_0, ↓reduceIte])) ?_
          show tv_V c 19 X (eM c (ts_s s 0 1) r) 48 [(0, .ref (tv_ad c 0)), (1, .int p0), (2, .int p1), (3, .int p2), (4, .int p3), (5, .int p4)] [.int ((-10) - 1)]
          exact hR _ _ _ _ dX8_copy_48 ⟨by first | (simp only [sp_copy, sp_rc, tn_10, c_2, ek_p0, c_4, ek_p2, c_5, mc_5, eq_true c_7, eq_true mc_7, ts_ss, ↓reduceIte]; done) | (simp only [sp_copy, sp_rc, tn_10, c_2, ek_p0, c_4, ek_p2, c_5, mc_5, eq_true c_7, eq_true mc_7, ts_ss, ↓reduceIte]; (repeat' split) <;> first | rfl | (exfalso; simp_all; done)), by first | (simp only [sp_copy, sp_rc, tn_10, c_2, ek_p0, c_4, ek_p2, c_5, mc_5, eq_true c_7, eq_true mc_7, ts_ss, ↓reduceIte]; done) | (simp only [sp_copy, sp_rc, tn_10, c_2, ek_p0, c_4, ek_p2, c_5, mc_5, eq_true c_7, eq_true mc_7, ts_ss, ↓reduceIte]; (repeat' split) <;> first | rfl | (exfalso; simp_all; done))⟩
    · skip
      refine tv_iconst (v := (-1)) C dX8_copy_19 (by decide) ?_
      exact hR _ _ _ _ dX8_copy_20 ⟨by first | (simp only [sp_copy, sp_rc, tn_10, c_2, ek_p0, eq_true c_4, ts_ss, ↓reduceIte]; done) | (simp only [sp_copy, sp_rc, tn_10, c_2, ek_p0, eq_true c_4, ts_ss, ↓reduceIte]; (repeat' split) <;> first | rfl | (exfalso; simp_all; done)), by first | (simp only [sp_copy, sp_rc, tn_10, c_2, ek_p0, eq_true c_4, ts_ss, ↓reduceIte]; done) | (simp only [sp_copy, sp_rc, tn_10, c_2, ek_p0, eq_true c_4, ts_ss, ↓reduceIte]; (repeat' split) <;> first | rfl | (exfalso; simp_all; done))⟩
