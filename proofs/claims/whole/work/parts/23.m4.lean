set_option maxRecDepth 20000 in
theorem in_X8_against_X8 : ∀ w ∈ u_ws RX8 TX8 35, w ∈ wsX8_against := by decide +kernel
set_option maxRecDepth 20000 in
theorem lk_X8_against_9 : Cond.fieldLink RX8 9 (TX8 2).1 (TX8 2).2.1 (TX8 2).2.2.1 ∈ wsX8_against := by decide +kernel
set_option maxRecDepth 20000 in
theorem lk_X8_against_13 : Cond.fieldLink RX8 13 (TX8 3).1 (TX8 3).2.1 (TX8 3).2.2.1 ∈ wsX8_against := by decide +kernel
theorem yd_X8_isSheet : yX8_isSheet.cls = RX8 ∧ yX8_isSheet.cls ≠ "java/lang/invoke/MethodHandle" ∧ yX8_isSheet.cls ≠ "java/lang/invoke/VarHandle" ∧ (parseMethodDescriptor yX8_isSheet.desc).map (fun d => d.parameters.length) = some 1 := by decide +kernel
set_option maxRecDepth 20000 in
theorem in_X8_lose_X8 : ∀ w ∈ u_ws RX8 TX8 35, w ∈ wsX8_lose := by decide +kernel
set_option maxRecDepth 20000 in
theorem lk_X8_lose_9 : Cond.fieldLink RX8 9 (TX8 2).1 (TX8 2).2.1 (TX8 2).2.2.1 ∈ wsX8_lose := by decide +kernel
set_option maxRecDepth 20000 in
theorem in_X8_isSo_X8 : ∀ w ∈ u_ws RX8 TX8 35, w ∈ wsX8_isSo := by decide +kernel
set_option maxRecDepth 20000 in
theorem lk_X8_isSo_16 : Cond.fieldLink RX8 16 (TX8 4).1 (TX8 4).2.1 (TX8 4).2.2.1 ∈ wsX8_isSo := by decide +kernel
set_option maxRecDepth 20000 in
theorem in_X8_cell_X8 : ∀ w ∈ u_ws RX8 TX8 35, w ∈ wsX8_cell := by decide +kernel
set_option maxRecDepth 20000 in
theorem lk_X8_cell_65 : Cond.fieldLink RX8 65 (TX8 0).1 (TX8 0).2.1 (TX8 0).2.2.1 ∈ wsX8_cell := by decide +kernel
set_option maxRecDepth 20000 in
theorem wd_X8_cell_k69 : Cond.constantLong RX8 69 (-9223372036854775808) ∈ wsX8_cell := by decide +kernel
theorem yd_X8_isSort : yX8_isSort.cls = RX8 ∧ yX8_isSort.cls ≠ "java/lang/invoke/MethodHandle" ∧ yX8_isSort.cls ≠ "java/lang/invoke/VarHandle" ∧ (parseMethodDescriptor yX8_isSort.desc).map (fun d => d.parameters.length) = some 1 := by decide +kernel
set_option maxRecDepth 20000 in
theorem lk_X8_cell_9 : Cond.fieldLink RX8 9 (TX8 2).1 (TX8 2).2.1 (TX8 2).2.2.1 ∈ wsX8_cell := by decide +kernel
theorem yd_X8_lost : yX8_lost.cls = RX8 ∧ yX8_lost.cls ≠ "java/lang/invoke/MethodHandle" ∧ yX8_lost.cls ≠ "java/lang/invoke/VarHandle" ∧ (parseMethodDescriptor yX8_lost.desc).map (fun d => d.parameters.length) = some 1 := by decide +kernel
set_option maxRecDepth 20000 in
theorem lk_X8_cell_13 : Cond.fieldLink RX8 13 (TX8 3).1 (TX8 3).2.1 (TX8 3).2.2.1 ∈ wsX8_cell := by decide +kernel
set_option maxRecDepth 20000 in
theorem lk_X8_cell_16 : Cond.fieldLink RX8 16 (TX8 4).1 (TX8 4).2.1 (TX8 4).2.2.1 ∈ wsX8_cell := by decide +kernel
set_option maxRecDepth 20000 in
theorem in_X8_put_X8 : ∀ w ∈ u_ws RX8 TX8 35, w ∈ wsX8_put := by decide +kernel
set_option maxRecDepth 20000 in
theorem lk_X8_put_65 : Cond.fieldLink RX8 65 (TX8 0).1 (TX8 0).2.1 (TX8 0).2.2.1 ∈ wsX8_put := by decide +kernel
set_option maxRecDepth 20000 in
theorem lk_X8_put_9 : Cond.fieldLink RX8 9 (TX8 2).1 (TX8 2).2.1 (TX8 2).2.2.1 ∈ wsX8_put := by decide +kernel
set_option maxRecDepth 20000 in
theorem lk_X8_put_13 : Cond.fieldLink RX8 13 (TX8 3).1 (TX8 3).2.1 (TX8 3).2.2.1 ∈ wsX8_put := by decide +kernel
set_option maxRecDepth 20000 in
theorem lk_X8_put_16 : Cond.fieldLink RX8 16 (TX8 4).1 (TX8 4).2.1 (TX8 4).2.2.1 ∈ wsX8_put := by decide +kernel
set_option maxRecDepth 20000 in
theorem in_X8_sheet_X8 : ∀ w ∈ u_ws RX8 TX8 35, w ∈ wsX8_sheet := by decide +kernel
set_option maxRecDepth 20000 in
theorem lk_X8_sheet_65 : Cond.fieldLink RX8 65 (TX8 0).1 (TX8 0).2.1 (TX8 0).2.2.1 ∈ wsX8_sheet := by decide +kernel
set_option maxRecDepth 20000 in
theorem lk_X8_sheet_9 : Cond.fieldLink RX8 9 (TX8 2).1 (TX8 2).2.1 (TX8 2).2.2.1 ∈ wsX8_sheet := by decide +kernel
set_option maxRecDepth 20000 in
theorem lk_X8_sheet_13 : Cond.fieldLink RX8 13 (TX8 3).1 (TX8 3).2.1 (TX8 3).2.2.1 ∈ wsX8_sheet := by decide +kernel
set_option maxRecDepth 20000 in
theorem lk_X8_sheet_16 : Cond.fieldLink RX8 16 (TX8 4).1 (TX8 4).2.1 (TX8 4).2.2.1 ∈ wsX8_sheet := by decide +kernel
set_option maxHeartbeats 4000000 in
set_option maxRecDepth 100000 in
theorem kX8_against (c : tv_c) (s r : ts_T)  (k : Nat) (p0 p1 p2 p3 : Int32) (e_p0 : p0 = nI k) (h_p0 : k < 4) (hs : iv_s s k) : tv_Fi c 19 yX8_against wsX8_against { frames := 0, cells := 0, slots := 0, locals := 0 } [.ref (tv_ad c 0), .int p0, .int p1, .int p2, .int p3] (eM c s r) (sp_ag s k p1 p2 p3) (eM c s r) := by
  refine tv_metI (by decide +kernel) rfl rfl (Nat.le_of_ble_eq_true rfl) (fun X C hR => ?_)
  show tv_V c 19 X (eM c s r) 0 [(0, .ref (tv_ad c 0)), (1, .int p0), (2, .int p1), (3, .int p2), (4, .int p3)] []
  refine tv_aload_n C dX8_against_0 rfl 0 rfl ?_
  refine tv_get (ci := 8) (Cn := RX8) (T := TX8) (Nf := 35) (v := .ref (tv_ad c 1)) C 0 (by decide) rfl rfl in_X8_against_X8 2 (by decide) lk_X8_against_9 rfl dX8_against_1 ?_
  refine tv_iload_n C dX8_against_4 rfl 1 rfl ?_
  refine tv_iald (v := (eM_so s k)) C 1 (by decide) rfl k e_p0 (show k < 4 by omega) (by decide) rfl dX8_against_5 ?_
  refine tv_bipush (v := (-9)) C dX8_against_6 (by decide) ?_
  refine tv_icmp_eq C 23 dX8_against_8 (by decide) (fun c_1 => ?_) (fun c_1 => ?_)
  · skip
    have mc_1 : s 18 k = 0 := (so_iff (hs)).mp c_1
    refine tv_aload_n C dX8_against_23 rfl 0 rfl ?_
    refine tv_get (ci := 8) (Cn := RX8) (T := TX8) (Nf := 35) (v := .ref (tv_ad c 1)) C 0 (by decide) rfl rfl in_X8_against_X8 2 (by decide) lk_X8_against_9 rfl dX8_against_24 ?_
    refine tv_iload_n C dX8_against_27 rfl 1 rfl ?_
    refine tv_iald (v := (eM_so s k)) C 1 (by decide) rfl k e_p0 (show k < 4 by omega) (by decide) rfl dX8_against_28 ?_
    refine tv_bipush (v := (-9)) C dX8_against_29 (by decide) ?_
    refine tv_icmp_ne C 36 dX8_against_31 (by decide) (fun c_2 => absurd c_1 c_2) (fun c_2 => ?_)
    refine tv_iconst (v := 1) C dX8_against_34 (by decide) ?_
    exact hR _ _ _ _ dX8_against_35 ⟨by first | (simp only [sp_ag, eq_true c_1, eq_true mc_1, eq_true c_2, if_true, ↓reduceIte]; done) | rfl | (simp [sp_ag, eq_true c_1, eq_true mc_1, eq_true c_2, if_true]; done) | (exfalso; clear hR C; simp_all; done), by first | (simp only [sp_ag, eq_true c_1, eq_true mc_1, eq_true c_2, if_true, ts_ss, ts_aa, ↓reduceIte]; done) | rfl | (simp [sp_ag, eq_true c_1, eq_true mc_1, eq_true c_2, if_true, ts_ss, ts_aa]; done) | (exfalso; clear hR C; simp_all; done)⟩
  · skip
    have mc_1 : ¬ s 18 k = 0 := tn_nf (so_iff (hs)) c_1
    have kc_1 : eM_so s k = s 19 k := so_eq mc_1
    refine tv_aload_n C dX8_against_11 rfl 0 rfl ?_
    refine tv_get (ci := 8) (Cn := RX8) (T := TX8) (Nf := 35) (v := .ref (tv_ad c 1)) C 0 (by decide) rfl rfl in_X8_against_X8 2 (by decide) lk_X8_against_9 rfl dX8_against_12 ?_
    refine tv_iload_n C dX8_against_15 rfl 1 rfl ?_
    refine tv_iald (v := (s 19 k)) C 1 (by decide) rfl k e_p0 (show k < 4 by omega) (by decide) kc_1 dX8_against_16 ?_
    refine tv_iload_n C dX8_against_17 rfl 2 rfl ?_
    refine tv_icmp_eq C 23 dX8_against_18 (by decide) (fun c_3 => ?_) (fun c_3 => ?_)
    · skip
      refine tv_aload_n C dX8_against_23 rfl 0 rfl ?_
      refine tv_get (ci := 8) (Cn := RX8) (T := TX8) (Nf := 35) (v := .ref (tv_ad c 1)) C 0 (by decide) rfl rfl in_X8_against_X8 2 (by decide) lk_X8_against_9 rfl dX8_against_24 ?_
      refine tv_iload_n C dX8_against_27 rfl 1 rfl ?_
      refine tv_iald (v := (s 19 k)) C 1 (by decide) rfl k e_p0 (show k < 4 by omega) (by decide) kc_1 dX8_against_28 ?_
      refine tv_bipush (v := (-9)) C dX8_against_29 (by decide) ?_
      refine tv_icmp_ne C 36 dX8_against_31 (by decide) (fun c_4 => ?_) (fun c_4 => ?_)
      · skip
        refine tv_iload C dX8_against_36 4 rfl ?_
        refine tv_if_ge C 43 dX8_against_38 (by decide) (fun c_5 => ?_) (fun c_5 => ?_)
        · skip
          refine tv_iload_n C dX8_against_43 rfl 3 rfl ?_
          refine tv_if_lt C 70 dX8_against_44 (by decide) (fun c_6 => ?_) (fun c_6 => ?_)
          · skip
            refine tv_iconst (v := 3) C dX8_against_70 (by decide) ?_
            refine tv_goto C 75 dX8_against_71 (by decide) ?_
            exact hR _ _ _ _ dX8_against_75 ⟨by first | (simp only [sp_ag, c_1, mc_1, eq_true c_3, c_4, c_5, tn_d_le c_5, c_6, tn_d_lt c_6, if_true, ↓reduceIte]; done) | rfl | (simp [sp_ag, c_1, mc_1, eq_true c_3, c_4, c_5, tn_d_le c_5, c_6, tn_d_lt c_6, if_true]; done) | (exfalso; clear hR C; simp_all; done), by first | (simp only [sp_ag, c_1, mc_1, eq_true c_3, c_4, c_5, tn_d_le c_5, c_6, tn_d_lt c_6, if_true, ts_ss, ts_aa, ↓reduceIte]; done) | rfl | (simp [sp_ag, c_1, mc_1, eq_true c_3, c_4, c_5, tn_d_le c_5, c_6, tn_d_lt c_6, if_true, ts_ss, ts_aa]; done) | (exfalso; clear hR C; simp_all; done)⟩
          · skip
            refine tv_iload_n C dX8_against_47 rfl 3 rfl ?_
            refine tv_aload_n C dX8_against_48 rfl 0 rfl ?_
            refine tv_get (ci := 8) (Cn := RX8) (T := TX8) (Nf := 35) (v := .ref (tv_ad c 2)) C 0 (by decide) rfl rfl in_X8_against_X8 3 (by decide) lk_X8_against_13 rfl dX8_against_49 ?_
            refine tv_iload_n C dX8_against_52 rfl 1 rfl ?_
            refine tv_iald (f := (s 20)) (v := (s 20 k)) C 2 (by decide) rfl k e_p0 (show k < 4 by omega) (by decide) rfl dX8_against_53 ?_
            refine tv_icmp_gt C 70 dX8_against_54 (by decide) (fun c_7 => ?_) (fun c_7 => ?_)
            · skip
              refine tv_iconst (v := 3) C dX8_against_70 (by decide) ?_
              refine tv_goto C 75 dX8_against_71 (by decide) ?_
              exact hR _ _ _ _ dX8_against_75 ⟨by first | (simp only [sp_ag, c_1, mc_1, eq_true c_3, c_4, c_5, tn_d_le c_5, c_6, tn_d_nlt c_6, c_7, tn_d_lt c_7, if_true, ↓reduceIte]; done) | rfl | (simp [sp_ag, c_1, mc_1, eq_true c_3, c_4, c_5, tn_d_le c_5, c_6, tn_d_nlt c_6, c_7, tn_d_lt c_7, if_true]; done) | (exfalso; clear hR C; simp_all; done), by first | (simp only [sp_ag, c_1, mc_1, eq_true c_3, c_4, c_5, tn_d_le c_5, c_6, tn_d_nlt c_6, c_7, tn_d_lt c_7, if_true, ts_ss, ts_aa, ↓reduceIte]; done) | rfl | (simp [sp_ag, c_1, mc_1, eq_true c_3, c_4, c_5, tn_d_le c_5, c_6, tn_d_nlt c_6, c_7, tn_d_lt c_7, if_true, ts_ss, ts_aa]; done) | (exfalso; clear hR C; simp_all; done)⟩
            · skip
              refine tv_iload C dX8_against_57 4 rfl ?_
              refine tv_aload_n C dX8_against_59 rfl 0 rfl ?_
              refine tv_get (ci := 8) (Cn := RX8) (T := TX8) (Nf := 35) (v := .ref (tv_ad c 2)) C 0 (by decide) rfl rfl in_X8_against_X8 3 (by decide) lk_X8_against_13 rfl dX8_against_60 ?_
              refine tv_iload_n C dX8_against_63 rfl 1 rfl ?_
              refine tv_iald (f := (s 20)) (v := (s 20 k)) C 2 (by decide) rfl k e_p0 (show k < 4 by omega) (by decide) rfl dX8_against_64 ?_
              refine tv_iload_n C dX8_against_65 rfl 3 rfl ?_
              refine tv_isub C dX8_against_66 ?_
              refine tv_icmp_le C 74 dX8_against_67 (by decide) (fun c_8 => ?_) (fun c_8 => ?_)
              · skip
                refine tv_iconst (v := 0) C dX8_against_74 (by decide) ?_
                exact hR _ _ _ _ dX8_against_75 ⟨by first | (simp only [sp_ag, c_1, mc_1, eq_true c_3, c_4, c_5, tn_d_le c_5, c_6, tn_d_nlt c_6, c_7, tn_d_nlt c_7, c_8, tn_d_le c_8, if_true, ↓reduceIte]; done) | rfl | (simp [sp_ag, c_1, mc_1, eq_true c_3, c_4, c_5, tn_d_le c_5, c_6, tn_d_nlt c_6, c_7, tn_d_nlt c_7, c_8, tn_d_le c_8, if_true]; done) | (exfalso; clear hR C; simp_all; done), by first | (simp only [sp_ag, c_1, mc_1, eq_true c_3, c_4, c_5, tn_d_le c_5, c_6, tn_d_nlt c_6, c_7, tn_d_nlt c_7, c_8, tn_d_le c_8, if_true, ts_ss, ts_aa, ↓reduceIte]; done) | rfl | (simp [sp_ag, c_1, mc_1, eq_true c_3, c_4, c_5, tn_d_le c_5, c_6, tn_d_nlt c_6, c_7, tn_d_nlt c_7, c_8, tn_d_le c_8, if_true, ts_ss, ts_aa]; done) | (exfalso; clear hR C; simp_all; done)⟩
              · skip
                refine tv_iconst (v := 3) C dX8_against_70 (by decide) ?_
                refine tv_goto C 75 dX8_against_71 (by decide) ?_
                exact hR _ _ _ _ dX8_against_75 ⟨by first | (simp only [sp_ag, c_1, mc_1, eq_true c_3, c_4, c_5, tn_d_le c_5, c_6, tn_d_nlt c_6, c_7, tn_d_nlt c_7, c_8, tn_d_nle c_8, if_true, ↓reduceIte]; done) | rfl | (simp [sp_ag, c_1, mc_1, eq_true c_3, c_4, c_5, tn_d_le c_5, c_6, tn_d_nlt c_6, c_7, tn_d_nlt c_7, c_8, tn_d_nle c_8, if_true]; done) | (exfalso; clear hR C; simp_all; done), by first | (simp only [sp_ag, c_1, mc_1, eq_true c_3, c_4, c_5, tn_d_le c_5, c_6, tn_d_nlt c_6, c_7, tn_d_nlt c_7, c_8, tn_d_nle c_8, if_true, ts_ss, ts_aa, ↓reduceIte]; done) | rfl | (simp [sp_ag, c_1, mc_1, eq_true c_3, c_4, c_5, tn_d_le c_5, c_6, tn_d_nlt c_6, c_7, tn_d_nlt c_7, c_8, tn_d_nle c_8, if_true, ts_ss, ts_aa]; done) | (exfalso; clear hR C; simp_all; done)⟩
        · skip
          refine tv_iconst (v := 4) C dX8_against_41 (by decide) ?_
          exact hR _ _ _ _ dX8_against_42 ⟨by first | (simp only [sp_ag, c_1, mc_1, eq_true c_3, c_4, c_5, tn_d_nle c_5, if_true, ↓reduceIte]; done) | rfl | (simp [sp_ag, c_1, mc_1, eq_true c_3, c_4, c_5, tn_d_nle c_5, if_true]; done) | (exfalso; clear hR C; simp_all; done), by first | (simp only [sp_ag, c_1, mc_1, eq_true c_3, c_4, c_5, tn_d_nle c_5, if_true, ts_ss, ts_aa, ↓reduceIte]; done) | rfl | (simp [sp_ag, c_1, mc_1, eq_true c_3, c_4, c_5, tn_d_nle c_5, if_true, ts_ss, ts_aa]; done) | (exfalso; clear hR C; simp_all; done)⟩
      · skip
        refine tv_iconst (v := 1) C dX8_against_34 (by decide) ?_
        exact hR _ _ _ _ dX8_against_35 ⟨by first | (simp only [sp_ag, c_1, mc_1, eq_true c_3, eq_true c_4, if_true, ↓reduceIte]; done) | rfl | (simp [sp_ag, c_1, mc_1, eq_true c_3, eq_true c_4, if_true]; done) | (exfalso; clear hR C; simp_all; done), by first | (simp only [sp_ag, c_1, mc_1, eq_true c_3, eq_true c_4, if_true, ts_ss, ts_aa, ↓reduceIte]; done) | rfl | (simp [sp_ag, c_1, mc_1, eq_true c_3, eq_true c_4, if_true, ts_ss, ts_aa]; done) | (exfalso; clear hR C; simp_all; done)⟩
    · skip
      refine tv_iconst (v := 2) C dX8_against_21 (by decide) ?_
      exact hR _ _ _ _ dX8_against_22 ⟨by first | (simp only [sp_ag, c_1, mc_1, c_3, if_true, ↓reduceIte]; done) | rfl | (simp [sp_ag, c_1, mc_1, c_3, if_true]; done) | (exfalso; clear hR C; simp_all; done), by first | (simp only [sp_ag, c_1, mc_1, c_3, if_true, ts_ss, ts_aa, ↓reduceIte]; done) | rfl | (simp [sp_ag, c_1, mc_1, c_3, if_true, ts_ss, ts_aa]; done) | (exfalso; clear hR C; simp_all; done)⟩
set_option maxHeartbeats 4000000 in
set_option maxRecDepth 100000 in
theorem kX8_lose (c : tv_c) (s r : ts_T)  (p0 : Int32) (hI : iv s) : tv_Fi c 19 yX8_lose wsX8_lose { frames := 2, cells := 0, slots := 0, locals := 42 } [.ref (tv_ad c 0), .int p0] (eM c s r) ((sp_lose s p0).1) (eM c (sp_lose s p0).2 r) := by
  refine tv_metI (by decide +kernel) rfl rfl (Nat.le_of_ble_eq_true rfl) (fun X C hR => ?_)
  show tv_V c 19 X (eM c s r) 0 [(0, .ref (tv_ad c 0)), (1, .int p0)] []
  have hC := iv.hC hI
  obtain ⟨h, w, n, nk, nl, ny, nm, li, e2, e3, e9, hnw, hh, hw, hn, hz, hp, e7, hk, e8, hl, e4, hy, e5, hm, e6, hli, hcel, hkin, hban, hwei, hshe⟩ := id hI
  refine tv_iload_n C dX8_lose_0 rfl 1 rfl ?_
  refine tv_callis (As := [.int p0]) (rest := []) C (kX8_isSheet c s r  p0 ) gX8_lose_X8_isSheet rfl yd_X8_isSheet ⟨rfl, rfl⟩ (by decide) rfl rfl (Nat.le_of_ble_eq_true rfl) dX8_lose_1 (fun q_1 u_1 z_1 => ?_)
  obtain ⟨rfl, rfl⟩ := z_1
  refine tv_if_ne C 9 dX8_lose_4 (by decide) (fun c_2 => ?_) (fun c_2 => ?_)
  · skip
    obtain ⟨j_p0, hj_p0, ej_p0, ek_p0⟩ := in_in (b := 3) (by decide) c_2
    refine tv_aload_n C dX8_lose_9 rfl 0 rfl ?_
    refine tv_get (ci := 8) (Cn := RX8) (T := TX8) (Nf := 35) (v := .ref (tv_ad c 1)) C 0 (by decide) rfl rfl in_X8_lose_X8 2 (by decide) lk_X8_lose_9 rfl dX8_lose_10 ?_
    refine tv_iload_n C dX8_lose_13 rfl 1 rfl ?_
    refine tv_iald (v := (eM_so s j_p0)) C 1 (by decide) rfl j_p0 ej_p0 (show j_p0 < 4 by omega) (by decide) rfl dX8_lose_14 ?_
    refine tv_bipush (v := (-9)) C dX8_lose_15 (by decide) ?_
    refine tv_icmp_ne C 24 dX8_lose_17 (by decide) (fun c_3 => ?_) (fun c_3 => ?_)
    · skip
      have mc_3 : ¬ s 18 j_p0 = 0 := tn_nf (so_iff (hshe j_p0 (by omega))) c_3
      have kc_3 : eM_so s j_p0 = s 19 j_p0 := so_eq mc_3
      refine tv_iconst (v := 1) C dX8_lose_24 (by decide) ?_
      refine tv_istore_n (lv' := [(2, .int 1), (0, .ref (tv_ad c 0)), (1, .int p0)]) C dX8_lose_25 rfl (by decide) rfl ?_
      refine tv_aload_n C dX8_lose_26 rfl 1 rfl ?_
      refine tv_get (ci := 8) (Cn := RX8) (T := TX8) (Nf := 35) (v := .ref (tv_ad c 1)) C 0 (by decide) rfl rfl in_X8_lose_X8 2 (by decide) lk_X8_lose_9 rfl dX8_lose_27 ?_
      refine tv_iload_n C dX8_lose_30 rfl 2 rfl ?_
      refine tv_bipush (v := (-9)) C dX8_lose_31 (by decide) ?_
      refine tv_iast (E' := (eM c (ts_a s 18 (upd (s 18) j_p0 0)) r)) C 1 (by decide) rfl j_p0 ej_p0 (show j_p0 < 4 by omega) (by decide) (eM_u_sorts_lose c s r j_p0) dX8_lose_33 ?_
      refine tv_iload_n C dX8_lose_34 rfl 0 rfl ?_
      exact hR _ _ _ _ dX8_lose_35 ⟨by first | (simp only [sp_lose, c_2, ek_p0, c_3, mc_3, if_true, ↓reduceIte]; done) | rfl | (simp [sp_lose, c_2, ek_p0, c_3, mc_3, if_true]; done) | (exfalso; clear hR C; simp_all; done), by first | (simp only [sp_lose, c_2, ek_p0, c_3, mc_3, if_true, ts_ss, ts_aa, ↓reduceIte]; done) | rfl | (simp [sp_lose, c_2, ek_p0, c_3, mc_3, if_true, ts_ss, ts_aa]; done) | (exfalso; clear hR C; simp_all; done)⟩
    · skip
      have mc_3 : s 18 j_p0 = 0 := (so_iff (hshe j_p0 (by omega))).mp c_3
      refine tv_iconst (v := 0) C dX8_lose_20 (by decide) ?_
      refine tv_goto C 25 dX8_lose_21 (by decide) ?_
      refine tv_istore_n (lv' := [(2, .int 0), (0, .ref (tv_ad c 0)), (1, .int p0)]) C dX8_lose_25 rfl (by decide) rfl ?_
      refine tv_aload_n C dX8_lose_26 rfl 1 rfl ?_
      refine tv_get (ci := 8) (Cn := RX8) (T := TX8) (Nf := 35) (v := .ref (tv_ad c 1)) C 0 (by decide) rfl rfl in_X8_lose_X8 2 (by decide) lk_X8_lose_9 rfl dX8_lose_27 ?_
      refine tv_iload_n C dX8_lose_30 rfl 2 rfl ?_
      refine tv_bipush (v := (-9)) C dX8_lose_31 (by decide) ?_
      refine tv_iast (E' := (eM c (ts_a s 18 (upd (s 18) j_p0 0)) r)) C 1 (by decide) rfl j_p0 ej_p0 (show j_p0 < 4 by omega) (by decide) (eM_u_sorts_lose c s r j_p0) dX8_lose_33 ?_
      refine tv_iload_n C dX8_lose_34 rfl 0 rfl ?_
      exact hR _ _ _ _ dX8_lose_35 ⟨by first | (simp only [sp_lose, c_2, ek_p0, eq_true c_3, eq_true mc_3, if_true, ↓reduceIte]; done) | rfl | (simp [sp_lose, c_2, ek_p0, eq_true c_3, eq_true mc_3, if_true]; done) | (exfalso; clear hR C; simp_all; done), by first | (simp only [sp_lose, c_2, ek_p0, eq_true c_3, eq_true mc_3, if_true, ts_ss, ts_aa, ↓reduceIte]; done) | rfl | (simp [sp_lose, c_2, ek_p0, eq_true c_3, eq_true mc_3, if_true, ts_ss, ts_aa]; done) | (exfalso; clear hR C; simp_all; done)⟩
  · skip
    refine tv_iconst (v := (-1)) C dX8_lose_7 (by decide) ?_
    exact hR _ _ _ _ dX8_lose_8 ⟨by first | (simp only [sp_lose, eq_true c_2, if_true, ↓reduceIte]; done) | rfl | (simp [sp_lose, eq_true c_2, if_true]; done) | (exfalso; clear hR C; simp_all; done), by first | (simp only [sp_lose, eq_true c_2, if_true, ts_ss, ts_aa, ↓reduceIte]; done) | rfl | (simp [sp_lose, eq_true c_2, if_true, ts_ss, ts_aa]; done) | (exfalso; clear hR C; simp_all; done)⟩
set_option maxHeartbeats 4000000 in
set_option maxRecDepth 100000 in
theorem kX8_isSo (c : tv_c) (s r : ts_T)  (k : Nat) (q : Nat) (p0 p1 p2 p3 : Int32) (e_p0 : p0 = nI k) (h_p0 : k < 6) (e_p3 : p3 = nI q) (h_p3 : q < 158) : tv_Fi c 19 yX8_isSo wsX8_isSo { frames := 2, cells := 0, slots := 0, locals := 53 } [.ref (tv_ad c 0), .int p0, .int p1, .int p2, .int p3] (eM c s r) (sp_so s k p1 p2 q) (eM c s r) := by
  refine tv_metZ (by decide +kernel) rfl rfl (Nat.le_of_ble_eq_true rfl) (fun X C hR => ?_)
  show tv_V c 19 X (eM c s r) 0 [(0, .ref (tv_ad c 0)), (1, .int p0), (2, .int p1), (3, .int p2), (4, .int p3)] []
  refine tv_iconst (v := 0) C dX8_isSo_0 (by decide) ?_
  refine tv_istore (lv' := [(5, .int 0), (0, .ref (tv_ad c 0)), (1, .int p0), (2, .int p1), (3, .int p2), (4, .int p3)]) C dX8_isSo_1 (by decide) rfl ?_
  refine tv_iload C dX8_isSo_3 0 rfl ?_
  refine tv_iconst (v := 3) C dX8_isSo_5 (by decide) ?_
  refine tv_icmp_ge C 42 dX8_isSo_6 (by decide) (fun c_1 => absurd c_1 (by decide)) (fun c_1 => ?_)
  refine tv_aload_n C dX8_isSo_9 rfl 1 rfl ?_
  refine tv_iload_n C dX8_isSo_10 rfl 2 rfl ?_
  refine tv_iload C dX8_isSo_11 0 rfl ?_
  refine tv_iload_n C dX8_isSo_13 rfl 3 rfl ?_
  refine tv_iload_n C dX8_isSo_14 rfl 4 rfl ?_
  refine tv_imul C dX8_isSo_15 ?_
  refine tv_iload_n C dX8_isSo_16 rfl 4 rfl ?_
  refine tv_iconst (v := 0) C dX8_isSo_17 (by decide) ?_
  refine tv_calli (As := [.int p0, .int 0, .int (p1 * p2), .int p2, .int 0]) (rest := []) (ci := 8) (cn := RX8) (T := TX8) (Nf := 35) C 0 (kX8_comesOf c s r k 0 p0 0 (p1 * p2) p2 0 e_p0 (by omega) (tn_l 0) (by omega)) gX8_isSo_X8_comesOf rfl yd_X8_comesOf ⟨rfl, rfl⟩ (by decide) (by decide) rfl rfl rfl rfl (Nat.le_of_ble_eq_true rfl) dX8_isSo_18 (fun q_2 u_2 z_2 => ?_)
  obtain ⟨rfl, rfl⟩ := z_2
  refine tv_aload_n C dX8_isSo_21 rfl 1 rfl ?_
  refine tv_get (ci := 8) (Cn := RX8) (T := TX8) (Nf := 35) (v := .ref (tv_ad c 3)) C 0 (by decide) rfl rfl in_X8_isSo_X8 4 (by decide) lk_X8_isSo_16 rfl dX8_isSo_22 ?_
  refine tv_iload C dX8_isSo_25 5 rfl ?_
  refine tv_iload C dX8_isSo_27 0 rfl ?_
  refine tv_iadd C dX8_isSo_29 ?_
  refine tv_iald (f := (s 21)) (v := (s 21 (q + 0))) C 3 (by decide) rfl (q + 0) (tn_add e_p3 (tn_l 0)) (show (q + 0) < 160 by omega) (by decide) rfl dX8_isSo_30 ?_
  refine tv_icmp_eq C 36 dX8_isSo_31 (by decide) (fun c_3 => ?_) (fun c_3 => ?_)
  · skip
    refine tv_iinc (v := 1) (lv' := [(5, .int 1), (0, .ref (tv_ad c 0)), (1, .int p0), (2, .int p1), (3, .int p2), (4, .int p3)]) C dX8_isSo_36 0 rfl (by decide) (by decide) rfl ?_
    refine tv_goto C 3 dX8_isSo_39 (by decide) ?_
    refine tv_iload C dX8_isSo_3 0 rfl ?_
    refine tv_iconst (v := 3) C dX8_isSo_5 (by decide) ?_
    refine tv_icmp_ge C 42 dX8_isSo_6 (by decide) (fun c_4 => absurd c_4 (by decide)) (fun c_4 => ?_)
    refine tv_aload_n C dX8_isSo_9 rfl 1 rfl ?_
    refine tv_iload_n C dX8_isSo_10 rfl 2 rfl ?_
    refine tv_iload C dX8_isSo_11 0 rfl ?_
    refine tv_iload_n C dX8_isSo_13 rfl 3 rfl ?_
    refine tv_iload_n C dX8_isSo_14 rfl 4 rfl ?_
    refine tv_imul C dX8_isSo_15 ?_
    refine tv_iload_n C dX8_isSo_16 rfl 4 rfl ?_
    refine tv_iconst (v := 0) C dX8_isSo_17 (by decide) ?_
    refine tv_calli (As := [.int p0, .int 1, .int (p1 * p2), .int p2, .int 0]) (rest := []) (ci := 8) (cn := RX8) (T := TX8) (Nf := 35) C 0 (kX8_comesOf c s r k 1 p0 1 (p1 * p2) p2 0 e_p0 (by omega) (tn_l 1) (by omega)) gX8_isSo_X8_comesOf rfl yd_X8_comesOf ⟨rfl, rfl⟩ (by decide) (by decide) rfl rfl rfl rfl (Nat.le_of_ble_eq_true rfl) dX8_isSo_18 (fun q_5 u_5 z_5 => ?_)
    obtain ⟨rfl, rfl⟩ := z_5
    refine tv_aload_n C dX8_isSo_21 rfl 1 rfl ?_
    refine tv_get (ci := 8) (Cn := RX8) (T := TX8) (Nf := 35) (v := .ref (tv_ad c 3)) C 0 (by decide) rfl rfl in_X8_isSo_X8 4 (by decide) lk_X8_isSo_16 rfl dX8_isSo_22 ?_
    refine tv_iload C dX8_isSo_25 5 rfl ?_
    refine tv_iload C dX8_isSo_27 0 rfl ?_
    refine tv_iadd C dX8_isSo_29 ?_
    refine tv_iald (f := (s 21)) (v := (s 21 (q + 1))) C 3 (by decide) rfl (q + 1) (tn_add e_p3 (tn_l 1)) (show (q + 1) < 160 by omega) (by decide) rfl dX8_isSo_30 ?_
    refine tv_icmp_eq C 36 dX8_isSo_31 (by decide) (fun c_6 => ?_) (fun c_6 => ?_)
    · skip
      refine tv_iinc (v := 2) (lv' := [(5, .int 2), (0, .ref (tv_ad c 0)), (1, .int p0), (2, .int p1), (3, .int p2), (4, .int p3)]) C dX8_isSo_36 0 rfl (by decide) (by decide) rfl ?_
      refine tv_goto C 3 dX8_isSo_39 (by decide) ?_
      refine tv_iload C dX8_isSo_3 0 rfl ?_
      refine tv_iconst (v := 3) C dX8_isSo_5 (by decide) ?_
      refine tv_icmp_ge C 42 dX8_isSo_6 (by decide) (fun c_7 => absurd c_7 (by decide)) (fun c_7 => ?_)
      refine tv_aload_n C dX8_isSo_9 rfl 1 rfl ?_
      refine tv_iload_n C dX8_isSo_10 rfl 2 rfl ?_
      refine tv_iload C dX8_isSo_11 0 rfl ?_
      refine tv_iload_n C dX8_isSo_13 rfl 3 rfl ?_
      refine tv_iload_n C dX8_isSo_14 rfl 4 rfl ?_
      refine tv_imul C dX8_isSo_15 ?_
      refine tv_iload_n C dX8_isSo_16 rfl 4 rfl ?_
      refine tv_iconst (v := 0) C dX8_isSo_17 (by decide) ?_
      refine tv_calli (As := [.int p0, .int 2, .int (p1 * p2), .int p2, .int 0]) (rest := []) (ci := 8) (cn := RX8) (T := TX8) (Nf := 35) C 0 (kX8_comesOf c s r k 2 p0 2 (p1 * p2) p2 0 e_p0 (by omega) (tn_l 2) (by omega)) gX8_isSo_X8_comesOf rfl yd_X8_comesOf ⟨rfl, rfl⟩ (by decide) (by decide) rfl rfl rfl rfl (Nat.le_of_ble_eq_true rfl) dX8_isSo_18 (fun q_8 u_8 z_8 => ?_)
      obtain ⟨rfl, rfl⟩ := z_8
      refine tv_aload_n C dX8_isSo_21 rfl 1 rfl ?_
      refine tv_get (ci := 8) (Cn := RX8) (T := TX8) (Nf := 35) (v := .ref (tv_ad c 3)) C 0 (by decide) rfl rfl in_X8_isSo_X8 4 (by decide) lk_X8_isSo_16 rfl dX8_isSo_22 ?_
      refine tv_iload C dX8_isSo_25 5 rfl ?_
      refine tv_iload C dX8_isSo_27 0 rfl ?_
      refine tv_iadd C dX8_isSo_29 ?_
      refine tv_iald (f := (s 21)) (v := (s 21 (q + 2))) C 3 (by decide) rfl (q + 2) (tn_add e_p3 (tn_l 2)) (show (q + 2) < 160 by omega) (by decide) rfl dX8_isSo_30 ?_
      refine tv_icmp_eq C 36 dX8_isSo_31 (by decide) (fun c_9 => ?_) (fun c_9 => ?_)
      · skip
        refine tv_iinc (v := 3) (lv' := [(5, .int 3), (0, .ref (tv_ad c 0)), (1, .int p0), (2, .int p1), (3, .int p2), (4, .int p3)]) C dX8_isSo_36 0 rfl (by decide) (by decide) rfl ?_
        refine tv_goto C 3 dX8_isSo_39 (by decide) ?_
        refine tv_iload C dX8_isSo_3 0 rfl ?_
        refine tv_iconst (v := 3) C dX8_isSo_5 (by decide) ?_
        refine tv_icmp_ge C 42 dX8_isSo_6 (by decide) (fun c_10 => ?_) (fun c_10 => absurd (by decide) c_10)
        refine tv_iconst (v := 1) C dX8_isSo_42 (by decide) ?_
        exact hR _ _ _ _ dX8_isSo_43 (by first | rfl | exact tn_nz (sp_in_z _ _ _) | exact tn_nz (sp_ix_z _ _)) ⟨by first | (simp only [sp_so, eq_true c_3, eq_true c_6, eq_true c_9, if_true, ↓reduceIte]; done) | rfl | (simp [sp_so, eq_true c_3, eq_true c_6, eq_true c_9, if_true]; done) | (exfalso; clear hR C; simp_all; done), by first | (simp only [sp_so, eq_true c_3, eq_true c_6, eq_true c_9, if_true, ts_ss, ts_aa, ↓reduceIte]; done) | rfl | (simp [sp_so, eq_true c_3, eq_true c_6, eq_true c_9, if_true, ts_ss, ts_aa]; done) | (exfalso; clear hR C; simp_all; done)⟩
      · skip
        refine tv_iconst (v := 0) C dX8_isSo_34 (by decide) ?_
        exact hR _ _ _ _ dX8_isSo_35 (by first | rfl | exact tn_nz (sp_in_z _ _ _) | exact tn_nz (sp_ix_z _ _)) ⟨by first | (simp only [sp_so, eq_true c_3, eq_true c_6, c_9, if_true, ↓reduceIte]; done) | rfl | (simp [sp_so, eq_true c_3, eq_true c_6, c_9, if_true]; done) | (exfalso; clear hR C; simp_all; done), by first | (simp only [sp_so, eq_true c_3, eq_true c_6, c_9, if_true, ts_ss, ts_aa, ↓reduceIte]; done) | rfl | (simp [sp_so, eq_true c_3, eq_true c_6, c_9, if_true, ts_ss, ts_aa]; done) | (exfalso; clear hR C; simp_all; done)⟩
    · skip
      refine tv_iconst (v := 0) C dX8_isSo_34 (by decide) ?_
      exact hR _ _ _ _ dX8_isSo_35 (by first | rfl | exact tn_nz (sp_in_z _ _ _) | exact tn_nz (sp_ix_z _ _)) ⟨by first | (simp only [sp_so, eq_true c_3, c_6, if_true, ↓reduceIte]; done) | rfl | (simp [sp_so, eq_true c_3, c_6, if_true]; done) | (exfalso; clear hR C; simp_all; done), by first | (simp only [sp_so, eq_true c_3, c_6, if_true, ts_ss, ts_aa, ↓reduceIte]; done) | rfl | (simp [sp_so, eq_true c_3, c_6, if_true, ts_ss, ts_aa]; done) | (exfalso; clear hR C; simp_all; done)⟩
  · skip
    refine tv_iconst (v := 0) C dX8_isSo_34 (by decide) ?_
    exact hR _ _ _ _ dX8_isSo_35 (by first | rfl | exact tn_nz (sp_in_z _ _ _) | exact tn_nz (sp_ix_z _ _)) ⟨by first | (simp only [sp_so, c_3, if_true, ↓reduceIte]; done) | rfl | (simp [sp_so, c_3, if_true]; done) | (exfalso; clear hR C; simp_all; done), by first | (simp only [sp_so, c_3, if_true, ts_ss, ts_aa, ↓reduceIte]; done) | rfl | (simp [sp_so, c_3, if_true, ts_ss, ts_aa]; done) | (exfalso; clear hR C; simp_all; done)⟩
set_option maxHeartbeats 4000000 in
set_option maxRecDepth 100000 in
theorem kX8_cell (c : tv_c) (s r : ts_T)  (p0 p1 p2 : Int32) (hI : iv s) : tv_Fl c 19 yX8_cell wsX8_cell { frames := 2, cells := 0, slots := 0, locals := 42 } [.ref (tv_ad c 0), .int p0, .int p1, .int p2] (eM c s r) ((sp_cell s p0 p1 p2).1) (eM c (sp_cell s p0 p1 p2).2 r) := by
  refine tv_metL (by decide +kernel) rfl rfl (Nat.le_of_ble_eq_true rfl) (fun X C hR => ?_)
  show tv_V c 19 X (eM c s r) 0 [(0, .ref (tv_ad c 0)), (1, .int p0), (2, .int p1), (3, .int p2)] []
  have hC := iv.hC hI
  obtain ⟨h, w, n, nk, nl, ny, nm, li, e2, e3, e9, hnw, hh, hw, hn, hz, hp, e7, hk, e8, hl, e4, hy, e5, hm, e6, hli, hcel, hkin, hban, hwei, hshe⟩ := id hI
  refine tv_aload_n C dX8_cell_0 rfl 0 rfl ?_
  refine tv_iconst (v := 0) C dX8_cell_1 (by decide) ?_
  refine tv_put (ci := 8) (Cn := RX8) (T := TX8) (Nf := 35) (ty := .int) (E' := (eM c (ts_s s 0 0) r)) C 0 (by decide) rfl rfl in_X8_cell_X8 tyX8 tyX8_ok nmX8 0 (by decide) lk_X8_cell_65 rfl (by decide +kernel) rfl rfl (Nat.le_of_ble_eq_true rfl) (eM_u_fault c s r 0) dX8_cell_2 ?_
  refine tv_iload_n C dX8_cell_5 rfl 1 rfl ?_
  refine tv_callis (As := [.int p0]) (rest := []) C (kX8_isSheet c (ts_s s 0 0) r  p0 ) gX8_cell_X8_isSheet rfl yd_X8_isSheet ⟨rfl, rfl⟩ (by decide) rfl rfl (Nat.le_of_ble_eq_true rfl) dX8_cell_6 (fun q_1 u_1 z_1 => ?_)
  obtain ⟨rfl, rfl⟩ := z_1
  show tv_V c 19 X (eM c (ts_s s 0 0) r) 9 [(0, .ref (tv_ad c 0)), (1, .int p0), (2, .int p1), (3, .int p2)] [.int (sp_in p0 0 3)]
  refine tv_if_eq C 19 dX8_cell_9 (by decide) (fun c_2 => ?_) (fun c_2 => ?_)
  · skip
    refine tv_ldc2 (v := (-9223372036854775808)) C wd_X8_cell_k69 dX8_cell_19 ?_
    exact hR _ _ _ _ dX8_cell_22 ⟨by first | (simp only [sp_cell, eq_true c_2, if_true, ↓reduceIte]; done) | rfl | (simp [sp_cell, eq_true c_2, if_true]; done) | (exfalso; clear hR C; simp_all; done), by first | (simp only [sp_cell, eq_true c_2, if_true, ts_ss, ts_aa, ↓reduceIte]; done) | rfl | (simp [sp_cell, eq_true c_2, if_true, ts_ss, ts_aa]; done) | (exfalso; clear hR C; simp_all; done)⟩
  · skip
    obtain ⟨j_p0, hj_p0, ej_p0, ek_p0⟩ := in_in (b := 3) (by decide) c_2
    refine tv_iload_n C dX8_cell_12 rfl 3 rfl ?_
    refine tv_callis (As := [.int p2]) (rest := []) C (kX8_isSort c (ts_s s 0 0) r  p2 ) gX8_cell_X8_isSort rfl yd_X8_isSort ⟨rfl, rfl⟩ (by decide) rfl rfl (Nat.le_of_ble_eq_true rfl) dX8_cell_13 (fun q_3 u_3 z_3 => ?_)
    obtain ⟨rfl, rfl⟩ := z_3
    show tv_V c 19 X (eM c (ts_s s 0 0) r) 16 [(0, .ref (tv_ad c 0)), (1, .int p0), (2, .int p1), (3, .int p2)] [.int (sp_in p2 0 2)]
    refine tv_if_ne C 23 dX8_cell_16 (by decide) (fun c_4 => ?_) (fun c_4 => ?_)
    · skip
      obtain ⟨j_p2, hj_p2, ej_p2, ek_p2⟩ := in_in (b := 2) (by decide) c_4
      refine tv_aload_n C dX8_cell_23 rfl 0 rfl ?_
      refine tv_get (ci := 8) (Cn := RX8) (T := TX8) (Nf := 35) (v := .ref (tv_ad c 1)) C 0 (by decide) rfl rfl in_X8_cell_X8 2 (by decide) lk_X8_cell_9 rfl dX8_cell_24 ?_
      refine tv_iload_n C dX8_cell_27 rfl 1 rfl ?_
      refine tv_iald (v := (eM_so s j_p0)) C 1 (by decide) rfl j_p0 ej_p0 (show j_p0 < 4 by omega) (by decide) rfl dX8_cell_28 ?_
      refine tv_bipush (v := (-9)) C dX8_cell_29 (by decide) ?_
      refine tv_icmp_eq C 50 dX8_cell_31 (by decide) (fun c_5 => ?_) (fun c_5 => ?_)
      · skip
        have mc_5 : s 18 j_p0 = 0 := (so_iff (hshe j_p0 (by omega))).mp c_5
        refine tv_aload_n C dX8_cell_50 rfl 0 rfl ?_
        refine tv_get (ci := 8) (Cn := RX8) (T := TX8) (Nf := 35) (v := .ref (tv_ad c 1)) C 0 (by decide) rfl rfl in_X8_cell_X8 2 (by decide) lk_X8_cell_9 rfl dX8_cell_51 ?_
        refine tv_iload_n C dX8_cell_54 rfl 1 rfl ?_
        refine tv_iald (v := (eM_so s j_p0)) C 1 (by decide) rfl j_p0 ej_p0 (show j_p0 < 4 by omega) (by decide) rfl dX8_cell_55 ?_
        refine tv_bipush (v := (-9)) C dX8_cell_56 (by decide) ?_
        refine tv_icmp_ne C 67 dX8_cell_58 (by decide) (fun c_6 => absurd c_5 c_6) (fun c_6 => ?_)
        refine tv_aload_n C dX8_cell_61 rfl 0 rfl ?_
        refine tv_iconst (v := 1) C dX8_cell_62 (by decide) ?_
        refine tv_calll (As := [.int 1]) (rest := []) (ci := 8) (cn := RX8) (T := TX8) (Nf := 35) C 0 (kX8_lost c (ts_s s 0 0) r  1 ) gX8_cell_X8_lost rfl yd_X8_lost ⟨rfl, rfl⟩ (by decide) (by decide) rfl rfl rfl rfl (Nat.le_of_ble_eq_true rfl) dX8_cell_63 (fun q_7 u_7 z_7 => ?_)
        obtain ⟨rfl, rfl⟩ := z_7
        show tv_V c 19 X (eM c (ts_s (ts_s s 0 0) 0 1) r) 66 [(0, .ref (tv_ad c 0)), (1, .int p0), (2, .int p1), (3, .int p2)] [.long (-9223372036854775808)]
        refine tv_eqE (E' := (eM c (ts_s s 0 1) r)) (congrArg (fun z => eM c z r) (by funext zz; rcases Classical.em (zz = 0) with hzz | h_0; (subst hzz; rfl); simp only [ts_s, ts_a, h_0, ↓reduceIte])) ?_
        show tv_V c 19 X (eM c (ts_s s 0 1) r) 66 [(0, .ref (tv_ad c 0)), (1, .int p0), (2, .int p1), (3, .int p2)] [.long (-9223372036854775808)]
        exact hR _ _ _ _ dX8_cell_66 ⟨by first | (simp only [sp_cell, c_2, ek_p0, c_4, ek_p2, eq_true c_5, eq_true mc_5, eq_true c_6, if_true, ↓reduceIte]; done) | rfl | (simp [sp_cell, c_2, ek_p0, c_4, ek_p2, eq_true c_5, eq_true mc_5, eq_true c_6, if_true]; done) | (exfalso; clear hR C; simp_all; done), by first | (simp only [sp_cell, c_2, ek_p0, c_4, ek_p2, eq_true c_5, eq_true mc_5, eq_true c_6, if_true, ts_ss, ts_aa, ↓reduceIte]; done) | rfl | (simp [sp_cell, c_2, ek_p0, c_4, ek_p2, eq_true c_5, eq_true mc_5, eq_true c_6, if_true, ts_ss, ts_aa]; done) | (exfalso; clear hR C; simp_all; done)⟩
      · skip
        have mc_5 : ¬ s 18 j_p0 = 0 := tn_nf (so_iff (hshe j_p0 (by omega))) c_5
        have kc_5 : eM_so s j_p0 = s 19 j_p0 := so_eq mc_5
        refine tv_aload_n C dX8_cell_34 rfl 0 rfl ?_
        refine tv_get (ci := 8) (Cn := RX8) (T := TX8) (Nf := 35) (v := .ref (tv_ad c 1)) C 0 (by decide) rfl rfl in_X8_cell_X8 2 (by decide) lk_X8_cell_9 rfl dX8_cell_35 ?_
        refine tv_iload_n C dX8_cell_38 rfl 1 rfl ?_
        refine tv_iald (v := (s 19 j_p0)) C 1 (by decide) rfl j_p0 ej_p0 (show j_p0 < 4 by omega) (by decide) kc_5 dX8_cell_39 ?_
        refine tv_iload_n C dX8_cell_40 rfl 3 rfl ?_
        refine tv_icmp_eq C 50 dX8_cell_41 (by decide) (fun c_8 => ?_) (fun c_8 => ?_)
        · skip
          refine tv_aload_n C dX8_cell_50 rfl 0 rfl ?_
          refine tv_get (ci := 8) (Cn := RX8) (T := TX8) (Nf := 35) (v := .ref (tv_ad c 1)) C 0 (by decide) rfl rfl in_X8_cell_X8 2 (by decide) lk_X8_cell_9 rfl dX8_cell_51 ?_
          refine tv_iload_n C dX8_cell_54 rfl 1 rfl ?_
          refine tv_iald (v := (s 19 j_p0)) C 1 (by decide) rfl j_p0 ej_p0 (show j_p0 < 4 by omega) (by decide) kc_5 dX8_cell_55 ?_
          refine tv_bipush (v := (-9)) C dX8_cell_56 (by decide) ?_
          refine tv_icmp_ne C 67 dX8_cell_58 (by decide) (fun c_9 => ?_) (fun c_9 => ?_)
          · skip
            refine tv_iload_n C dX8_cell_67 rfl 2 rfl ?_
            refine tv_iconst (v := 0) C dX8_cell_68 (by decide) ?_
            refine tv_aload_n C dX8_cell_69 rfl 0 rfl ?_
            refine tv_get (ci := 8) (Cn := RX8) (T := TX8) (Nf := 35) (v := .ref (tv_ad c 2)) C 0 (by decide) rfl rfl in_X8_cell_X8 3 (by decide) lk_X8_cell_13 rfl dX8_cell_70 ?_
            refine tv_iload_n C dX8_cell_73 rfl 1 rfl ?_
            refine tv_iald (f := (s 20)) (v := (s 20 j_p0)) C 2 (by decide) rfl j_p0 ej_p0 (show j_p0 < 4 by omega) (by decide) rfl dX8_cell_74 ?_
            refine tv_iconst (v := 1) C dX8_cell_75 (by decide) ?_
            refine tv_isub C dX8_cell_76 ?_
            refine tv_callis (As := [.int p1, .int 0, .int ((s 20 j_p0) - 1)]) (rest := []) C (kX8_within c (ts_s s 0 0) r  p1 0 ((s 20 j_p0) - 1) ) gX8_cell_X8_within rfl yd_X8_within ⟨rfl, rfl⟩ (by decide) rfl rfl (Nat.le_of_ble_eq_true rfl) dX8_cell_77 (fun q_10 u_10 z_10 => ?_)
            obtain ⟨rfl, rfl⟩ := z_10
            show tv_V c 19 X (eM c (ts_s s 0 0) r) 80 [(0, .ref (tv_ad c 0)), (1, .int p0), (2, .int p1), (3, .int p2)] [.int (sp_in p1 0 ((s 20 j_p0) - 1))]
            refine tv_if_ne C 89 dX8_cell_80 (by decide) (fun c_11 => ?_) (fun c_11 => ?_)
            · skip
              obtain ⟨a1, ha1, ea1, ek1⟩ := in_len (hshe j_p0 (by omega)) c_11
              refine tv_aload_n C dX8_cell_89 rfl 0 rfl ?_
              refine tv_get (ci := 8) (Cn := RX8) (T := TX8) (Nf := 35) (v := .ref (tv_ad c 3)) C 0 (by decide) rfl rfl in_X8_cell_X8 4 (by decide) lk_X8_cell_16 rfl dX8_cell_90 ?_
              refine tv_bipush (v := 40) C dX8_cell_93 (by decide) ?_
              refine tv_iload_n C dX8_cell_95 rfl 1 rfl ?_
              refine tv_imul C dX8_cell_96 ?_
              refine tv_iload_n C dX8_cell_97 rfl 2 rfl ?_
              refine tv_iadd C dX8_cell_98 ?_
              refine tv_iald (f := (s 21)) (v := (s 21 ((40 * j_p0) + a1))) C 3 (by decide) rfl ((40 * j_p0) + a1) (tn_add (tn_mul (tn_l 40) ej_p0) ea1) (show ((40 * j_p0) + a1) < 160 by omega) (by decide) rfl dX8_cell_99 ?_
              refine tv_i2l C dX8_cell_100 ?_
              exact hR _ _ _ _ dX8_cell_101 ⟨by first | (simp only [sp_cell, c_2, ek_p0, c_4, ek_p2, c_5, mc_5, eq_true c_8, c_9, c_11, ek1, if_true, ↓reduceIte]; done) | rfl | (simp [sp_cell, c_2, ek_p0, c_4, ek_p2, c_5, mc_5, eq_true c_8, c_9, c_11, ek1, if_true]; done) | (exfalso; clear hR C; simp_all; done), by first | (simp only [sp_cell, c_2, ek_p0, c_4, ek_p2, c_5, mc_5, eq_true c_8, c_9, c_11, ek1, if_true, ts_ss, ts_aa, ↓reduceIte]; done) | rfl | (simp [sp_cell, c_2, ek_p0, c_4, ek_p2, c_5, mc_5, eq_true c_8, c_9, c_11, ek1, if_true, ts_ss, ts_aa]; done) | (exfalso; clear hR C; simp_all; done)⟩
            · skip
              refine tv_aload_n C dX8_cell_83 rfl 0 rfl ?_
              refine tv_iconst (v := 3) C dX8_cell_84 (by decide) ?_
              refine tv_calll (As := [.int 3]) (rest := []) (ci := 8) (cn := RX8) (T := TX8) (Nf := 35) C 0 (kX8_lost c (ts_s s 0 0) r  3 ) gX8_cell_X8_lost rfl yd_X8_lost ⟨rfl, rfl⟩ (by decide) (by decide) rfl rfl rfl rfl (Nat.le_of_ble_eq_true rfl) dX8_cell_85 (fun q_12 u_12 z_12 => ?_)
              obtain ⟨rfl, rfl⟩ := z_12
              show tv_V c 19 X (eM c (ts_s (ts_s s 0 0) 0 3) r) 88 [(0, .ref (tv_ad c 0)), (1, .int p0), (2, .int p1), (3, .int p2)] [.long (-9223372036854775808)]
              refine tv_eqE (E' := (eM c (ts_s s 0 3) r)) (congrArg (fun z => eM c z r) (by funext zz; rcases Classical.em (zz = 0) with hzz | h_0; (subst hzz; rfl); simp only [ts_s, ts_a, h_0, ↓reduceIte])) ?_
              show tv_V c 19 X (eM c (ts_s s 0 3) r) 88 [(0, .ref (tv_ad c 0)), (1, .int p0), (2, .int p1), (3, .int p2)] [.long (-9223372036854775808)]
              exact hR _ _ _ _ dX8_cell_88 ⟨by first | (simp only [sp_cell, c_2, ek_p0, c_4, ek_p2, c_5, mc_5, eq_true c_8, c_9, eq_true c_11, if_true, ↓reduceIte]; done) | rfl | (simp [sp_cell, c_2, ek_p0, c_4, ek_p2, c_5, mc_5, eq_true c_8, c_9, eq_true c_11, if_true]; done) | (exfalso; clear hR C; simp_all; done), by first | (simp only [sp_cell, c_2, ek_p0, c_4, ek_p2, c_5, mc_5, eq_true c_8, c_9, eq_true c_11, if_true, ts_ss, ts_aa, ↓reduceIte]; done) | rfl | (simp [sp_cell, c_2, ek_p0, c_4, ek_p2, c_5, mc_5, eq_true c_8, c_9, eq_true c_11, if_true, ts_ss, ts_aa]; done) | (exfalso; clear hR C; simp_all; done)⟩
          · skip
            refine tv_aload_n C dX8_cell_61 rfl 0 rfl ?_
            refine tv_iconst (v := 1) C dX8_cell_62 (by decide) ?_
            refine tv_calll (As := [.int 1]) (rest := []) (ci := 8) (cn := RX8) (T := TX8) (Nf := 35) C 0 (kX8_lost c (ts_s s 0 0) r  1 ) gX8_cell_X8_lost rfl yd_X8_lost ⟨rfl, rfl⟩ (by decide) (by decide) rfl rfl rfl rfl (Nat.le_of_ble_eq_true rfl) dX8_cell_63 (fun q_13 u_13 z_13 => ?_)
            obtain ⟨rfl, rfl⟩ := z_13
            show tv_V c 19 X (eM c (ts_s (ts_s s 0 0) 0 1) r) 66 [(0, .ref (tv_ad c 0)), (1, .int p0), (2, .int p1), (3, .int p2)] [.long (-9223372036854775808)]
            refine tv_eqE (E' := (eM c (ts_s s 0 1) r)) (congrArg (fun z => eM c z r) (by funext zz; rcases Classical.em (zz = 0) with hzz | h_0; (subst hzz; rfl); simp only [ts_s, ts_a, h_0, ↓reduceIte])) ?_
            show tv_V c 19 X (eM c (ts_s s 0 1) r) 66 [(0, .ref (tv_ad c 0)), (1, .int p0), (2, .int p1), (3, .int p2)] [.long (-9223372036854775808)]
            exact hR _ _ _ _ dX8_cell_66 ⟨by first | (simp only [sp_cell, c_2, ek_p0, c_4, ek_p2, c_5, mc_5, eq_true c_8, eq_true c_9, if_true, ↓reduceIte]; done) | rfl | (simp [sp_cell, c_2, ek_p0, c_4, ek_p2, c_5, mc_5, eq_true c_8, eq_true c_9, if_true]; done) | (exfalso; clear hR C; simp_all; done), by first | (simp only [sp_cell, c_2, ek_p0, c_4, ek_p2, c_5, mc_5, eq_true c_8, eq_true c_9, if_true, ts_ss, ts_aa, ↓reduceIte]; done) | rfl | (simp [sp_cell, c_2, ek_p0, c_4, ek_p2, c_5, mc_5, eq_true c_8, eq_true c_9, if_true, ts_ss, ts_aa]; done) | (exfalso; clear hR C; simp_all; done)⟩
        · skip
          refine tv_aload_n C dX8_cell_44 rfl 0 rfl ?_
          refine tv_iconst (v := 2) C dX8_cell_45 (by decide) ?_
          refine tv_calll (As := [.int 2]) (rest := []) (ci := 8) (cn := RX8) (T := TX8) (Nf := 35) C 0 (kX8_lost c (ts_s s 0 0) r  2 ) gX8_cell_X8_lost rfl yd_X8_lost ⟨rfl, rfl⟩ (by decide) (by decide) rfl rfl rfl rfl (Nat.le_of_ble_eq_true rfl) dX8_cell_46 (fun q_14 u_14 z_14 => ?_)
          obtain ⟨rfl, rfl⟩ := z_14
          show tv_V c 19 X (eM c (ts_s (ts_s s 0 0) 0 2) r) 49 [(0, .ref (tv_ad c 0)), (1, .int p0), (2, .int p1), (3, .int p2)] [.long (-9223372036854775808)]
          refine tv_eqE (E' := (eM c (ts_s s 0 2) r)) (congrArg (fun z => eM c z r) (by funext zz; rcases Classical.em (zz = 0) with hzz | h_0; (subst hzz; rfl); simp only [ts_s, ts_a, h_0, ↓reduceIte])) ?_
          show tv_V c 19 X (eM c (ts_s s 0 2) r) 49 [(0, .ref (tv_ad c 0)), (1, .int p0), (2, .int p1), (3, .int p2)] [.long (-9223372036854775808)]
          exact hR _ _ _ _ dX8_cell_49 ⟨by first | (simp only [sp_cell, c_2, ek_p0, c_4, ek_p2, c_5, mc_5, c_8, if_true, ↓reduceIte]; done) | rfl | (simp [sp_cell, c_2, ek_p0, c_4, ek_p2, c_5, mc_5, c_8, if_true]; done) | (exfalso; clear hR C; simp_all; done), by first | (simp only [sp_cell, c_2, ek_p0, c_4, ek_p2, c_5, mc_5, c_8, if_true, ts_ss, ts_aa, ↓reduceIte]; done) | rfl | (simp [sp_cell, c_2, ek_p0, c_4, ek_p2, c_5, mc_5, c_8, if_true, ts_ss, ts_aa]; done) | (exfalso; clear hR C; simp_all; done)⟩
    · skip
      refine tv_ldc2 (v := (-9223372036854775808)) C wd_X8_cell_k69 dX8_cell_19 ?_
      exact hR _ _ _ _ dX8_cell_22 ⟨by first | (simp only [sp_cell, c_2, ek_p0, eq_true c_4, if_true, ↓reduceIte]; done) | rfl | (simp [sp_cell, c_2, ek_p0, eq_true c_4, if_true]; done) | (exfalso; clear hR C; simp_all; done), by first | (simp only [sp_cell, c_2, ek_p0, eq_true c_4, if_true, ts_ss, ts_aa, ↓reduceIte]; done) | rfl | (simp [sp_cell, c_2, ek_p0, eq_true c_4, if_true, ts_ss, ts_aa]; done) | (exfalso; clear hR C; simp_all; done)⟩
set_option maxHeartbeats 4000000 in
set_option maxRecDepth 100000 in
theorem kX8_put (c : tv_c) (s r : ts_T)  (p0 p1 p2 : Int32) (hI : iv s) : tv_Fi c 19 yX8_put wsX8_put { frames := 2, cells := 0, slots := 0, locals := 42 } [.ref (tv_ad c 0), .int p0, .int p1, .int p2] (eM c s r) ((sp_put s p0 p1 p2).1) (eM c (sp_put s p0 p1 p2).2 r) := by
  refine tv_metI (by decide +kernel) rfl rfl (Nat.le_of_ble_eq_true rfl) (fun X C hR => ?_)
  show tv_V c 19 X (eM c s r) 0 [(0, .ref (tv_ad c 0)), (1, .int p0), (2, .int p1), (3, .int p2)] []
  have hC := iv.hC hI
  obtain ⟨h, w, n, nk, nl, ny, nm, li, e2, e3, e9, hnw, hh, hw, hn, hz, hp, e7, hk, e8, hl, e4, hy, e5, hm, e6, hli, hcel, hkin, hban, hwei, hshe⟩ := id hI
  refine tv_aload_n C dX8_put_0 rfl 0 rfl ?_
  refine tv_iconst (v := 0) C dX8_put_1 (by decide) ?_
  refine tv_put (ci := 8) (Cn := RX8) (T := TX8) (Nf := 35) (ty := .int) (E' := (eM c (ts_s s 0 0) r)) C 0 (by decide) rfl rfl in_X8_put_X8 tyX8 tyX8_ok nmX8 0 (by decide) lk_X8_put_65 rfl (by decide +kernel) rfl rfl (Nat.le_of_ble_eq_true rfl) (eM_u_fault c s r 0) dX8_put_2 ?_
  refine tv_iload_n C dX8_put_5 rfl 1 rfl ?_
  refine tv_callis (As := [.int p0]) (rest := []) C (kX8_isSheet c (ts_s s 0 0) r  p0 ) gX8_put_X8_isSheet rfl yd_X8_isSheet ⟨rfl, rfl⟩ (by decide) rfl rfl (Nat.le_of_ble_eq_true rfl) dX8_put_6 (fun q_1 u_1 z_1 => ?_)
  obtain ⟨rfl, rfl⟩ := z_1
  show tv_V c 19 X (eM c (ts_s s 0 0) r) 9 [(0, .ref (tv_ad c 0)), (1, .int p0), (2, .int p1), (3, .int p2)] [.int (sp_in p0 0 3)]
  refine tv_if_ne C 14 dX8_put_9 (by decide) (fun c_2 => ?_) (fun c_2 => ?_)
  · skip
    obtain ⟨j_p0, hj_p0, ej_p0, ek_p0⟩ := in_in (b := 3) (by decide) c_2
    refine tv_aload_n C dX8_put_14 rfl 0 rfl ?_
    refine tv_get (ci := 8) (Cn := RX8) (T := TX8) (Nf := 35) (v := .ref (tv_ad c 1)) C 0 (by decide) rfl rfl in_X8_put_X8 2 (by decide) lk_X8_put_9 rfl dX8_put_15 ?_
    refine tv_iload_n C dX8_put_18 rfl 1 rfl ?_
    refine tv_iald (v := (eM_so s j_p0)) C 1 (by decide) rfl j_p0 ej_p0 (show j_p0 < 4 by omega) (by decide) rfl dX8_put_19 ?_
    refine tv_bipush (v := (-9)) C dX8_put_20 (by decide) ?_
    refine tv_icmp_ne C 31 dX8_put_22 (by decide) (fun c_3 => ?_) (fun c_3 => ?_)
    · skip
      have mc_3 : ¬ s 18 j_p0 = 0 := tn_nf (so_iff (hshe j_p0 (by omega))) c_3
      have kc_3 : eM_so s j_p0 = s 19 j_p0 := so_eq mc_3
      refine tv_iload_n C dX8_put_31 rfl 2 rfl ?_
      refine tv_iconst (v := 0) C dX8_put_32 (by decide) ?_
      refine tv_aload_n C dX8_put_33 rfl 0 rfl ?_
      refine tv_get (ci := 8) (Cn := RX8) (T := TX8) (Nf := 35) (v := .ref (tv_ad c 2)) C 0 (by decide) rfl rfl in_X8_put_X8 3 (by decide) lk_X8_put_13 rfl dX8_put_34 ?_
      refine tv_iload_n C dX8_put_37 rfl 1 rfl ?_
      refine tv_iald (f := (s 20)) (v := (s 20 j_p0)) C 2 (by decide) rfl j_p0 ej_p0 (show j_p0 < 4 by omega) (by decide) rfl dX8_put_38 ?_
      refine tv_iconst (v := 1) C dX8_put_39 (by decide) ?_
      refine tv_isub C dX8_put_40 ?_
      refine tv_callis (As := [.int p1, .int 0, .int ((s 20 j_p0) - 1)]) (rest := []) C (kX8_within c (ts_s s 0 0) r  p1 0 ((s 20 j_p0) - 1) ) gX8_put_X8_within rfl yd_X8_within ⟨rfl, rfl⟩ (by decide) rfl rfl (Nat.le_of_ble_eq_true rfl) dX8_put_41 (fun q_4 u_4 z_4 => ?_)
      obtain ⟨rfl, rfl⟩ := z_4
      show tv_V c 19 X (eM c (ts_s s 0 0) r) 44 [(0, .ref (tv_ad c 0)), (1, .int p0), (2, .int p1), (3, .int p2)] [.int (sp_in p1 0 ((s 20 j_p0) - 1))]
      refine tv_if_ne C 53 dX8_put_44 (by decide) (fun c_5 => ?_) (fun c_5 => ?_)
      · skip
        obtain ⟨a1, ha1, ea1, ek1⟩ := in_len (hshe j_p0 (by omega)) c_5
        refine tv_aload_n C dX8_put_53 rfl 0 rfl ?_
        refine tv_get (ci := 8) (Cn := RX8) (T := TX8) (Nf := 35) (v := .ref (tv_ad c 3)) C 0 (by decide) rfl rfl in_X8_put_X8 4 (by decide) lk_X8_put_16 rfl dX8_put_54 ?_
        refine tv_bipush (v := 40) C dX8_put_57 (by decide) ?_
        refine tv_iload_n C dX8_put_59 rfl 1 rfl ?_
        refine tv_imul C dX8_put_60 ?_
        refine tv_iload_n C dX8_put_61 rfl 2 rfl ?_
        refine tv_iadd C dX8_put_62 ?_
        refine tv_aload_n C dX8_put_63 rfl 0 rfl ?_
        refine tv_get (ci := 8) (Cn := RX8) (T := TX8) (Nf := 35) (v := .ref (tv_ad c 1)) C 0 (by decide) rfl rfl in_X8_put_X8 2 (by decide) lk_X8_put_9 rfl dX8_put_64 ?_
        refine tv_iload_n C dX8_put_67 rfl 1 rfl ?_
        refine tv_iald (v := (s 19 j_p0)) C 1 (by decide) rfl j_p0 ej_p0 (show j_p0 < 4 by omega) (by decide) kc_3 dX8_put_68 ?_
        refine tv_if_ne C 77 dX8_put_69 (by decide) (fun c_6 => ?_) (fun c_6 => ?_)
        · skip
          refine tv_aload_n C dX8_put_77 rfl 0 rfl ?_
          refine tv_get (ci := 8) (Cn := RX8) (T := TX8) (Nf := 35) (v := .ref (tv_ad c 1)) C 0 (by decide) rfl rfl in_X8_put_X8 2 (by decide) lk_X8_put_9 rfl dX8_put_78 ?_
          refine tv_iload_n C dX8_put_81 rfl 1 rfl ?_
          refine tv_iald (v := (s 19 j_p0)) C 1 (by decide) rfl j_p0 ej_p0 (show j_p0 < 4 by omega) (by decide) kc_3 dX8_put_82 ?_
          refine tv_iconst (v := 1) C dX8_put_83 (by decide) ?_
          refine tv_icmp_ne C 92 dX8_put_84 (by decide) (fun c_7 => ?_) (fun c_7 => ?_)
          · skip
            refine tv_iload_n C dX8_put_92 rfl 3 rfl ?_
            refine tv_iast (E' := (eM c (ts_a (ts_s s 0 0) 21 (upd (s 21) ((40 * j_p0) + a1) p2)) r)) C 3 (by decide) rfl ((40 * j_p0) + a1) (tn_add (tn_mul (tn_l 40) ej_p0) ea1) (show ((40 * j_p0) + a1) < 160 by omega) (by decide) (eM_u_cells c (ts_s s 0 0) r (upd (s 21) ((40 * j_p0) + a1) p2)) dX8_put_93 ?_
            refine tv_iconst (v := 1) C dX8_put_94 (by decide) ?_
            exact hR _ _ _ _ dX8_put_95 ⟨by first | (simp only [sp_put, sp_cut, c_2, ek_p0, c_3, mc_3, c_5, ek1, c_6, c_7, if_true, ↓reduceIte]; done) | rfl | (simp [sp_put, sp_cut, c_2, ek_p0, c_3, mc_3, c_5, ek1, c_6, c_7, if_true]; done) | (exfalso; clear hR C; simp_all; done), by first | (simp only [sp_put, sp_cut, c_2, ek_p0, c_3, mc_3, c_5, ek1, c_6, c_7, if_true, ts_ss, ts_aa, ↓reduceIte]; done) | rfl | (simp [sp_put, sp_cut, c_2, ek_p0, c_3, mc_3, c_5, ek1, c_6, c_7, if_true, ts_ss, ts_aa]; done) | (exfalso; clear hR C; simp_all; done)⟩
          · skip
            refine tv_iload_n C dX8_put_87 rfl 3 rfl ?_
            refine tv_i2s C dX8_put_88 ?_
            refine tv_goto C 93 dX8_put_89 (by decide) ?_
            refine tv_iast (E' := (eM c (ts_a (ts_s s 0 0) 21 (upd (s 21) ((40 * j_p0) + a1) (p2.toInt16.toInt32))) r)) C 3 (by decide) rfl ((40 * j_p0) + a1) (tn_add (tn_mul (tn_l 40) ej_p0) ea1) (show ((40 * j_p0) + a1) < 160 by omega) (by decide) (eM_u_cells c (ts_s s 0 0) r (upd (s 21) ((40 * j_p0) + a1) (p2.toInt16.toInt32))) dX8_put_93 ?_
            refine tv_iconst (v := 1) C dX8_put_94 (by decide) ?_
            exact hR _ _ _ _ dX8_put_95 ⟨by first | (simp only [sp_put, sp_cut, c_2, ek_p0, c_3, mc_3, c_5, ek1, c_6, eq_true c_7, if_true, ↓reduceIte]; done) | rfl | (simp [sp_put, sp_cut, c_2, ek_p0, c_3, mc_3, c_5, ek1, c_6, eq_true c_7, if_true]; done) | (exfalso; clear hR C; simp_all; done), by first | (simp only [sp_put, sp_cut, c_2, ek_p0, c_3, mc_3, c_5, ek1, c_6, eq_true c_7, if_true, ts_ss, ts_aa, ↓reduceIte]; done) | rfl | (simp [sp_put, sp_cut, c_2, ek_p0, c_3, mc_3, c_5, ek1, c_6, eq_true c_7, if_true, ts_ss, ts_aa]; done) | (exfalso; clear hR C; simp_all; done)⟩
        · skip
          refine tv_iload_n C dX8_put_72 rfl 3 rfl ?_
          refine tv_i2b C dX8_put_73 ?_
          refine tv_goto C 93 dX8_put_74 (by decide) ?_
          refine tv_iast (E' := (eM c (ts_a (ts_s s 0 0) 21 (upd (s 21) ((40 * j_p0) + a1) (p2.toInt8.toInt32))) r)) C 3 (by decide) rfl ((40 * j_p0) + a1) (tn_add (tn_mul (tn_l 40) ej_p0) ea1) (show ((40 * j_p0) + a1) < 160 by omega) (by decide) (eM_u_cells c (ts_s s 0 0) r (upd (s 21) ((40 * j_p0) + a1) (p2.toInt8.toInt32))) dX8_put_93 ?_
          refine tv_iconst (v := 1) C dX8_put_94 (by decide) ?_
          exact hR _ _ _ _ dX8_put_95 ⟨by first | (simp only [sp_put, sp_cut, c_2, ek_p0, c_3, mc_3, c_5, ek1, eq_true c_6, if_true, ↓reduceIte]; done) | rfl | (simp [sp_put, sp_cut, c_2, ek_p0, c_3, mc_3, c_5, ek1, eq_true c_6, if_true]; done) | (exfalso; clear hR C; simp_all; done), by first | (simp only [sp_put, sp_cut, c_2, ek_p0, c_3, mc_3, c_5, ek1, eq_true c_6, if_true, ts_ss, ts_aa, ↓reduceIte]; done) | rfl | (simp [sp_put, sp_cut, c_2, ek_p0, c_3, mc_3, c_5, ek1, eq_true c_6, if_true, ts_ss, ts_aa]; done) | (exfalso; clear hR C; simp_all; done)⟩
      · skip
        refine tv_aload_n C dX8_put_47 rfl 0 rfl ?_
        refine tv_iconst (v := 3) C dX8_put_48 (by decide) ?_
        refine tv_calli (As := [.int 3]) (rest := []) (ci := 8) (cn := RX8) (T := TX8) (Nf := 35) C 0 (kX8_fails c (ts_s s 0 0) r  3 ) gX8_put_X8_fails rfl yd_X8_fails ⟨rfl, rfl⟩ (by decide) (by decide) rfl rfl rfl rfl (Nat.le_of_ble_eq_true rfl) dX8_put_49 (fun q_8 u_8 z_8 => ?_)
        obtain ⟨rfl, rfl⟩ := z_8
        show tv_V c 19 X (eM c (ts_s (ts_s s 0 0) 0 3) r) 52 [(0, .ref (tv_ad c 0)), (1, .int p0), (2, .int p1), (3, .int p2)] [.int ((-10) - 3)]
        refine tv_eqE (E' := (eM c (ts_s s 0 3) r)) (congrArg (fun z => eM c z r) (by funext zz; rcases Classical.em (zz = 0) with hzz | h_0; (subst hzz; rfl); simp only [ts_s, ts_a, h_0, ↓reduceIte])) ?_
        show tv_V c 19 X (eM c (ts_s s 0 3) r) 52 [(0, .ref (tv_ad c 0)), (1, .int p0), (2, .int p1), (3, .int p2)] [.int ((-10) - 3)]
        exact hR _ _ _ _ dX8_put_52 ⟨by first | (simp only [sp_put, sp_cut, c_2, ek_p0, c_3, mc_3, eq_true c_5, if_true, ↓reduceIte]; done) | rfl | (simp [sp_put, sp_cut, c_2, ek_p0, c_3, mc_3, eq_true c_5, if_true]; done) | (exfalso; clear hR C; simp_all; done), by first | (simp only [sp_put, sp_cut, c_2, ek_p0, c_3, mc_3, eq_true c_5, if_true, ts_ss, ts_aa, ↓reduceIte]; done) | rfl | (simp [sp_put, sp_cut, c_2, ek_p0, c_3, mc_3, eq_true c_5, if_true, ts_ss, ts_aa]; done) | (exfalso; clear hR C; simp_all; done)⟩
    · skip
      have mc_3 : s 18 j_p0 = 0 := (so_iff (hshe j_p0 (by omega))).mp c_3
      refine tv_aload_n C dX8_put_25 rfl 0 rfl ?_
      refine tv_iconst (v := 1) C dX8_put_26 (by decide) ?_
      refine tv_calli (As := [.int 1]) (rest := []) (ci := 8) (cn := RX8) (T := TX8) (Nf := 35) C 0 (kX8_fails c (ts_s s 0 0) r  1 ) gX8_put_X8_fails rfl yd_X8_fails ⟨rfl, rfl⟩ (by decide) (by decide) rfl rfl rfl rfl (Nat.le_of_ble_eq_true rfl) dX8_put_27 (fun q_9 u_9 z_9 => ?_)
      obtain ⟨rfl, rfl⟩ := z_9
      show tv_V c 19 X (eM c (ts_s (ts_s s 0 0) 0 1) r) 30 [(0, .ref (tv_ad c 0)), (1, .int p0), (2, .int p1), (3, .int p2)] [.int ((-10) - 1)]
      refine tv_eqE (E' := (eM c (ts_s s 0 1) r)) (congrArg (fun z => eM c z r) (by funext zz; rcases Classical.em (zz = 0) with hzz | h_0; (subst hzz; rfl); simp only [ts_s, ts_a, h_0, ↓reduceIte])) ?_
      show tv_V c 19 X (eM c (ts_s s 0 1) r) 30 [(0, .ref (tv_ad c 0)), (1, .int p0), (2, .int p1), (3, .int p2)] [.int ((-10) - 1)]
      exact hR _ _ _ _ dX8_put_30 ⟨by first | (simp only [sp_put, sp_cut, c_2, ek_p0, eq_true c_3, eq_true mc_3, if_true, ↓reduceIte]; done) | rfl | (simp [sp_put, sp_cut, c_2, ek_p0, eq_true c_3, eq_true mc_3, if_true]; done) | (exfalso; clear hR C; simp_all; done), by first | (simp only [sp_put, sp_cut, c_2, ek_p0, eq_true c_3, eq_true mc_3, if_true, ts_ss, ts_aa, ↓reduceIte]; done) | rfl | (simp [sp_put, sp_cut, c_2, ek_p0, eq_true c_3, eq_true mc_3, if_true, ts_ss, ts_aa]; done) | (exfalso; clear hR C; simp_all; done)⟩
  · skip
    refine tv_iconst (v := (-1)) C dX8_put_12 (by decide) ?_
    exact hR _ _ _ _ dX8_put_13 ⟨by first | (simp only [sp_put, sp_cut, eq_true c_2, if_true, ↓reduceIte]; done) | rfl | (simp [sp_put, sp_cut, eq_true c_2, if_true]; done) | (exfalso; clear hR C; simp_all; done), by first | (simp only [sp_put, sp_cut, eq_true c_2, if_true, ts_ss, ts_aa, ↓reduceIte]; done) | rfl | (simp [sp_put, sp_cut, eq_true c_2, if_true, ts_ss, ts_aa]; done) | (exfalso; clear hR C; simp_all; done)⟩
set_option maxHeartbeats 4000000 in
set_option maxRecDepth 100000 in
theorem kX8_sheet (c : tv_c) (s r : ts_T)  (p0 p1 p2 : Int32) (hI : iv s) : tv_Fi c 19 yX8_sheet wsX8_sheet { frames := 2, cells := 0, slots := 0, locals := 42 } [.ref (tv_ad c 0), .int p0, .int p1, .int p2] (eM c s r) ((sp_sheet s p0 p1 p2).1) (eM c (sp_sheet s p0 p1 p2).2 r) := by
  refine tv_metI (by decide +kernel) rfl rfl (Nat.le_of_ble_eq_true rfl) (fun X C hR => ?_)
  show tv_V c 19 X (eM c s r) 0 [(0, .ref (tv_ad c 0)), (1, .int p0), (2, .int p1), (3, .int p2)] []
  have hC := iv.hC hI
  obtain ⟨h, w, n, nk, nl, ny, nm, li, e2, e3, e9, hnw, hh, hw, hn, hz, hp, e7, hk, e8, hl, e4, hy, e5, hm, e6, hli, hcel, hkin, hban, hwei, hshe⟩ := id hI
  refine tv_aload_n C dX8_sheet_0 rfl 0 rfl ?_
  refine tv_iconst (v := 0) C dX8_sheet_1 (by decide) ?_
  refine tv_put (ci := 8) (Cn := RX8) (T := TX8) (Nf := 35) (ty := .int) (E' := (eM c (ts_s s 0 0) r)) C 0 (by decide) rfl rfl in_X8_sheet_X8 tyX8 tyX8_ok nmX8 0 (by decide) lk_X8_sheet_65 rfl (by decide +kernel) rfl rfl (Nat.le_of_ble_eq_true rfl) (eM_u_fault c s r 0) dX8_sheet_2 ?_
  refine tv_iload_n C dX8_sheet_5 rfl 1 rfl ?_
  refine tv_callis (As := [.int p0]) (rest := []) C (kX8_isSheet c (ts_s s 0 0) r  p0 ) gX8_sheet_X8_isSheet rfl yd_X8_isSheet ⟨rfl, rfl⟩ (by decide) rfl rfl (Nat.le_of_ble_eq_true rfl) dX8_sheet_6 (fun q_1 u_1 z_1 => ?_)
  obtain ⟨rfl, rfl⟩ := z_1
  show tv_V c 19 X (eM c (ts_s s 0 0) r) 9 [(0, .ref (tv_ad c 0)), (1, .int p0), (2, .int p1), (3, .int p2)] [.int (sp_in p0 0 3)]
  refine tv_if_ne C 14 dX8_sheet_9 (by decide) (fun c_2 => ?_) (fun c_2 => ?_)
  · skip
    obtain ⟨j_p0, hj_p0, ej_p0, ek_p0⟩ := in_in (b := 3) (by decide) c_2
    refine tv_iload_n C dX8_sheet_14 rfl 2 rfl ?_
    refine tv_callis (As := [.int p1]) (rest := []) C (kX8_isSort c (ts_s s 0 0) r  p1 ) gX8_sheet_X8_isSort rfl yd_X8_isSort ⟨rfl, rfl⟩ (by decide) rfl rfl (Nat.le_of_ble_eq_true rfl) dX8_sheet_15 (fun q_3 u_3 z_3 => ?_)
    obtain ⟨rfl, rfl⟩ := z_3
    show tv_V c 19 X (eM c (ts_s s 0 0) r) 18 [(0, .ref (tv_ad c 0)), (1, .int p0), (2, .int p1), (3, .int p2)] [.int (sp_in p1 0 2)]
    refine tv_if_eq C 27 dX8_sheet_18 (by decide) (fun c_4 => ?_) (fun c_4 => ?_)
    · skip
      refine tv_bipush (v := (-2)) C dX8_sheet_27 (by decide) ?_
      exact hR _ _ _ _ dX8_sheet_29 ⟨by first | (simp only [sp_sheet, c_2, ek_p0, eq_true c_4, if_true, ↓reduceIte]; done) | rfl | (simp [sp_sheet, c_2, ek_p0, eq_true c_4, if_true]; done) | (exfalso; clear hR C; simp_all; done), by first | rfl | (simp only [sp_sheet, c_2, ek_p0, eq_true c_4, ts_ss, ts_aa, ↓reduceIte]; done)⟩
    · skip
      obtain ⟨j_p1, hj_p1, ej_p1, ek_p1⟩ := in_in (b := 2) (by decide) c_4
      refine tv_iload_n C dX8_sheet_21 rfl 3 rfl ?_
      refine tv_bipush (v := 40) C dX8_sheet_22 (by decide) ?_
      refine tv_icmp_le C 30 dX8_sheet_24 (by decide) (fun c_5 => ?_) (fun c_5 => ?_)
      · skip
        refine tv_iload_n C dX8_sheet_30 rfl 3 rfl ?_
        refine tv_if_ge C 40 dX8_sheet_31 (by decide) (fun c_6 => ?_) (fun c_6 => ?_)
        · skip
          refine tv_aload_n C dX8_sheet_40 rfl 0 rfl ?_
          refine tv_get (ci := 8) (Cn := RX8) (T := TX8) (Nf := 35) (v := .ref (tv_ad c 1)) C 0 (by decide) rfl rfl in_X8_sheet_X8 2 (by decide) lk_X8_sheet_9 rfl dX8_sheet_41 ?_
          refine tv_iload_n C dX8_sheet_44 rfl 1 rfl ?_
          refine tv_iload_n C dX8_sheet_45 rfl 2 rfl ?_
          refine tv_iast (E' := (eM c (ts_a (ts_a (ts_s s 0 0) 18 (upd (s 18) j_p0 1)) 19 (upd (s 19) j_p0 p1)) r)) C 1 (by decide) rfl j_p0 ej_p0 (show j_p0 < 4 by omega) (by decide) (eM_u_sorts_put c (ts_s s 0 0) r j_p0 p1) dX8_sheet_46 ?_
          refine tv_aload_n C dX8_sheet_47 rfl 0 rfl ?_
          refine tv_get (ci := 8) (Cn := RX8) (T := TX8) (Nf := 35) (v := .ref (tv_ad c 2)) C 0 (by decide) rfl rfl in_X8_sheet_X8 3 (by decide) lk_X8_sheet_13 rfl dX8_sheet_48 ?_
          refine tv_iload_n C dX8_sheet_51 rfl 1 rfl ?_
          refine tv_iload_n C dX8_sheet_52 rfl 3 rfl ?_
          refine tv_iast (E' := (eM c (ts_a (ts_a (ts_a (ts_s s 0 0) 18 (upd (s 18) j_p0 1)) 19 (upd (s 19) j_p0 p1)) 20 (upd (s 20) j_p0 p2)) r)) C 2 (by decide) rfl j_p0 ej_p0 (show j_p0 < 4 by omega) (by decide) (eM_u_sheetLong c (ts_a (ts_a (ts_s s 0 0) 18 (upd (s 18) j_p0 1)) 19 (upd (s 19) j_p0 p1)) r (upd (s 20) j_p0 p2)) dX8_sheet_53 ?_
          refine tv_iconst (v := 0) C dX8_sheet_54 (by decide) ?_
          refine tv_istore (lv' := [(4, .int 0), (0, .ref (tv_ad c 0)), (1, .int p0), (2, .int p1), (3, .int p2)]) C dX8_sheet_55 (by decide) rfl ?_
          have hL57 : ∀ (k_57 i : Nat) (x_57_4 : Int32) (w_57 : Nat → va_E), i + k_57 = 40 → x_57_4 = (nI i) → w_57 = (eM c (ts_a (ts_a (ts_a (ts_a (ts_s s 0 0) 18 (upd (s 18) j_p0 1)) 19 (upd (s 19) j_p0 p1)) 20 (upd (s 20) j_p0 p2)) 21 (ts_z (s 21) (40 * j_p0) i)) r) → tv_V c 19 X w_57 57 [(0, .ref (tv_ad c 0)), (1, .int p0), (2, .int p1), (3, .int p2), (4, .int x_57_4)] [] := by
            intro k_57
            induction k_57 with
            | zero =>
              intro i x_57_4 w_57 hi57  ex_57_4 ew_57
              subst ex_57_4
              subst ew_57
              have hN57 : i = 40 := by omega
              refine tv_iload C dX8_sheet_57 4 rfl ?_
              refine tv_bipush (v := 40) C dX8_sheet_59 (by decide) ?_
              refine tv_icmp_ge C 83 dX8_sheet_61 (by decide) (fun c_7 => ?_) (fun c_7 => absurd (tn_le (tn_l 40) (rfl : nI i = nI i) (by omega) (by omega)) c_7)
              refine tv_iconst (v := 1) C dX8_sheet_83 (by decide) ?_
              exact hR _ _ _ _ dX8_sheet_84 ⟨by first | (simp only [sp_sheet, c_2, ek_p0, c_4, ek_p1, c_5, tn_d_le c_5, c_6, tn_d_le c_6, c_7, if_true, ↓reduceIte]; done) | rfl | (simp [sp_sheet, c_2, ek_p0, c_4, ek_p1, c_5, tn_d_le c_5, c_6, tn_d_le c_6, c_7, if_true]; done) | (exfalso; clear hR C; simp_all; done), by (have e40 := hN57; subst e40; simp only [sp_sheet, c_2, ek_p0, c_4, ek_p1, c_5, tn_d_le c_5, c_6, tn_d_le c_6, c_7, ↓reduceIte]; rfl)⟩
            | succ k_57 ih57 =>
              intro i x_57_4 w_57 hi57  ex_57_4 ew_57
              subst ex_57_4
              subst ew_57
              have hN57 : i < 40 := by omega
              refine tv_iload C dX8_sheet_57 4 rfl ?_
              refine tv_bipush (v := 40) C dX8_sheet_59 (by decide) ?_
              refine tv_icmp_ge C 83 dX8_sheet_61 (by decide) (fun c_8 => absurd c_8 (tn_nle (tn_l 40) (rfl : nI i = nI i) (by omega) (by omega))) (fun c_8 => ?_)
              refine tv_aload_n C dX8_sheet_64 rfl 0 rfl ?_
              refine tv_get (ci := 8) (Cn := RX8) (T := TX8) (Nf := 35) (v := .ref (tv_ad c 3)) C 0 (by decide) rfl rfl in_X8_sheet_X8 4 (by decide) lk_X8_sheet_16 rfl dX8_sheet_65 ?_
              refine tv_bipush (v := 40) C dX8_sheet_68 (by decide) ?_
              refine tv_iload_n C dX8_sheet_70 rfl 1 rfl ?_
              refine tv_imul C dX8_sheet_71 ?_
              refine tv_iload C dX8_sheet_72 4 rfl ?_
              refine tv_iadd C dX8_sheet_74 ?_
              refine tv_iconst (v := 0) C dX8_sheet_75 (by decide) ?_
              refine tv_iast (E' := (eM c (ts_a (ts_a (ts_a (ts_a (ts_s s 0 0) 18 (upd (s 18) j_p0 1)) 19 (upd (s 19) j_p0 p1)) 20 (upd (s 20) j_p0 p2)) 21 (upd (ts_z (s 21) (40 * j_p0) i) ((40 * j_p0) + i) 0)) r)) C 3 (by decide) rfl ((40 * j_p0) + i) (tn_add (tn_mul (tn_l 40) ej_p0) (rfl : nI i = nI i)) (show ((40 * j_p0) + i) < 160 by omega) (by decide) ((eM_u_cells c (ts_a (ts_a (ts_a (ts_a (ts_s s 0 0) 18 (upd (s 18) j_p0 1)) 19 (upd (s 19) j_p0 p1)) 20 (upd (s 20) j_p0 p2)) 21 (ts_z (s 21) (40 * j_p0) i)) r (upd (ts_z (s 21) (40 * j_p0) i) ((40 * j_p0) + i) 0)).trans (by first | (rw [ts_mg]; done) | (rw [ts_mg]; rfl) | (rw [ts_ss]; done) | (rw [ts_ss]; rfl))) dX8_sheet_76 ?_
              refine tv_iinc (v := ((nI i) + 1)) (lv' := [(4, .int ((nI i) + 1)), (0, .ref (tv_ad c 0)), (1, .int p0), (2, .int p1), (3, .int p2)]) C dX8_sheet_77 4 rfl rfl (by decide) rfl ?_
              refine tv_goto C 57 dX8_sheet_80 (by decide) ?_
              refine tv_lsub [1, 2, 3, 4, 0] rfl ?_
              exact ih57 (i + 1) _ _ (by omega)  (by first | rfl | exact nI_1 _ | (simp only [sp_sheet, c_2, ek_p0, c_4, ek_p1, c_5, tn_d_le c_5, c_6, tn_d_le c_6, c_8, if_true, ↓reduceIte]; done) | (simp [sp_sheet, c_2, ek_p0, c_4, ek_p1, c_5, tn_d_le c_5, c_6, tn_d_le c_6, c_8, if_true]; done) | (exfalso; clear hR C; simp_all; done)) (by rw [← ts_z_s])
          refine tv_lsub [1, 2, 3, 4, 0] rfl ?_
          exact hL57 (40 - 0) 0 _ _ (by omega)  (by first | (simp only [sp_sheet, c_2, ek_p0, c_4, ek_p1, c_5, tn_d_le c_5, c_6, tn_d_le c_6, if_true, ↓reduceIte]; done) | rfl | (simp [sp_sheet, c_2, ek_p0, c_4, ek_p1, c_5, tn_d_le c_5, c_6, tn_d_le c_6, if_true]; done) | (exfalso; clear hR C; simp_all; done)) (by rw [ts_z_0]; exact eM_same21 c _ r)
        · skip
          refine tv_aload_n C dX8_sheet_34 rfl 0 rfl ?_
          refine tv_iconst (v := 4) C dX8_sheet_35 (by decide) ?_
          refine tv_calli (As := [.int 4]) (rest := []) (ci := 8) (cn := RX8) (T := TX8) (Nf := 35) C 0 (kX8_fails c (ts_s s 0 0) r  4 ) gX8_sheet_X8_fails rfl yd_X8_fails ⟨rfl, rfl⟩ (by decide) (by decide) rfl rfl rfl rfl (Nat.le_of_ble_eq_true rfl) dX8_sheet_36 (fun q_9 u_9 z_9 => ?_)
          obtain ⟨rfl, rfl⟩ := z_9
          show tv_V c 19 X (eM c (ts_s (ts_s s 0 0) 0 4) r) 39 [(0, .ref (tv_ad c 0)), (1, .int p0), (2, .int p1), (3, .int p2)] [.int ((-10) - 4)]
          refine tv_eqE (E' := (eM c (ts_s s 0 4) r)) (congrArg (fun z => eM c z r) (by funext zz; rcases Classical.em (zz = 0) with hzz | h_0; (subst hzz; rfl); simp only [ts_s, ts_a, h_0, ↓reduceIte])) ?_
          show tv_V c 19 X (eM c (ts_s s 0 4) r) 39 [(0, .ref (tv_ad c 0)), (1, .int p0), (2, .int p1), (3, .int p2)] [.int ((-10) - 4)]
          exact hR _ _ _ _ dX8_sheet_39 ⟨by first | (simp only [sp_sheet, c_2, ek_p0, c_4, ek_p1, c_5, tn_d_le c_5, c_6, tn_d_nle c_6, if_true, ↓reduceIte]; done) | rfl | (simp [sp_sheet, c_2, ek_p0, c_4, ek_p1, c_5, tn_d_le c_5, c_6, tn_d_nle c_6, if_true]; done) | (exfalso; clear hR C; simp_all; done), by first | rfl | (simp only [sp_sheet, c_2, ek_p0, c_4, ek_p1, c_5, tn_d_le c_5, c_6, tn_d_nle c_6, ts_ss, ts_aa, ↓reduceIte]; done)⟩
      · skip
        refine tv_bipush (v := (-2)) C dX8_sheet_27 (by decide) ?_
        exact hR _ _ _ _ dX8_sheet_29 ⟨by first | (simp only [sp_sheet, c_2, ek_p0, c_4, ek_p1, c_5, tn_d_nle c_5, if_true, ↓reduceIte]; done) | rfl | (simp [sp_sheet, c_2, ek_p0, c_4, ek_p1, c_5, tn_d_nle c_5, if_true]; done) | (exfalso; clear hR C; simp_all; done), by first | rfl | (simp only [sp_sheet, c_2, ek_p0, c_4, ek_p1, c_5, tn_d_nle c_5, ts_ss, ts_aa, ↓reduceIte]; done)⟩
  · skip
    refine tv_iconst (v := (-1)) C dX8_sheet_12 (by decide) ?_
    exact hR _ _ _ _ dX8_sheet_13 ⟨by first | (simp only [sp_sheet, eq_true c_2, if_true, ↓reduceIte]; done) | rfl | (simp [sp_sheet, eq_true c_2, if_true]; done) | (exfalso; clear hR C; simp_all; done), by first | rfl | (simp only [sp_sheet, eq_true c_2, ts_ss, ts_aa, ↓reduceIte]; done)⟩
