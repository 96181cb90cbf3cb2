set_option maxRecDepth 20000 in
theorem in_X3_pour_X3 : ∀ w ∈ u_ws RX3 TX3 7, w ∈ wsX3_pour := by decide +kernel
set_option maxRecDepth 20000 in
theorem lk_X3_pour_9 : Cond.fieldLink RX3 9 (TX3 1).1 (TX3 1).2.1 (TX3 1).2.2.1 ∈ wsX3_pour := by decide +kernel
set_option maxRecDepth 20000 in
theorem wd_X3_isMix_ini7 : Cond.initialized yX7_isWithin.cls ∈ wsX3_isMix := by decide +kernel
set_option maxRecDepth 20000 in
theorem wd_X3_isMix_sta7 : Cond.static yX7_isWithin ∈ wsX3_isMix := by decide +kernel
set_option maxRecDepth 20000 in
theorem in_X3_isMix_X3 : ∀ w ∈ u_ws RX3 TX3 7, w ∈ wsX3_isMix := by decide +kernel
set_option maxRecDepth 20000 in
theorem lk_X3_isMix_9 : Cond.fieldLink RX3 9 (TX3 1).1 (TX3 1).2.1 (TX3 1).2.2.1 ∈ wsX3_isMix := by decide +kernel
set_option maxRecDepth 20000 in
theorem lk_X3_isMix_28 : Cond.fieldLink RX3 28 (TX3 0).1 (TX3 0).2.1 (TX3 0).2.2.1 ∈ wsX3_isMix := by decide +kernel
set_option maxRecDepth 20000 in
theorem in_X3_sumOfDrops_X3 : ∀ w ∈ u_ws RX3 TX3 7, w ∈ wsX3_sumOfDrops := by decide +kernel
set_option maxRecDepth 20000 in
theorem lk_X3_sumOfDrops_9 : Cond.fieldLink RX3 9 (TX3 1).1 (TX3 1).2.1 (TX3 1).2.2.1 ∈ wsX3_sumOfDrops := by decide +kernel
set_option maxRecDepth 20000 in
theorem in_X3_leastInIt_X3 : ∀ w ∈ u_ws RX3 TX3 7, w ∈ wsX3_leastInIt := by decide +kernel
set_option maxRecDepth 20000 in
theorem lk_X3_leastInIt_9 : Cond.fieldLink RX3 9 (TX3 1).1 (TX3 1).2.1 (TX3 1).2.2.1 ∈ wsX3_leastInIt := by decide +kernel
theorem yd_X3_sumOfDrops : yX3_sumOfDrops.cls = RX3 ∧ yX3_sumOfDrops.cls ≠ "java/lang/invoke/MethodHandle" ∧ yX3_sumOfDrops.cls ≠ "java/lang/invoke/VarHandle" ∧ (parseMethodDescriptor yX3_sumOfDrops.desc).map (fun d => d.parameters.length) = some 0 := by decide +kernel
set_option maxRecDepth 20000 in
theorem wd_X3_stir_m46 : Cond.methodLink RX3 46 Lib.Math.max.name ∈ wsX3_stir := by decide +kernel
set_option maxRecDepth 20000 in
theorem wd_X3_stir_stmax : Cond.static Lib.Math.max.name ∈ wsX3_stir := by decide +kernel
set_option maxRecDepth 20000 in
theorem wd_X3_stir_inim : Cond.initialized "java/lang/Math" ∈ wsX3_stir := by decide +kernel
set_option maxRecDepth 20000 in
theorem wd_X3_stir_cdmax : Cond.code Lib.Math.max.name Lib.Math.max.code 2 (some .int) ∈ wsX3_stir := by decide +kernel
set_option maxRecDepth 20000 in
theorem in_X3_stir_X3 : ∀ w ∈ u_ws RX3 TX3 7, w ∈ wsX3_stir := by decide +kernel
set_option maxRecDepth 20000 in
theorem lk_X3_stir_9 : Cond.fieldLink RX3 9 (TX3 1).1 (TX3 1).2.1 (TX3 1).2.2.1 ∈ wsX3_stir := by decide +kernel
set_option maxRecDepth 20000 in
theorem lk_X3_stir_28 : Cond.fieldLink RX3 28 (TX3 0).1 (TX3 0).2.1 (TX3 0).2.2.1 ∈ wsX3_stir := by decide +kernel
set_option maxRecDepth 20000 in
theorem in_X3_stir_X6 : ∀ w ∈ u_ws RX6 TX6 11, w ∈ wsX3_stir := by decide +kernel
set_option maxRecDepth 20000 in
theorem lk_X3_stir_52 : Cond.fieldLink RX3 52 (TX6 1).1 (TX6 1).2.1 (TX6 1).2.2.1 ∈ wsX3_stir := by decide +kernel
set_option maxRecDepth 20000 in
theorem in_X3_stir_X1 : ∀ w ∈ u_ws RX1 TX1 2, w ∈ wsX3_stir := by decide +kernel
set_option maxRecDepth 20000 in
theorem lk_X3_stir_56 : Cond.fieldLink RX3 56 (TX1 0).1 (TX1 0).2.1 (TX1 0).2.2.1 ∈ wsX3_stir := by decide +kernel
set_option maxRecDepth 20000 in
theorem lk_X3_stir_18 : Cond.fieldLink RX3 18 (TX3 2).1 (TX3 2).2.1 (TX3 2).2.2.1 ∈ wsX3_stir := by decide +kernel
theorem yd_X3_leastInIt : yX3_leastInIt.cls = RX3 ∧ yX3_leastInIt.cls ≠ "java/lang/invoke/MethodHandle" ∧ yX3_leastInIt.cls ≠ "java/lang/invoke/VarHandle" ∧ (parseMethodDescriptor yX3_leastInIt.desc).map (fun d => d.parameters.length) = some 0 := by decide +kernel
set_option maxRecDepth 20000 in
theorem lk_X3_stir_62 : Cond.fieldLink RX3 62 (TX1 1).1 (TX1 1).2.1 (TX1 1).2.2.1 ∈ wsX3_stir := by decide +kernel
set_option maxRecDepth 20000 in
theorem in_X3_farthestApart_X3 : ∀ w ∈ u_ws RX3 TX3 7, w ∈ wsX3_farthestApart := by decide +kernel
set_option maxRecDepth 20000 in
theorem lk_X3_farthestApart_28 : Cond.fieldLink RX3 28 (TX3 0).1 (TX3 0).2.1 (TX3 0).2.2.1 ∈ wsX3_farthestApart := by decide +kernel
set_option maxRecDepth 20000 in
theorem lk_X3_farthestApart_18 : Cond.fieldLink RX3 18 (TX3 2).1 (TX3 2).2.1 (TX3 2).2.2.1 ∈ wsX3_farthestApart := by decide +kernel
set_option maxRecDepth 20000 in
theorem lk_X3_farthestApart_22 : Cond.fieldLink RX3 22 (TX3 3).1 (TX3 3).2.1 (TX3 3).2.2.1 ∈ wsX3_farthestApart := by decide +kernel
set_option maxRecDepth 20000 in
theorem wd_X3_farthestApart_m110 : Cond.methodLink RX3 110 Lib.Math.abs.name ∈ wsX3_farthestApart := by decide +kernel
set_option maxRecDepth 20000 in
theorem wd_X3_farthestApart_stabs : Cond.static Lib.Math.abs.name ∈ wsX3_farthestApart := by decide +kernel
set_option maxRecDepth 20000 in
theorem wd_X3_farthestApart_inim : Cond.initialized "java/lang/Math" ∈ wsX3_farthestApart := by decide +kernel
set_option maxRecDepth 20000 in
theorem wd_X3_farthestApart_cdabs : Cond.code Lib.Math.abs.name Lib.Math.abs.code 1 (some .int) ∈ wsX3_farthestApart := by decide +kernel
set_option maxRecDepth 20000 in
theorem wd_X3_farthestApart_m46 : Cond.methodLink RX3 46 Lib.Math.max.name ∈ wsX3_farthestApart := by decide +kernel
set_option maxRecDepth 20000 in
theorem wd_X3_farthestApart_stmax : Cond.static Lib.Math.max.name ∈ wsX3_farthestApart := by decide +kernel
set_option maxRecDepth 20000 in
theorem wd_X3_farthestApart_cdmax : Cond.code Lib.Math.max.name Lib.Math.max.code 2 (some .int) ∈ wsX3_farthestApart := by decide +kernel
set_option maxHeartbeats 4000000 in
set_option maxRecDepth 100000 in
theorem kX3_pour (c : tv_c) (s r : ts_T)  (p0 p1 p2 p3 : Int32)  : tv_Fv c 60 yX3_pour wsX3_pour { frames := 0, cells := 0, slots := 0, locals := 0 } [.ref (tv_ad c 9), .int p0, .int p1, .int p2, .int p3] (eX c s r) (eX c s (ts_a r 2 (sp_d4 (r 2) p0 p1 p2 p3))) := by
  refine tv_metV (by decide +kernel) rfl rfl (Nat.le_of_ble_eq_true rfl) (fun X C hR => ?_)
  show tv_V c 60 X (eX c s r) 0 [(0, .ref (tv_ad c 9)), (1, .int p0), (2, .int p1), (3, .int p2), (4, .int p3)] []
  refine tv_aload_n C dX3_pour_0 rfl 0 rfl ?_
  refine tv_get (ci := 3) (Cn := RX3) (T := TX3) (Nf := 7) (v := .ref (tv_ad c 10)) C 9 (by decide) rfl rfl in_X3_pour_X3 1 (by decide) lk_X3_pour_9 rfl dX3_pour_1 ?_
  refine tv_iconst (v := 0) C dX3_pour_4 (by decide) ?_
  refine tv_iload_n C dX3_pour_5 rfl 1 rfl ?_
  refine tv_iast (E' := (eX c s (ts_a r 2 (upd (r 2) 0 p0)))) C 10 (by decide) rfl 0 (tn_l 0) (show 0 < 4 by omega) (by decide) (eX_u_drops c s r (upd (r 2) 0 p0)) dX3_pour_6 ?_
  refine tv_aload_n C dX3_pour_7 rfl 0 rfl ?_
  refine tv_get (ci := 3) (Cn := RX3) (T := TX3) (Nf := 7) (v := .ref (tv_ad c 10)) C 9 (by decide) rfl rfl in_X3_pour_X3 1 (by decide) lk_X3_pour_9 rfl dX3_pour_8 ?_
  refine tv_iconst (v := 1) C dX3_pour_11 (by decide) ?_
  refine tv_iload_n C dX3_pour_12 rfl 2 rfl ?_
  refine tv_iast (E' := (eX c s (ts_a r 2 (upd (upd (r 2) 0 p0) 1 p1)))) C 10 (by decide) rfl 1 (tn_l 1) (show 1 < 4 by omega) (by decide) ((eX_u_drops c s (ts_a r 2 (upd (r 2) 0 p0)) (upd (upd (r 2) 0 p0) 1 p1)).trans (by first | (rw [ts_mg]; done) | (rw [ts_mg]; rfl) | (rw [ts_ss]; done) | (rw [ts_ss]; rfl))) dX3_pour_13 ?_
  refine tv_aload_n C dX3_pour_14 rfl 0 rfl ?_
  refine tv_get (ci := 3) (Cn := RX3) (T := TX3) (Nf := 7) (v := .ref (tv_ad c 10)) C 9 (by decide) rfl rfl in_X3_pour_X3 1 (by decide) lk_X3_pour_9 rfl dX3_pour_15 ?_
  refine tv_iconst (v := 2) C dX3_pour_18 (by decide) ?_
  refine tv_iload_n C dX3_pour_19 rfl 3 rfl ?_
  refine tv_iast (E' := (eX c s (ts_a r 2 (upd (upd (upd (r 2) 0 p0) 1 p1) 2 p2)))) C 10 (by decide) rfl 2 (tn_l 2) (show 2 < 4 by omega) (by decide) ((eX_u_drops c s (ts_a r 2 (upd (upd (r 2) 0 p0) 1 p1)) (upd (upd (upd (r 2) 0 p0) 1 p1) 2 p2)).trans (by first | (rw [ts_mg]; done) | (rw [ts_mg]; rfl) | (rw [ts_ss]; done) | (rw [ts_ss]; rfl))) dX3_pour_20 ?_
  refine tv_aload_n C dX3_pour_21 rfl 0 rfl ?_
  refine tv_get (ci := 3) (Cn := RX3) (T := TX3) (Nf := 7) (v := .ref (tv_ad c 10)) C 9 (by decide) rfl rfl in_X3_pour_X3 1 (by decide) lk_X3_pour_9 rfl dX3_pour_22 ?_
  refine tv_iconst (v := 3) C dX3_pour_25 (by decide) ?_
  refine tv_iload C dX3_pour_26 4 rfl ?_
  refine tv_iast (E' := (eX c s (ts_a r 2 (upd (upd (upd (upd (r 2) 0 p0) 1 p1) 2 p2) 3 p3)))) C 10 (by decide) rfl 3 (tn_l 3) (show 3 < 4 by omega) (by decide) ((eX_u_drops c s (ts_a r 2 (upd (upd (upd (r 2) 0 p0) 1 p1) 2 p2)) (upd (upd (upd (upd (r 2) 0 p0) 1 p1) 2 p2) 3 p3)).trans (by first | (rw [ts_mg]; done) | (rw [ts_mg]; rfl) | (rw [ts_ss]; done) | (rw [ts_ss]; rfl))) dX3_pour_28 ?_
  exact hR _ _ _ dX3_pour_29 (by rfl)
set_option maxHeartbeats 4000000 in
set_option maxRecDepth 100000 in
theorem kX3_isMix (c : tv_c) (s r : ts_T)   : tv_Fi c 60 yX3_isMix wsX3_isMix { frames := 1, cells := 0, slots := 0, locals := 22 } [.ref (tv_ad c 9)] (eX c s r) (sp_ad s (r 2)) (eX c s r) := by
  refine tv_metZ (by decide +kernel) rfl rfl (Nat.le_of_ble_eq_true rfl) (fun X C hR => ?_)
  show tv_V c 60 X (eX c s r) 0 [(0, .ref (tv_ad c 9))] []
  refine tv_iconst (v := 0) C dX3_isMix_0 (by decide) ?_
  refine tv_istore_n (lv' := [(1, .int 0), (0, .ref (tv_ad c 9))]) C dX3_isMix_1 rfl (by decide) rfl ?_
  refine tv_iconst (v := 0) C dX3_isMix_2 (by decide) ?_
  refine tv_istore_n (lv' := [(2, .int 0), (1, .int 0), (0, .ref (tv_ad c 9))]) C dX3_isMix_3 rfl (by decide) rfl ?_
  have hL4 : ∀ (k_4 i : Nat) (x_4_1 : Int32) (x_4_2 : Int32), i + k_4 = 4 → (sp_dok s (r 2) i = true) → x_4_1 = (sp_sd (r 2) i) → x_4_2 = (nI i) → tv_V c 60 X (eX c s r) 4 [(0, .ref (tv_ad c 9)), (1, .int x_4_1), (2, .int x_4_2)] [] := by
    intro k_4
    induction k_4 with
    | zero =>
      intro i x_4_1 x_4_2 hi4 q0 ex_4_1 ex_4_2
      subst ex_4_1
      subst ex_4_2
      have hN4 : i = 4 := by omega
      refine tv_iload_n C dX3_isMix_4 rfl 2 rfl ?_
      refine tv_iconst (v := 4) C dX3_isMix_5 (by decide) ?_
      refine tv_icmp_ge C 61 dX3_isMix_6 (by decide) (fun c_1 => ?_) (fun c_1 => absurd (tn_le (tn_l 4) (rfl : nI i = nI i) (by omega) (by omega)) c_1)
      refine tv_iload_n C dX3_isMix_61 rfl 1 rfl ?_
      refine tv_iconst (v := 1) C dX3_isMix_62 (by decide) ?_
      refine tv_bipush (v := 12) C dX3_isMix_63 (by decide) ?_
      refine tv_callisN (As := [.int (sp_sd (r 2) i), .int 1, .int 12]) (rest := []) (host := RX7) C (kX7_isWithin c s r  (sp_sd (r 2) i) 1 12 ) ggX3_isMix_X7_isWithin rfl (fun q => q.1) wd_X3_isMix_ini7 wd_X3_isMix_sta7 yd_X7_isWithin.2 ⟨rfl, rfl⟩ (by decide) rfl rfl (Nat.le_of_ble_eq_true rfl) dX3_isMix_65 (fun q_2 u_2 z_2 => ?_)
      obtain ⟨rfl, rfl⟩ := z_2
      exact hR _ _ _ _ dX3_isMix_68 (by first | rfl | exact tn_nz (sp_in_z _ _ _) | exact tn_nz (sp_ix_z _ _)) ⟨by subst hN4; rw [sp_ad, q0]; rfl, by first | (simp only [q0, c_1, if_true, ts_ss, ts_aa, ↓reduceIte]; done) | rfl | (simp [q0, c_1, if_true, ts_ss, ts_aa]; done) | (exfalso; clear hR C; simp_all; done)⟩
    | succ k_4 ih4 =>
      intro i x_4_1 x_4_2 hi4 q0 ex_4_1 ex_4_2
      subst ex_4_1
      subst ex_4_2
      have hN4 : i < 4 := by omega
      refine tv_iload_n C dX3_isMix_4 rfl 2 rfl ?_
      refine tv_iconst (v := 4) C dX3_isMix_5 (by decide) ?_
      refine tv_icmp_ge C 61 dX3_isMix_6 (by decide) (fun c_3 => absurd c_3 (tn_nle (tn_l 4) (rfl : nI i = nI i) (by omega) (by omega))) (fun c_3 => ?_)
      refine tv_aload_n C dX3_isMix_9 rfl 0 rfl ?_
      refine tv_get (ci := 3) (Cn := RX3) (T := TX3) (Nf := 7) (v := .ref (tv_ad c 10)) C 9 (by decide) rfl rfl in_X3_isMix_X3 1 (by decide) lk_X3_isMix_9 rfl dX3_isMix_10 ?_
      refine tv_iload_n C dX3_isMix_13 rfl 2 rfl ?_
      refine tv_iald (f := (r 2)) (v := (r 2 i)) C 10 (by decide) rfl i (rfl : nI i = nI i) (show i < 4 by omega) (by decide) rfl dX3_isMix_14 ?_
      refine tv_iconst (v := 0) C dX3_isMix_15 (by decide) ?_
      refine tv_bipush (v := 9) C dX3_isMix_16 (by decide) ?_
      refine tv_callisN (As := [.int (r 2 i), .int 0, .int 9]) (rest := []) (host := RX7) C (kX7_isWithin c s r  (r 2 i) 0 9 ) ggX3_isMix_X7_isWithin rfl (fun q => q.1) wd_X3_isMix_ini7 wd_X3_isMix_sta7 yd_X7_isWithin.2 ⟨rfl, rfl⟩ (by decide) rfl rfl (Nat.le_of_ble_eq_true rfl) dX3_isMix_18 (fun q_4 u_4 z_4 => ?_)
      obtain ⟨rfl, rfl⟩ := z_4
      refine tv_if_eq C 44 dX3_isMix_21 (by decide) (fun c_5 => ?_) (fun c_5 => ?_)
      · skip
        refine tv_iconst (v := 0) C dX3_isMix_44 (by decide) ?_
        exact hR _ _ _ _ dX3_isMix_45 (by first | rfl | exact tn_nz (sp_in_z _ _ _) | exact tn_nz (sp_ix_z _ _)) ⟨by rw [sp_ad, sp_dok_f hN4 (by simp only [sp_dg, q0, c_3, eq_true c_5, ↓reduceIte])]; rfl, by first | (simp only [q0, c_3, eq_true c_5, if_true, ts_ss, ts_aa, ↓reduceIte]; done) | rfl | (simp [q0, c_3, eq_true c_5, if_true, ts_ss, ts_aa]; done) | (exfalso; clear hR C; simp_all; done)⟩
      · skip
        refine tv_aload_n C dX3_isMix_24 rfl 0 rfl ?_
        refine tv_get (ci := 3) (Cn := RX3) (T := TX3) (Nf := 7) (v := .ref (tv_ad c 10)) C 9 (by decide) rfl rfl in_X3_isMix_X3 1 (by decide) lk_X3_isMix_9 rfl dX3_isMix_25 ?_
        refine tv_iload_n C dX3_isMix_28 rfl 2 rfl ?_
        refine tv_iald (f := (r 2)) (v := (r 2 i)) C 10 (by decide) rfl i (rfl : nI i = nI i) (show i < 4 by omega) (by decide) rfl dX3_isMix_29 ?_
        refine tv_if_le C 46 dX3_isMix_30 (by decide) (fun c_6 => ?_) (fun c_6 => ?_)
        · skip
          refine tv_iload_n C dX3_isMix_46 rfl 1 rfl ?_
          refine tv_aload_n C dX3_isMix_47 rfl 0 rfl ?_
          refine tv_get (ci := 3) (Cn := RX3) (T := TX3) (Nf := 7) (v := .ref (tv_ad c 10)) C 9 (by decide) rfl rfl in_X3_isMix_X3 1 (by decide) lk_X3_isMix_9 rfl dX3_isMix_48 ?_
          refine tv_iload_n C dX3_isMix_51 rfl 2 rfl ?_
          refine tv_iald (f := (r 2)) (v := (r 2 i)) C 10 (by decide) rfl i (rfl : nI i = nI i) (show i < 4 by omega) (by decide) rfl dX3_isMix_52 ?_
          refine tv_iadd C dX3_isMix_53 ?_
          refine tv_istore_n (lv' := [(1, .int ((sp_sd (r 2) i) + (r 2 i))), (0, .ref (tv_ad c 9)), (2, .int (nI i))]) C dX3_isMix_54 rfl (by decide) rfl ?_
          refine tv_iinc (v := ((nI i) + 1)) (lv' := [(2, .int ((nI i) + 1)), (1, .int ((sp_sd (r 2) i) + (r 2 i))), (0, .ref (tv_ad c 9))]) C dX3_isMix_55 2 rfl rfl (by decide) rfl ?_
          refine tv_goto C 4 dX3_isMix_58 (by decide) ?_
          refine tv_lsub [2, 1, 0] rfl ?_
          exact ih4 (i + 1) _ _ (by omega) (by exact sp_dok_s q0 (by simp only [sp_dg, q0, c_3, c_5, c_6, tn_d_le c_6, ↓reduceIte])) (by rfl) (by first | rfl | exact nI_1 _ | (simp only [q0, c_3, c_5, c_6, tn_d_le c_6, if_true, ↓reduceIte]; done) | (simp [q0, c_3, c_5, c_6, tn_d_le c_6, if_true]; done) | (exfalso; clear hR C; simp_all; done))
        · skip
          refine tv_aload_n C dX3_isMix_33 rfl 0 rfl ?_
          refine tv_get (ci := 3) (Cn := RX3) (T := TX3) (Nf := 7) (v := .ref (tv_ad c 2)) C 9 (by decide) rfl rfl in_X3_isMix_X3 0 (by decide) lk_X3_isMix_28 rfl dX3_isMix_34 ?_
          refine tv_iload_n C dX3_isMix_37 rfl 2 rfl ?_
          refine tv_calli (As := [.int (nI i)]) (rest := []) (ci := 6) (cn := RX6) (T := TX6) (Nf := 11) C 2 (kX6_hasCoat c s r  (nI i) ) gX3_isMix_X6_hasCoat rfl yd_X6_hasCoat ⟨rfl, rfl⟩ (by decide) (by decide) rfl rfl rfl rfl (Nat.le_of_ble_eq_true rfl) dX3_isMix_38 (fun q_7 u_7 z_7 => ?_)
          obtain ⟨rfl, rfl⟩ := z_7
          refine tv_if_ne C 46 dX3_isMix_41 (by decide) (fun c_8 => ?_) (fun c_8 => ?_)
          · skip
            refine tv_iload_n C dX3_isMix_46 rfl 1 rfl ?_
            refine tv_aload_n C dX3_isMix_47 rfl 0 rfl ?_
            refine tv_get (ci := 3) (Cn := RX3) (T := TX3) (Nf := 7) (v := .ref (tv_ad c 10)) C 9 (by decide) rfl rfl in_X3_isMix_X3 1 (by decide) lk_X3_isMix_9 rfl dX3_isMix_48 ?_
            refine tv_iload_n C dX3_isMix_51 rfl 2 rfl ?_
            refine tv_iald (f := (r 2)) (v := (r 2 i)) C 10 (by decide) rfl i (rfl : nI i = nI i) (show i < 4 by omega) (by decide) rfl dX3_isMix_52 ?_
            refine tv_iadd C dX3_isMix_53 ?_
            refine tv_istore_n (lv' := [(1, .int ((sp_sd (r 2) i) + (r 2 i))), (0, .ref (tv_ad c 9)), (2, .int (nI i))]) C dX3_isMix_54 rfl (by decide) rfl ?_
            refine tv_iinc (v := ((nI i) + 1)) (lv' := [(2, .int ((nI i) + 1)), (1, .int ((sp_sd (r 2) i) + (r 2 i))), (0, .ref (tv_ad c 9))]) C dX3_isMix_55 2 rfl rfl (by decide) rfl ?_
            refine tv_goto C 4 dX3_isMix_58 (by decide) ?_
            refine tv_lsub [2, 1, 0] rfl ?_
            exact ih4 (i + 1) _ _ (by omega) (by exact sp_dok_s q0 (by simp only [sp_dg, q0, c_3, c_5, c_6, tn_d_nle c_6, c_8, ↓reduceIte])) (by rfl) (by first | rfl | exact nI_1 _ | (simp only [q0, c_3, c_5, c_6, tn_d_nle c_6, c_8, if_true, ↓reduceIte]; done) | (simp [q0, c_3, c_5, c_6, tn_d_nle c_6, c_8, if_true]; done) | (exfalso; clear hR C; simp_all; done))
          · skip
            refine tv_iconst (v := 0) C dX3_isMix_44 (by decide) ?_
            exact hR _ _ _ _ dX3_isMix_45 (by first | rfl | exact tn_nz (sp_in_z _ _ _) | exact tn_nz (sp_ix_z _ _)) ⟨by rw [sp_ad, sp_dok_f hN4 (by simp only [sp_dg, q0, c_3, c_5, c_6, tn_d_nle c_6, eq_true c_8, ↓reduceIte])]; rfl, by first | (simp only [q0, c_3, c_5, c_6, tn_d_nle c_6, eq_true c_8, if_true, ts_ss, ts_aa, ↓reduceIte]; done) | rfl | (simp [q0, c_3, c_5, c_6, tn_d_nle c_6, eq_true c_8, if_true, ts_ss, ts_aa]; done) | (exfalso; clear hR C; simp_all; done)⟩
  refine tv_lsub [2, 1, 0] rfl ?_
  exact hL4 (4 - 0) 0 _ _ (by omega) (by rfl) (by first | (simp only [if_true, ↓reduceIte]; done) | rfl | (simp [if_true]; done) | (exfalso; clear hR C; simp_all; done)) (by first | (simp only [if_true, ↓reduceIte]; done) | rfl | (simp [if_true]; done) | (exfalso; clear hR C; simp_all; done))
set_option maxHeartbeats 4000000 in
set_option maxRecDepth 100000 in
theorem kX3_sumOfDrops (c : tv_c) (s r : ts_T)   : tv_Fi c 60 yX3_sumOfDrops wsX3_sumOfDrops { frames := 0, cells := 0, slots := 0, locals := 0 } [.ref (tv_ad c 9)] (eX c s r) (sp_sd (r 2) 4) (eX c s r) := by
  refine tv_metI (by decide +kernel) rfl rfl (Nat.le_of_ble_eq_true rfl) (fun X C hR => ?_)
  show tv_V c 60 X (eX c s r) 0 [(0, .ref (tv_ad c 9))] []
  refine tv_aload_n C dX3_sumOfDrops_0 rfl 0 rfl ?_
  refine tv_get (ci := 3) (Cn := RX3) (T := TX3) (Nf := 7) (v := .ref (tv_ad c 10)) C 9 (by decide) rfl rfl in_X3_sumOfDrops_X3 1 (by decide) lk_X3_sumOfDrops_9 rfl dX3_sumOfDrops_1 ?_
  refine tv_iconst (v := 0) C dX3_sumOfDrops_4 (by decide) ?_
  refine tv_iald (f := (r 2)) (v := (r 2 0)) C 10 (by decide) rfl 0 (tn_l 0) (show 0 < 4 by omega) (by decide) rfl dX3_sumOfDrops_5 ?_
  refine tv_aload_n C dX3_sumOfDrops_6 rfl 0 rfl ?_
  refine tv_get (ci := 3) (Cn := RX3) (T := TX3) (Nf := 7) (v := .ref (tv_ad c 10)) C 9 (by decide) rfl rfl in_X3_sumOfDrops_X3 1 (by decide) lk_X3_sumOfDrops_9 rfl dX3_sumOfDrops_7 ?_
  refine tv_iconst (v := 1) C dX3_sumOfDrops_10 (by decide) ?_
  refine tv_iald (f := (r 2)) (v := (r 2 1)) C 10 (by decide) rfl 1 (tn_l 1) (show 1 < 4 by omega) (by decide) rfl dX3_sumOfDrops_11 ?_
  refine tv_iadd C dX3_sumOfDrops_12 ?_
  refine tv_aload_n C dX3_sumOfDrops_13 rfl 0 rfl ?_
  refine tv_get (ci := 3) (Cn := RX3) (T := TX3) (Nf := 7) (v := .ref (tv_ad c 10)) C 9 (by decide) rfl rfl in_X3_sumOfDrops_X3 1 (by decide) lk_X3_sumOfDrops_9 rfl dX3_sumOfDrops_14 ?_
  refine tv_iconst (v := 2) C dX3_sumOfDrops_17 (by decide) ?_
  refine tv_iald (f := (r 2)) (v := (r 2 2)) C 10 (by decide) rfl 2 (tn_l 2) (show 2 < 4 by omega) (by decide) rfl dX3_sumOfDrops_18 ?_
  refine tv_iadd C dX3_sumOfDrops_19 ?_
  refine tv_aload_n C dX3_sumOfDrops_20 rfl 0 rfl ?_
  refine tv_get (ci := 3) (Cn := RX3) (T := TX3) (Nf := 7) (v := .ref (tv_ad c 10)) C 9 (by decide) rfl rfl in_X3_sumOfDrops_X3 1 (by decide) lk_X3_sumOfDrops_9 rfl dX3_sumOfDrops_21 ?_
  refine tv_iconst (v := 3) C dX3_sumOfDrops_24 (by decide) ?_
  refine tv_iald (f := (r 2)) (v := (r 2 3)) C 10 (by decide) rfl 3 (tn_l 3) (show 3 < 4 by omega) (by decide) rfl dX3_sumOfDrops_25 ?_
  refine tv_iadd C dX3_sumOfDrops_26 ?_
  exact hR _ _ _ _ dX3_sumOfDrops_27 ⟨by exact sd_eq (r 2), by first | (simp only [if_true, ts_ss, ts_aa, ↓reduceIte]; done) | rfl | (simp [if_true, ts_ss, ts_aa]; done) | (exfalso; clear hR C; simp_all; done)⟩
set_option maxHeartbeats 4000000 in
set_option maxRecDepth 100000 in
theorem kX3_leastInIt (c : tv_c) (s r : ts_T)   : tv_Fi c 60 yX3_leastInIt wsX3_leastInIt { frames := 0, cells := 0, slots := 0, locals := 0 } [.ref (tv_ad c 9)] (eX c s r) (nI (sp_li (r 2))) (eX c s r) := by
  refine tv_metI (by decide +kernel) rfl rfl (Nat.le_of_ble_eq_true rfl) (fun X C hR => ?_)
  show tv_V c 60 X (eX c s r) 0 [(0, .ref (tv_ad c 9))] []
  refine tv_iconst (v := 0) C dX3_leastInIt_0 (by decide) ?_
  refine tv_istore_n (lv' := [(1, .int 0), (0, .ref (tv_ad c 9))]) C dX3_leastInIt_1 rfl (by decide) rfl ?_
  refine tv_iload_n C dX3_leastInIt_2 rfl 0 rfl ?_
  refine tv_iconst (v := 4) C dX3_leastInIt_3 (by decide) ?_
  refine tv_icmp_ge C 24 dX3_leastInIt_4 (by decide) (fun c_1 => absurd c_1 (by decide)) (fun c_1 => ?_)
  refine tv_aload_n C dX3_leastInIt_7 rfl 1 rfl ?_
  refine tv_get (ci := 3) (Cn := RX3) (T := TX3) (Nf := 7) (v := .ref (tv_ad c 10)) C 9 (by decide) rfl rfl in_X3_leastInIt_X3 1 (by decide) lk_X3_leastInIt_9 rfl dX3_leastInIt_8 ?_
  refine tv_iload_n C dX3_leastInIt_11 rfl 0 rfl ?_
  refine tv_iald (f := (r 2)) (v := (r 2 0)) C 10 (by decide) rfl 0 (tn_l 0) (show 0 < 4 by omega) (by decide) rfl dX3_leastInIt_12 ?_
  refine tv_if_le C 18 dX3_leastInIt_13 (by decide) (fun c_2 => ?_) (fun c_2 => ?_)
  · skip
    refine tv_iinc (v := 1) (lv' := [(1, .int 1), (0, .ref (tv_ad c 9))]) C dX3_leastInIt_18 0 rfl (by decide) (by decide) rfl ?_
    refine tv_goto C 2 dX3_leastInIt_21 (by decide) ?_
    refine tv_iload_n C dX3_leastInIt_2 rfl 0 rfl ?_
    refine tv_iconst (v := 4) C dX3_leastInIt_3 (by decide) ?_
    refine tv_icmp_ge C 24 dX3_leastInIt_4 (by decide) (fun c_3 => absurd c_3 (by decide)) (fun c_3 => ?_)
    refine tv_aload_n C dX3_leastInIt_7 rfl 1 rfl ?_
    refine tv_get (ci := 3) (Cn := RX3) (T := TX3) (Nf := 7) (v := .ref (tv_ad c 10)) C 9 (by decide) rfl rfl in_X3_leastInIt_X3 1 (by decide) lk_X3_leastInIt_9 rfl dX3_leastInIt_8 ?_
    refine tv_iload_n C dX3_leastInIt_11 rfl 0 rfl ?_
    refine tv_iald (f := (r 2)) (v := (r 2 1)) C 10 (by decide) rfl 1 (tn_l 1) (show 1 < 4 by omega) (by decide) rfl dX3_leastInIt_12 ?_
    refine tv_if_le C 18 dX3_leastInIt_13 (by decide) (fun c_4 => ?_) (fun c_4 => ?_)
    · skip
      refine tv_iinc (v := 2) (lv' := [(1, .int 2), (0, .ref (tv_ad c 9))]) C dX3_leastInIt_18 0 rfl (by decide) (by decide) rfl ?_
      refine tv_goto C 2 dX3_leastInIt_21 (by decide) ?_
      refine tv_iload_n C dX3_leastInIt_2 rfl 0 rfl ?_
      refine tv_iconst (v := 4) C dX3_leastInIt_3 (by decide) ?_
      refine tv_icmp_ge C 24 dX3_leastInIt_4 (by decide) (fun c_5 => absurd c_5 (by decide)) (fun c_5 => ?_)
      refine tv_aload_n C dX3_leastInIt_7 rfl 1 rfl ?_
      refine tv_get (ci := 3) (Cn := RX3) (T := TX3) (Nf := 7) (v := .ref (tv_ad c 10)) C 9 (by decide) rfl rfl in_X3_leastInIt_X3 1 (by decide) lk_X3_leastInIt_9 rfl dX3_leastInIt_8 ?_
      refine tv_iload_n C dX3_leastInIt_11 rfl 0 rfl ?_
      refine tv_iald (f := (r 2)) (v := (r 2 2)) C 10 (by decide) rfl 2 (tn_l 2) (show 2 < 4 by omega) (by decide) rfl dX3_leastInIt_12 ?_
      refine tv_if_le C 18 dX3_leastInIt_13 (by decide) (fun c_6 => ?_) (fun c_6 => ?_)
      · skip
        refine tv_iinc (v := 3) (lv' := [(1, .int 3), (0, .ref (tv_ad c 9))]) C dX3_leastInIt_18 0 rfl (by decide) (by decide) rfl ?_
        refine tv_goto C 2 dX3_leastInIt_21 (by decide) ?_
        refine tv_iload_n C dX3_leastInIt_2 rfl 0 rfl ?_
        refine tv_iconst (v := 4) C dX3_leastInIt_3 (by decide) ?_
        refine tv_icmp_ge C 24 dX3_leastInIt_4 (by decide) (fun c_7 => absurd c_7 (by decide)) (fun c_7 => ?_)
        refine tv_aload_n C dX3_leastInIt_7 rfl 1 rfl ?_
        refine tv_get (ci := 3) (Cn := RX3) (T := TX3) (Nf := 7) (v := .ref (tv_ad c 10)) C 9 (by decide) rfl rfl in_X3_leastInIt_X3 1 (by decide) lk_X3_leastInIt_9 rfl dX3_leastInIt_8 ?_
        refine tv_iload_n C dX3_leastInIt_11 rfl 0 rfl ?_
        refine tv_iald (f := (r 2)) (v := (r 2 3)) C 10 (by decide) rfl 3 (tn_l 3) (show 3 < 4 by omega) (by decide) rfl dX3_leastInIt_12 ?_
        refine tv_if_le C 18 dX3_leastInIt_13 (by decide) (fun c_8 => ?_) (fun c_8 => ?_)
        · skip
          refine tv_iinc (v := 4) (lv' := [(1, .int 4), (0, .ref (tv_ad c 9))]) C dX3_leastInIt_18 0 rfl (by decide) (by decide) rfl ?_
          refine tv_goto C 2 dX3_leastInIt_21 (by decide) ?_
          refine tv_iload_n C dX3_leastInIt_2 rfl 0 rfl ?_
          refine tv_iconst (v := 4) C dX3_leastInIt_3 (by decide) ?_
          refine tv_icmp_ge C 24 dX3_leastInIt_4 (by decide) (fun c_9 => ?_) (fun c_9 => absurd (by decide) c_9)
          refine tv_iconst (v := 0) C dX3_leastInIt_24 (by decide) ?_
          exact hR _ _ _ _ dX3_leastInIt_25 ⟨by simp only [sp_li, c_2, tn_d_le c_2, c_4, tn_d_le c_4, c_6, tn_d_le c_6, c_8, tn_d_le c_8, ↓reduceIte]; rfl, by first | (simp only [c_2, tn_d_le c_2, c_4, tn_d_le c_4, c_6, tn_d_le c_6, c_8, tn_d_le c_8, if_true, ts_ss, ts_aa, ↓reduceIte]; done) | rfl | (simp [c_2, tn_d_le c_2, c_4, tn_d_le c_4, c_6, tn_d_le c_6, c_8, tn_d_le c_8, if_true, ts_ss, ts_aa]; done) | (exfalso; clear hR C; simp_all; done)⟩
        · skip
          refine tv_iload_n C dX3_leastInIt_16 rfl 0 rfl ?_
          exact hR _ _ _ _ dX3_leastInIt_17 ⟨by simp only [sp_li, c_2, tn_d_le c_2, c_4, tn_d_le c_4, c_6, tn_d_le c_6, c_8, tn_d_nle c_8, ↓reduceIte]; rfl, by first | (simp only [c_2, tn_d_le c_2, c_4, tn_d_le c_4, c_6, tn_d_le c_6, c_8, tn_d_nle c_8, if_true, ts_ss, ts_aa, ↓reduceIte]; done) | rfl | (simp [c_2, tn_d_le c_2, c_4, tn_d_le c_4, c_6, tn_d_le c_6, c_8, tn_d_nle c_8, if_true, ts_ss, ts_aa]; done) | (exfalso; clear hR C; simp_all; done)⟩
      · skip
        refine tv_iload_n C dX3_leastInIt_16 rfl 0 rfl ?_
        exact hR _ _ _ _ dX3_leastInIt_17 ⟨by simp only [sp_li, c_2, tn_d_le c_2, c_4, tn_d_le c_4, c_6, tn_d_nle c_6, ↓reduceIte]; rfl, by first | (simp only [c_2, tn_d_le c_2, c_4, tn_d_le c_4, c_6, tn_d_nle c_6, if_true, ts_ss, ts_aa, ↓reduceIte]; done) | rfl | (simp [c_2, tn_d_le c_2, c_4, tn_d_le c_4, c_6, tn_d_nle c_6, if_true, ts_ss, ts_aa]; done) | (exfalso; clear hR C; simp_all; done)⟩
    · skip
      refine tv_iload_n C dX3_leastInIt_16 rfl 0 rfl ?_
      exact hR _ _ _ _ dX3_leastInIt_17 ⟨by simp only [sp_li, c_2, tn_d_le c_2, c_4, tn_d_nle c_4, ↓reduceIte]; rfl, by first | (simp only [c_2, tn_d_le c_2, c_4, tn_d_nle c_4, if_true, ts_ss, ts_aa, ↓reduceIte]; done) | rfl | (simp [c_2, tn_d_le c_2, c_4, tn_d_nle c_4, if_true, ts_ss, ts_aa]; done) | (exfalso; clear hR C; simp_all; done)⟩
  · skip
    refine tv_iload_n C dX3_leastInIt_16 rfl 0 rfl ?_
    exact hR _ _ _ _ dX3_leastInIt_17 ⟨by simp only [sp_li, c_2, tn_d_nle c_2, ↓reduceIte]; rfl, by first | (simp only [c_2, tn_d_nle c_2, if_true, ts_ss, ts_aa, ↓reduceIte]; done) | rfl | (simp [c_2, tn_d_nle c_2, if_true, ts_ss, ts_aa]; done) | (exfalso; clear hR C; simp_all; done)⟩
set_option maxHeartbeats 4000000 in
set_option maxRecDepth 100000 in
theorem kX3_stir (c : tv_c) (s r : ts_T)  (hd : ¬ sp_ad s (r 2) = 0) : tv_Mr c 60 yX3_stir wsX3_stir { frames := 1, cells := 0, slots := 0, locals := 24 } [.ref (tv_ad c 9)] (eX c s r) 11 (fun u => u = (eX c s (ts_s (ts_a r 3 (upd (upd (upd (r 3) 0 (sp_mb s (r 2) 0)) 1 (sp_mb s (r 2) 1)) 2 (sp_mb s (r 2) 2))) 6 (s 15 (sp_li (r 2)))))) := by
  refine tv_metR (by decide +kernel) rfl rfl (Nat.le_of_ble_eq_true rfl) (fun X C hR => ?_)
  show tv_V c 60 X (eX c s r) 0 [(0, .ref (tv_ad c 9))] []
  obtain ⟨t, t1, t2, et⟩ := ad_t hd
  have hli := li_lt (r 2)
  refine tv_iconst (v := 1) C dX3_stir_0 (by decide) ?_
  refine tv_aload_n C dX3_stir_1 rfl 0 rfl ?_
  refine tv_calli (As := []) (rest := [.int 1]) (ci := 3) (cn := RX3) (T := TX3) (Nf := 7) C 9 (kX3_sumOfDrops c s r   ) gX3_stir_X3_sumOfDrops rfl yd_X3_sumOfDrops ⟨rfl, rfl⟩ (by decide) (by decide) rfl rfl rfl rfl (Nat.le_of_ble_eq_true rfl) dX3_stir_2 (fun q_1 u_1 z_1 => ?_)
  obtain ⟨rfl, rfl⟩ := z_1
  refine tv_max C wd_X3_stir_m46 wd_X3_stir_stmax wd_X3_stir_inim wd_X3_stir_cdmax (by decide) (Nat.le_of_ble_eq_true rfl) dX3_stir_5 ?_
  rw [mx1 et t1 t2]
  refine tv_istore_n (lv' := [(1, .int (sp_sd (r 2) 4)), (0, .ref (tv_ad c 9))]) C dX3_stir_8 rfl (by decide) rfl ?_
  refine tv_iconst (v := 0) C dX3_stir_9 (by decide) ?_
  refine tv_istore_n (lv' := [(2, .int 0), (1, .int (sp_sd (r 2) 4)), (0, .ref (tv_ad c 9))]) C dX3_stir_10 rfl (by decide) rfl ?_
  refine tv_iload_n C dX3_stir_11 rfl 0 rfl ?_
  refine tv_iconst (v := 3) C dX3_stir_12 (by decide) ?_
  refine tv_icmp_ge C 77 dX3_stir_13 (by decide) (fun c_2 => absurd c_2 (by decide)) (fun c_2 => ?_)
  refine tv_iconst (v := 0) C dX3_stir_16 (by decide) ?_
  refine tv_istore_n (lv' := [(3, .int 0), (2, .int 0), (1, .int (sp_sd (r 2) 4)), (0, .ref (tv_ad c 9))]) C dX3_stir_17 rfl (by decide) rfl ?_
  refine tv_iconst (v := 0) C dX3_stir_18 (by decide) ?_
  refine tv_istore (lv' := [(4, .int 0), (3, .int 0), (2, .int 0), (1, .int (sp_sd (r 2) 4)), (0, .ref (tv_ad c 9))]) C dX3_stir_19 (by decide) rfl ?_
  refine tv_iload C dX3_stir_21 0 rfl ?_
  refine tv_iconst (v := 4) C dX3_stir_23 (by decide) ?_
  refine tv_icmp_ge C 59 dX3_stir_24 (by decide) (fun c_3 => absurd c_3 (by decide)) (fun c_3 => ?_)
  refine tv_iload_n C dX3_stir_27 rfl 1 rfl ?_
  refine tv_aload_n C dX3_stir_28 rfl 4 rfl ?_
  refine tv_get (ci := 3) (Cn := RX3) (T := TX3) (Nf := 7) (v := .ref (tv_ad c 10)) C 9 (by decide) rfl rfl in_X3_stir_X3 1 (by decide) lk_X3_stir_9 rfl dX3_stir_29 ?_
  refine tv_iload C dX3_stir_32 0 rfl ?_
  refine tv_iald (f := (r 2)) (v := (r 2 0)) C 10 (by decide) rfl 0 (tn_l 0) (show 0 < 4 by omega) (by decide) rfl dX3_stir_34 ?_
  refine tv_aload_n C dX3_stir_35 rfl 4 rfl ?_
  refine tv_get (ci := 3) (Cn := RX3) (T := TX3) (Nf := 7) (v := .ref (tv_ad c 2)) C 9 (by decide) rfl rfl in_X3_stir_X3 0 (by decide) lk_X3_stir_28 rfl dX3_stir_36 ?_
  refine tv_get (ci := 6) (Cn := RX6) (T := TX6) (Nf := 11) (v := .ref (tv_ad c 4)) C 2 (by decide) rfl rfl in_X3_stir_X6 1 (by decide) lk_X3_stir_52 rfl dX3_stir_39 ?_
  refine tv_iload C dX3_stir_42 0 rfl ?_
  refine tv_aald (Cn := RX1) (a := tv_ad c (48 + 0)) C 4 (by decide) rfl 4 rfl 0 (tn_l 0) (show 0 < 6 by omega) (by decide) rfl dX3_stir_44 ?_
  refine tv_get (ci := 1) (Cn := RX1) (T := TX1) (Nf := 2) (v := .ref (tv_ad c (54 + 0))) C (48 + 0) (by omega) (eX_at_k c s r (by omega)) rfl in_X3_stir_X1 0 (by decide) lk_X3_stir_56 rfl dX3_stir_45 ?_
  refine tv_iload_n C dX3_stir_48 rfl 2 rfl ?_
  refine tv_iald (v := (s 16 (3 * 0 + 0))) C (54 + 0) (by omega) (eX_at_b c s r (by omega)) 0 (tn_l 0) (show 0 < 3 by omega) (by decide) (if_pos (show 0 < 3 by omega)) dX3_stir_49 ?_
  refine tv_imul C dX3_stir_50 ?_
  refine tv_iadd C dX3_stir_51 ?_
  refine tv_istore_n (lv' := [(3, .int (0 + ((r 2 0) * (s 16 (3 * 0 + 0))))), (4, .int 0), (2, .int 0), (1, .int (sp_sd (r 2) 4)), (0, .ref (tv_ad c 9))]) C dX3_stir_52 rfl (by decide) rfl ?_
  refine tv_iinc (v := 1) (lv' := [(4, .int 1), (3, .int (0 + ((r 2 0) * (s 16 (3 * 0 + 0))))), (2, .int 0), (1, .int (sp_sd (r 2) 4)), (0, .ref (tv_ad c 9))]) C dX3_stir_53 1 rfl (by decide) (by decide) rfl ?_
  refine tv_goto C 21 dX3_stir_56 (by decide) ?_
  refine tv_iload C dX3_stir_21 0 rfl ?_
  refine tv_iconst (v := 4) C dX3_stir_23 (by decide) ?_
  refine tv_icmp_ge C 59 dX3_stir_24 (by decide) (fun c_4 => absurd c_4 (by decide)) (fun c_4 => ?_)
  refine tv_iload_n C dX3_stir_27 rfl 1 rfl ?_
  refine tv_aload_n C dX3_stir_28 rfl 4 rfl ?_
  refine tv_get (ci := 3) (Cn := RX3) (T := TX3) (Nf := 7) (v := .ref (tv_ad c 10)) C 9 (by decide) rfl rfl in_X3_stir_X3 1 (by decide) lk_X3_stir_9 rfl dX3_stir_29 ?_
  refine tv_iload C dX3_stir_32 0 rfl ?_
  refine tv_iald (f := (r 2)) (v := (r 2 1)) C 10 (by decide) rfl 1 (tn_l 1) (show 1 < 4 by omega) (by decide) rfl dX3_stir_34 ?_
  refine tv_aload_n C dX3_stir_35 rfl 4 rfl ?_
  refine tv_get (ci := 3) (Cn := RX3) (T := TX3) (Nf := 7) (v := .ref (tv_ad c 2)) C 9 (by decide) rfl rfl in_X3_stir_X3 0 (by decide) lk_X3_stir_28 rfl dX3_stir_36 ?_
  refine tv_get (ci := 6) (Cn := RX6) (T := TX6) (Nf := 11) (v := .ref (tv_ad c 4)) C 2 (by decide) rfl rfl in_X3_stir_X6 1 (by decide) lk_X3_stir_52 rfl dX3_stir_39 ?_
  refine tv_iload C dX3_stir_42 0 rfl ?_
  refine tv_aald (Cn := RX1) (a := tv_ad c (48 + 1)) C 4 (by decide) rfl 4 rfl 1 (tn_l 1) (show 1 < 6 by omega) (by decide) rfl dX3_stir_44 ?_
  refine tv_get (ci := 1) (Cn := RX1) (T := TX1) (Nf := 2) (v := .ref (tv_ad c (54 + 1))) C (48 + 1) (by omega) (eX_at_k c s r (by omega)) rfl in_X3_stir_X1 0 (by decide) lk_X3_stir_56 rfl dX3_stir_45 ?_
  refine tv_iload_n C dX3_stir_48 rfl 2 rfl ?_
  refine tv_iald (v := (s 16 (3 * 1 + 0))) C (54 + 1) (by omega) (eX_at_b c s r (by omega)) 0 (tn_l 0) (show 0 < 3 by omega) (by decide) (if_pos (show 0 < 3 by omega)) dX3_stir_49 ?_
  refine tv_imul C dX3_stir_50 ?_
  refine tv_iadd C dX3_stir_51 ?_
  refine tv_istore_n (lv' := [(3, .int ((0 + ((r 2 0) * (s 16 (3 * 0 + 0)))) + ((r 2 1) * (s 16 (3 * 1 + 0))))), (4, .int 1), (2, .int 0), (1, .int (sp_sd (r 2) 4)), (0, .ref (tv_ad c 9))]) C dX3_stir_52 rfl (by decide) rfl ?_
  refine tv_iinc (v := 2) (lv' := [(4, .int 2), (3, .int ((0 + ((r 2 0) * (s 16 (3 * 0 + 0)))) + ((r 2 1) * (s 16 (3 * 1 + 0))))), (2, .int 0), (1, .int (sp_sd (r 2) 4)), (0, .ref (tv_ad c 9))]) C dX3_stir_53 1 rfl (by decide) (by decide) rfl ?_
  refine tv_goto C 21 dX3_stir_56 (by decide) ?_
  refine tv_iload C dX3_stir_21 0 rfl ?_
  refine tv_iconst (v := 4) C dX3_stir_23 (by decide) ?_
  refine tv_icmp_ge C 59 dX3_stir_24 (by decide) (fun c_5 => absurd c_5 (by decide)) (fun c_5 => ?_)
  refine tv_iload_n C dX3_stir_27 rfl 1 rfl ?_
  refine tv_aload_n C dX3_stir_28 rfl 4 rfl ?_
  refine tv_get (ci := 3) (Cn := RX3) (T := TX3) (Nf := 7) (v := .ref (tv_ad c 10)) C 9 (by decide) rfl rfl in_X3_stir_X3 1 (by decide) lk_X3_stir_9 rfl dX3_stir_29 ?_
  refine tv_iload C dX3_stir_32 0 rfl ?_
  refine tv_iald (f := (r 2)) (v := (r 2 2)) C 10 (by decide) rfl 2 (tn_l 2) (show 2 < 4 by omega) (by decide) rfl dX3_stir_34 ?_
  refine tv_aload_n C dX3_stir_35 rfl 4 rfl ?_
  refine tv_get (ci := 3) (Cn := RX3) (T := TX3) (Nf := 7) (v := .ref (tv_ad c 2)) C 9 (by decide) rfl rfl in_X3_stir_X3 0 (by decide) lk_X3_stir_28 rfl dX3_stir_36 ?_
  refine tv_get (ci := 6) (Cn := RX6) (T := TX6) (Nf := 11) (v := .ref (tv_ad c 4)) C 2 (by decide) rfl rfl in_X3_stir_X6 1 (by decide) lk_X3_stir_52 rfl dX3_stir_39 ?_
  refine tv_iload C dX3_stir_42 0 rfl ?_
  refine tv_aald (Cn := RX1) (a := tv_ad c (48 + 2)) C 4 (by decide) rfl 4 rfl 2 (tn_l 2) (show 2 < 6 by omega) (by decide) rfl dX3_stir_44 ?_
  refine tv_get (ci := 1) (Cn := RX1) (T := TX1) (Nf := 2) (v := .ref (tv_ad c (54 + 2))) C (48 + 2) (by omega) (eX_at_k c s r (by omega)) rfl in_X3_stir_X1 0 (by decide) lk_X3_stir_56 rfl dX3_stir_45 ?_
  refine tv_iload_n C dX3_stir_48 rfl 2 rfl ?_
  refine tv_iald (v := (s 16 (3 * 2 + 0))) C (54 + 2) (by omega) (eX_at_b c s r (by omega)) 0 (tn_l 0) (show 0 < 3 by omega) (by decide) (if_pos (show 0 < 3 by omega)) dX3_stir_49 ?_
  refine tv_imul C dX3_stir_50 ?_
  refine tv_iadd C dX3_stir_51 ?_
  refine tv_istore_n (lv' := [(3, .int (((0 + ((r 2 0) * (s 16 (3 * 0 + 0)))) + ((r 2 1) * (s 16 (3 * 1 + 0)))) + ((r 2 2) * (s 16 (3 * 2 + 0))))), (4, .int 2), (2, .int 0), (1, .int (sp_sd (r 2) 4)), (0, .ref (tv_ad c 9))]) C dX3_stir_52 rfl (by decide) rfl ?_
  refine tv_iinc (v := 3) (lv' := [(4, .int 3), (3, .int (((0 + ((r 2 0) * (s 16 (3 * 0 + 0)))) + ((r 2 1) * (s 16 (3 * 1 + 0)))) + ((r 2 2) * (s 16 (3 * 2 + 0))))), (2, .int 0), (1, .int (sp_sd (r 2) 4)), (0, .ref (tv_ad c 9))]) C dX3_stir_53 1 rfl (by decide) (by decide) rfl ?_
  refine tv_goto C 21 dX3_stir_56 (by decide) ?_
  refine tv_iload C dX3_stir_21 0 rfl ?_
  refine tv_iconst (v := 4) C dX3_stir_23 (by decide) ?_
  refine tv_icmp_ge C 59 dX3_stir_24 (by decide) (fun c_6 => absurd c_6 (by decide)) (fun c_6 => ?_)
  refine tv_iload_n C dX3_stir_27 rfl 1 rfl ?_
  refine tv_aload_n C dX3_stir_28 rfl 4 rfl ?_
  refine tv_get (ci := 3) (Cn := RX3) (T := TX3) (Nf := 7) (v := .ref (tv_ad c 10)) C 9 (by decide) rfl rfl in_X3_stir_X3 1 (by decide) lk_X3_stir_9 rfl dX3_stir_29 ?_
  refine tv_iload C dX3_stir_32 0 rfl ?_
  refine tv_iald (f := (r 2)) (v := (r 2 3)) C 10 (by decide) rfl 3 (tn_l 3) (show 3 < 4 by omega) (by decide) rfl dX3_stir_34 ?_
  refine tv_aload_n C dX3_stir_35 rfl 4 rfl ?_
  refine tv_get (ci := 3) (Cn := RX3) (T := TX3) (Nf := 7) (v := .ref (tv_ad c 2)) C 9 (by decide) rfl rfl in_X3_stir_X3 0 (by decide) lk_X3_stir_28 rfl dX3_stir_36 ?_
  refine tv_get (ci := 6) (Cn := RX6) (T := TX6) (Nf := 11) (v := .ref (tv_ad c 4)) C 2 (by decide) rfl rfl in_X3_stir_X6 1 (by decide) lk_X3_stir_52 rfl dX3_stir_39 ?_
  refine tv_iload C dX3_stir_42 0 rfl ?_
  refine tv_aald (Cn := RX1) (a := tv_ad c (48 + 3)) C 4 (by decide) rfl 4 rfl 3 (tn_l 3) (show 3 < 6 by omega) (by decide) rfl dX3_stir_44 ?_
  refine tv_get (ci := 1) (Cn := RX1) (T := TX1) (Nf := 2) (v := .ref (tv_ad c (54 + 3))) C (48 + 3) (by omega) (eX_at_k c s r (by omega)) rfl in_X3_stir_X1 0 (by decide) lk_X3_stir_56 rfl dX3_stir_45 ?_
  refine tv_iload_n C dX3_stir_48 rfl 2 rfl ?_
  refine tv_iald (v := (s 16 (3 * 3 + 0))) C (54 + 3) (by omega) (eX_at_b c s r (by omega)) 0 (tn_l 0) (show 0 < 3 by omega) (by decide) (if_pos (show 0 < 3 by omega)) dX3_stir_49 ?_
  refine tv_imul C dX3_stir_50 ?_
  refine tv_iadd C dX3_stir_51 ?_
  refine tv_istore_n (lv' := [(3, .int ((((0 + ((r 2 0) * (s 16 (3 * 0 + 0)))) + ((r 2 1) * (s 16 (3 * 1 + 0)))) + ((r 2 2) * (s 16 (3 * 2 + 0)))) + ((r 2 3) * (s 16 (3 * 3 + 0))))), (4, .int 3), (2, .int 0), (1, .int (sp_sd (r 2) 4)), (0, .ref (tv_ad c 9))]) C dX3_stir_52 rfl (by decide) rfl ?_
  refine tv_iinc (v := 4) (lv' := [(4, .int 4), (3, .int ((((0 + ((r 2 0) * (s 16 (3 * 0 + 0)))) + ((r 2 1) * (s 16 (3 * 1 + 0)))) + ((r 2 2) * (s 16 (3 * 2 + 0)))) + ((r 2 3) * (s 16 (3 * 3 + 0))))), (2, .int 0), (1, .int (sp_sd (r 2) 4)), (0, .ref (tv_ad c 9))]) C dX3_stir_53 1 rfl (by decide) (by decide) rfl ?_
  refine tv_goto C 21 dX3_stir_56 (by decide) ?_
  refine tv_iload C dX3_stir_21 0 rfl ?_
  refine tv_iconst (v := 4) C dX3_stir_23 (by decide) ?_
  refine tv_icmp_ge C 59 dX3_stir_24 (by decide) (fun c_7 => ?_) (fun c_7 => absurd (by decide) c_7)
  refine tv_aload_n C dX3_stir_59 rfl 4 rfl ?_
  refine tv_get (ci := 3) (Cn := RX3) (T := TX3) (Nf := 7) (v := .ref (tv_ad c 11)) C 9 (by decide) rfl rfl in_X3_stir_X3 2 (by decide) lk_X3_stir_18 rfl dX3_stir_60 ?_
  refine tv_get (ci := 1) (Cn := RX1) (T := TX1) (Nf := 2) (v := .ref (tv_ad c 12)) C 11 (by decide) rfl rfl in_X3_stir_X1 0 (by decide) lk_X3_stir_56 rfl dX3_stir_63 ?_
  refine tv_iload_n C dX3_stir_66 rfl 2 rfl ?_
  refine tv_iload_n C dX3_stir_67 rfl 1 rfl ?_
  refine tv_iload_n C dX3_stir_68 rfl 3 rfl ?_
  refine tv_idiv C (tn_ne et (by omega) (by omega)) dX3_stir_69 ?_
  refine tv_iast (E' := (eX c s (ts_a r 3 (upd (r 3) 0 (((((0 + ((r 2 0) * (s 16 (3 * 0 + 0)))) + ((r 2 1) * (s 16 (3 * 1 + 0)))) + ((r 2 2) * (s 16 (3 * 2 + 0)))) + ((r 2 3) * (s 16 (3 * 3 + 0)))) / (sp_sd (r 2) 4)))))) C 12 (by decide) rfl 0 (tn_l 0) (show 0 < 3 by omega) (by decide) (eX_u_mixedBands c s r (upd (r 3) 0 (((((0 + ((r 2 0) * (s 16 (3 * 0 + 0)))) + ((r 2 1) * (s 16 (3 * 1 + 0)))) + ((r 2 2) * (s 16 (3 * 2 + 0)))) + ((r 2 3) * (s 16 (3 * 3 + 0)))) / (sp_sd (r 2) 4)))) dX3_stir_70 ?_
  refine tv_iinc (v := 1) (lv' := [(2, .int 1), (4, .int 4), (3, .int ((((0 + ((r 2 0) * (s 16 (3 * 0 + 0)))) + ((r 2 1) * (s 16 (3 * 1 + 0)))) + ((r 2 2) * (s 16 (3 * 2 + 0)))) + ((r 2 3) * (s 16 (3 * 3 + 0))))), (1, .int (sp_sd (r 2) 4)), (0, .ref (tv_ad c 9))]) C dX3_stir_71 2 rfl (by decide) (by decide) rfl ?_
  refine tv_goto C 11 dX3_stir_74 (by decide) ?_
  refine tv_iload_n C dX3_stir_11 rfl 0 rfl ?_
  refine tv_iconst (v := 3) C dX3_stir_12 (by decide) ?_
  refine tv_icmp_ge C 77 dX3_stir_13 (by decide) (fun c_8 => absurd c_8 (by decide)) (fun c_8 => ?_)
  refine tv_iconst (v := 0) C dX3_stir_16 (by decide) ?_
  refine tv_istore_n (lv' := [(3, .int 0), (2, .int 1), (4, .int 4), (1, .int (sp_sd (r 2) 4)), (0, .ref (tv_ad c 9))]) C dX3_stir_17 rfl (by decide) rfl ?_
  refine tv_iconst (v := 0) C dX3_stir_18 (by decide) ?_
  refine tv_istore (lv' := [(4, .int 0), (3, .int 0), (2, .int 1), (1, .int (sp_sd (r 2) 4)), (0, .ref (tv_ad c 9))]) C dX3_stir_19 (by decide) rfl ?_
  refine tv_iload C dX3_stir_21 0 rfl ?_
  refine tv_iconst (v := 4) C dX3_stir_23 (by decide) ?_
  refine tv_icmp_ge C 59 dX3_stir_24 (by decide) (fun c_9 => absurd c_9 (by decide)) (fun c_9 => ?_)
  refine tv_iload_n C dX3_stir_27 rfl 1 rfl ?_
  refine tv_aload_n C dX3_stir_28 rfl 4 rfl ?_
  refine tv_get (ci := 3) (Cn := RX3) (T := TX3) (Nf := 7) (v := .ref (tv_ad c 10)) C 9 (by decide) rfl rfl in_X3_stir_X3 1 (by decide) lk_X3_stir_9 rfl dX3_stir_29 ?_
  refine tv_iload C dX3_stir_32 0 rfl ?_
  refine tv_iald (f := (r 2)) (v := (r 2 0)) C 10 (by decide) rfl 0 (tn_l 0) (show 0 < 4 by omega) (by decide) rfl dX3_stir_34 ?_
  refine tv_aload_n C dX3_stir_35 rfl 4 rfl ?_
  refine tv_get (ci := 3) (Cn := RX3) (T := TX3) (Nf := 7) (v := .ref (tv_ad c 2)) C 9 (by decide) rfl rfl in_X3_stir_X3 0 (by decide) lk_X3_stir_28 rfl dX3_stir_36 ?_
  refine tv_get (ci := 6) (Cn := RX6) (T := TX6) (Nf := 11) (v := .ref (tv_ad c 4)) C 2 (by decide) rfl rfl in_X3_stir_X6 1 (by decide) lk_X3_stir_52 rfl dX3_stir_39 ?_
  refine tv_iload C dX3_stir_42 0 rfl ?_
  refine tv_aald (Cn := RX1) (a := tv_ad c (48 + 0)) C 4 (by decide) rfl 4 rfl 0 (tn_l 0) (show 0 < 6 by omega) (by decide) rfl dX3_stir_44 ?_
  refine tv_get (ci := 1) (Cn := RX1) (T := TX1) (Nf := 2) (v := .ref (tv_ad c (54 + 0))) C (48 + 0) (by omega) (eX_at_k c s (ts_a r 3 (upd (r 3) 0 (((((0 + ((r 2 0) * (s 16 (3 * 0 + 0)))) + ((r 2 1) * (s 16 (3 * 1 + 0)))) + ((r 2 2) * (s 16 (3 * 2 + 0)))) + ((r 2 3) * (s 16 (3 * 3 + 0)))) / (sp_sd (r 2) 4)))) (by omega)) rfl in_X3_stir_X1 0 (by decide) lk_X3_stir_56 rfl dX3_stir_45 ?_
  refine tv_iload_n C dX3_stir_48 rfl 2 rfl ?_
  refine tv_iald (v := (s 16 (3 * 0 + 1))) C (54 + 0) (by omega) (eX_at_b c s (ts_a r 3 (upd (r 3) 0 (((((0 + ((r 2 0) * (s 16 (3 * 0 + 0)))) + ((r 2 1) * (s 16 (3 * 1 + 0)))) + ((r 2 2) * (s 16 (3 * 2 + 0)))) + ((r 2 3) * (s 16 (3 * 3 + 0)))) / (sp_sd (r 2) 4)))) (by omega)) 1 (tn_l 1) (show 1 < 3 by omega) (by decide) (if_pos (show 1 < 3 by omega)) dX3_stir_49 ?_
  refine tv_imul C dX3_stir_50 ?_
  refine tv_iadd C dX3_stir_51 ?_
  refine tv_istore_n (lv' := [(3, .int (0 + ((r 2 0) * (s 16 (3 * 0 + 1))))), (4, .int 0), (2, .int 1), (1, .int (sp_sd (r 2) 4)), (0, .ref (tv_ad c 9))]) C dX3_stir_52 rfl (by decide) rfl ?_
  refine tv_iinc (v := 1) (lv' := [(4, .int 1), (3, .int (0 + ((r 2 0) * (s 16 (3 * 0 + 1))))), (2, .int 1), (1, .int (sp_sd (r 2) 4)), (0, .ref (tv_ad c 9))]) C dX3_stir_53 1 rfl (by decide) (by decide) rfl ?_
  refine tv_goto C 21 dX3_stir_56 (by decide) ?_
  refine tv_iload C dX3_stir_21 0 rfl ?_
  refine tv_iconst (v := 4) C dX3_stir_23 (by decide) ?_
  refine tv_icmp_ge C 59 dX3_stir_24 (by decide) (fun c_10 => absurd c_10 (by decide)) (fun c_10 => ?_)
  refine tv_iload_n C dX3_stir_27 rfl 1 rfl ?_
  refine tv_aload_n C dX3_stir_28 rfl 4 rfl ?_
  refine tv_get (ci := 3) (Cn := RX3) (T := TX3) (Nf := 7) (v := .ref (tv_ad c 10)) C 9 (by decide) rfl rfl in_X3_stir_X3 1 (by decide) lk_X3_stir_9 rfl dX3_stir_29 ?_
  refine tv_iload C dX3_stir_32 0 rfl ?_
  refine tv_iald (f := (r 2)) (v := (r 2 1)) C 10 (by decide) rfl 1 (tn_l 1) (show 1 < 4 by omega) (by decide) rfl dX3_stir_34 ?_
  refine tv_aload_n C dX3_stir_35 rfl 4 rfl ?_
  refine tv_get (ci := 3) (Cn := RX3) (T := TX3) (Nf := 7) (v := .ref (tv_ad c 2)) C 9 (by decide) rfl rfl in_X3_stir_X3 0 (by decide) lk_X3_stir_28 rfl dX3_stir_36 ?_
  refine tv_get (ci := 6) (Cn := RX6) (T := TX6) (Nf := 11) (v := .ref (tv_ad c 4)) C 2 (by decide) rfl rfl in_X3_stir_X6 1 (by decide) lk_X3_stir_52 rfl dX3_stir_39 ?_
  refine tv_iload C dX3_stir_42 0 rfl ?_
  refine tv_aald (Cn := RX1) (a := tv_ad c (48 + 1)) C 4 (by decide) rfl 4 rfl 1 (tn_l 1) (show 1 < 6 by omega) (by decide) rfl dX3_stir_44 ?_
  refine tv_get (ci := 1) (Cn := RX1) (T := TX1) (Nf := 2) (v := .ref (tv_ad c (54 + 1))) C (48 + 1) (by omega) (eX_at_k c s (ts_a r 3 (upd (r 3) 0 (((((0 + ((r 2 0) * (s 16 (3 * 0 + 0)))) + ((r 2 1) * (s 16 (3 * 1 + 0)))) + ((r 2 2) * (s 16 (3 * 2 + 0)))) + ((r 2 3) * (s 16 (3 * 3 + 0)))) / (sp_sd (r 2) 4)))) (by omega)) rfl in_X3_stir_X1 0 (by decide) lk_X3_stir_56 rfl dX3_stir_45 ?_
  refine tv_iload_n C dX3_stir_48 rfl 2 rfl ?_
  refine tv_iald (v := (s 16 (3 * 1 + 1))) C (54 + 1) (by omega) (eX_at_b c s (ts_a r 3 (upd (r 3) 0 (((((0 + ((r 2 0) * (s 16 (3 * 0 + 0)))) + ((r 2 1) * (s 16 (3 * 1 + 0)))) + ((r 2 2) * (s 16 (3 * 2 + 0)))) + ((r 2 3) * (s 16 (3 * 3 + 0)))) / (sp_sd (r 2) 4)))) (by omega)) 1 (tn_l 1) (show 1 < 3 by omega) (by decide) (if_pos (show 1 < 3 by omega)) dX3_stir_49 ?_
  refine tv_imul C dX3_stir_50 ?_
  refine tv_iadd C dX3_stir_51 ?_
  refine tv_istore_n (lv' := [(3, .int ((0 + ((r 2 0) * (s 16 (3 * 0 + 1)))) + ((r 2 1) * (s 16 (3 * 1 + 1))))), (4, .int 1), (2, .int 1), (1, .int (sp_sd (r 2) 4)), (0, .ref (tv_ad c 9))]) C dX3_stir_52 rfl (by decide) rfl ?_
  refine tv_iinc (v := 2) (lv' := [(4, .int 2), (3, .int ((0 + ((r 2 0) * (s 16 (3 * 0 + 1)))) + ((r 2 1) * (s 16 (3 * 1 + 1))))), (2, .int 1), (1, .int (sp_sd (r 2) 4)), (0, .ref (tv_ad c 9))]) C dX3_stir_53 1 rfl (by decide) (by decide) rfl ?_
  refine tv_goto C 21 dX3_stir_56 (by decide) ?_
  refine tv_iload C dX3_stir_21 0 rfl ?_
  refine tv_iconst (v := 4) C dX3_stir_23 (by decide) ?_
  refine tv_icmp_ge C 59 dX3_stir_24 (by decide) (fun c_11 => absurd c_11 (by decide)) (fun c_11 => ?_)
  refine tv_iload_n C dX3_stir_27 rfl 1 rfl ?_
  refine tv_aload_n C dX3_stir_28 rfl 4 rfl ?_
  refine tv_get (ci := 3) (Cn := RX3) (T := TX3) (Nf := 7) (v := .ref (tv_ad c 10)) C 9 (by decide) rfl rfl in_X3_stir_X3 1 (by decide) lk_X3_stir_9 rfl dX3_stir_29 ?_
  refine tv_iload C dX3_stir_32 0 rfl ?_
  refine tv_iald (f := (r 2)) (v := (r 2 2)) C 10 (by decide) rfl 2 (tn_l 2) (show 2 < 4 by omega) (by decide) rfl dX3_stir_34 ?_
  refine tv_aload_n C dX3_stir_35 rfl 4 rfl ?_
  refine tv_get (ci := 3) (Cn := RX3) (T := TX3) (Nf := 7) (v := .ref (tv_ad c 2)) C 9 (by decide) rfl rfl in_X3_stir_X3 0 (by decide) lk_X3_stir_28 rfl dX3_stir_36 ?_
  refine tv_get (ci := 6) (Cn := RX6) (T := TX6) (Nf := 11) (v := .ref (tv_ad c 4)) C 2 (by decide) rfl rfl in_X3_stir_X6 1 (by decide) lk_X3_stir_52 rfl dX3_stir_39 ?_
  refine tv_iload C dX3_stir_42 0 rfl ?_
  refine tv_aald (Cn := RX1) (a := tv_ad c (48 + 2)) C 4 (by decide) rfl 4 rfl 2 (tn_l 2) (show 2 < 6 by omega) (by decide) rfl dX3_stir_44 ?_
  refine tv_get (ci := 1) (Cn := RX1) (T := TX1) (Nf := 2) (v := .ref (tv_ad c (54 + 2))) C (48 + 2) (by omega) (eX_at_k c s (ts_a r 3 (upd (r 3) 0 (((((0 + ((r 2 0) * (s 16 (3 * 0 + 0)))) + ((r 2 1) * (s 16 (3 * 1 + 0)))) + ((r 2 2) * (s 16 (3 * 2 + 0)))) + ((r 2 3) * (s 16 (3 * 3 + 0)))) / (sp_sd (r 2) 4)))) (by omega)) rfl in_X3_stir_X1 0 (by decide) lk_X3_stir_56 rfl dX3_stir_45 ?_
  refine tv_iload_n C dX3_stir_48 rfl 2 rfl ?_
  refine tv_iald (v := (s 16 (3 * 2 + 1))) C (54 + 2) (by omega) (eX_at_b c s (ts_a r 3 (upd (r 3) 0 (((((0 + ((r 2 0) * (s 16 (3 * 0 + 0)))) + ((r 2 1) * (s 16 (3 * 1 + 0)))) + ((r 2 2) * (s 16 (3 * 2 + 0)))) + ((r 2 3) * (s 16 (3 * 3 + 0)))) / (sp_sd (r 2) 4)))) (by omega)) 1 (tn_l 1) (show 1 < 3 by omega) (by decide) (if_pos (show 1 < 3 by omega)) dX3_stir_49 ?_
  refine tv_imul C dX3_stir_50 ?_
  refine tv_iadd C dX3_stir_51 ?_
  refine tv_istore_n (lv' := [(3, .int (((0 + ((r 2 0) * (s 16 (3 * 0 + 1)))) + ((r 2 1) * (s 16 (3 * 1 + 1)))) + ((r 2 2) * (s 16 (3 * 2 + 1))))), (4, .int 2), (2, .int 1), (1, .int (sp_sd (r 2) 4)), (0, .ref (tv_ad c 9))]) C dX3_stir_52 rfl (by decide) rfl ?_
  refine tv_iinc (v := 3) (lv' := [(4, .int 3), (3, .int (((0 + ((r 2 0) * (s 16 (3 * 0 + 1)))) + ((r 2 1) * (s 16 (3 * 1 + 1)))) + ((r 2 2) * (s 16 (3 * 2 + 1))))), (2, .int 1), (1, .int (sp_sd (r 2) 4)), (0, .ref (tv_ad c 9))]) C dX3_stir_53 1 rfl (by decide) (by decide) rfl ?_
  refine tv_goto C 21 dX3_stir_56 (by decide) ?_
  refine tv_iload C dX3_stir_21 0 rfl ?_
  refine tv_iconst (v := 4) C dX3_stir_23 (by decide) ?_
  refine tv_icmp_ge C 59 dX3_stir_24 (by decide) (fun c_12 => absurd c_12 (by decide)) (fun c_12 => ?_)
  refine tv_iload_n C dX3_stir_27 rfl 1 rfl ?_
  refine tv_aload_n C dX3_stir_28 rfl 4 rfl ?_
  refine tv_get (ci := 3) (Cn := RX3) (T := TX3) (Nf := 7) (v := .ref (tv_ad c 10)) C 9 (by decide) rfl rfl in_X3_stir_X3 1 (by decide) lk_X3_stir_9 rfl dX3_stir_29 ?_
  refine tv_iload C dX3_stir_32 0 rfl ?_
  refine tv_iald (f := (r 2)) (v := (r 2 3)) C 10 (by decide) rfl 3 (tn_l 3) (show 3 < 4 by omega) (by decide) rfl dX3_stir_34 ?_
  refine tv_aload_n C dX3_stir_35 rfl 4 rfl ?_
  refine tv_get (ci := 3) (Cn := RX3) (T := TX3) (Nf := 7) (v := .ref (tv_ad c 2)) C 9 (by decide) rfl rfl in_X3_stir_X3 0 (by decide) lk_X3_stir_28 rfl dX3_stir_36 ?_
  refine tv_get (ci := 6) (Cn := RX6) (T := TX6) (Nf := 11) (v := .ref (tv_ad c 4)) C 2 (by decide) rfl rfl in_X3_stir_X6 1 (by decide) lk_X3_stir_52 rfl dX3_stir_39 ?_
  refine tv_iload C dX3_stir_42 0 rfl ?_
  refine tv_aald (Cn := RX1) (a := tv_ad c (48 + 3)) C 4 (by decide) rfl 4 rfl 3 (tn_l 3) (show 3 < 6 by omega) (by decide) rfl dX3_stir_44 ?_
  refine tv_get (ci := 1) (Cn := RX1) (T := TX1) (Nf := 2) (v := .ref (tv_ad c (54 + 3))) C (48 + 3) (by omega) (eX_at_k c s (ts_a r 3 (upd (r 3) 0 (((((0 + ((r 2 0) * (s 16 (3 * 0 + 0)))) + ((r 2 1) * (s 16 (3 * 1 + 0)))) + ((r 2 2) * (s 16 (3 * 2 + 0)))) + ((r 2 3) * (s 16 (3 * 3 + 0)))) / (sp_sd (r 2) 4)))) (by omega)) rfl in_X3_stir_X1 0 (by decide) lk_X3_stir_56 rfl dX3_stir_45 ?_
  refine tv_iload_n C dX3_stir_48 rfl 2 rfl ?_
  refine tv_iald (v := (s 16 (3 * 3 + 1))) C (54 + 3) (by omega) (eX_at_b c s (ts_a r 3 (upd (r 3) 0 (((((0 + ((r 2 0) * (s 16 (3 * 0 + 0)))) + ((r 2 1) * (s 16 (3 * 1 + 0)))) + ((r 2 2) * (s 16 (3 * 2 + 0)))) + ((r 2 3) * (s 16 (3 * 3 + 0)))) / (sp_sd (r 2) 4)))) (by omega)) 1 (tn_l 1) (show 1 < 3 by omega) (by decide) (if_pos (show 1 < 3 by omega)) dX3_stir_49 ?_
  refine tv_imul C dX3_stir_50 ?_
  refine tv_iadd C dX3_stir_51 ?_
  refine tv_istore_n (lv' := [(3, .int ((((0 + ((r 2 0) * (s 16 (3 * 0 + 1)))) + ((r 2 1) * (s 16 (3 * 1 + 1)))) + ((r 2 2) * (s 16 (3 * 2 + 1)))) + ((r 2 3) * (s 16 (3 * 3 + 1))))), (4, .int 3), (2, .int 1), (1, .int (sp_sd (r 2) 4)), (0, .ref (tv_ad c 9))]) C dX3_stir_52 rfl (by decide) rfl ?_
  refine tv_iinc (v := 4) (lv' := [(4, .int 4), (3, .int ((((0 + ((r 2 0) * (s 16 (3 * 0 + 1)))) + ((r 2 1) * (s 16 (3 * 1 + 1)))) + ((r 2 2) * (s 16 (3 * 2 + 1)))) + ((r 2 3) * (s 16 (3 * 3 + 1))))), (2, .int 1), (1, .int (sp_sd (r 2) 4)), (0, .ref (tv_ad c 9))]) C dX3_stir_53 1 rfl (by decide) (by decide) rfl ?_
  refine tv_goto C 21 dX3_stir_56 (by decide) ?_
  refine tv_iload C dX3_stir_21 0 rfl ?_
  refine tv_iconst (v := 4) C dX3_stir_23 (by decide) ?_
  refine tv_icmp_ge C 59 dX3_stir_24 (by decide) (fun c_13 => ?_) (fun c_13 => absurd (by decide) c_13)
  refine tv_aload_n C dX3_stir_59 rfl 4 rfl ?_
  refine tv_get (ci := 3) (Cn := RX3) (T := TX3) (Nf := 7) (v := .ref (tv_ad c 11)) C 9 (by decide) rfl rfl in_X3_stir_X3 2 (by decide) lk_X3_stir_18 rfl dX3_stir_60 ?_
  refine tv_get (ci := 1) (Cn := RX1) (T := TX1) (Nf := 2) (v := .ref (tv_ad c 12)) C 11 (by decide) rfl rfl in_X3_stir_X1 0 (by decide) lk_X3_stir_56 rfl dX3_stir_63 ?_
  refine tv_iload_n C dX3_stir_66 rfl 2 rfl ?_
  refine tv_iload_n C dX3_stir_67 rfl 1 rfl ?_
  refine tv_iload_n C dX3_stir_68 rfl 3 rfl ?_
  refine tv_idiv C (tn_ne et (by omega) (by omega)) dX3_stir_69 ?_
  refine tv_iast (E' := (eX c s (ts_a r 3 (upd (upd (r 3) 0 (((((0 + ((r 2 0) * (s 16 (3 * 0 + 0)))) + ((r 2 1) * (s 16 (3 * 1 + 0)))) + ((r 2 2) * (s 16 (3 * 2 + 0)))) + ((r 2 3) * (s 16 (3 * 3 + 0)))) / (sp_sd (r 2) 4))) 1 (((((0 + ((r 2 0) * (s 16 (3 * 0 + 1)))) + ((r 2 1) * (s 16 (3 * 1 + 1)))) + ((r 2 2) * (s 16 (3 * 2 + 1)))) + ((r 2 3) * (s 16 (3 * 3 + 1)))) / (sp_sd (r 2) 4)))))) C 12 (by decide) rfl 1 (tn_l 1) (show 1 < 3 by omega) (by decide) ((eX_u_mixedBands c s (ts_a r 3 (upd (r 3) 0 (((((0 + ((r 2 0) * (s 16 (3 * 0 + 0)))) + ((r 2 1) * (s 16 (3 * 1 + 0)))) + ((r 2 2) * (s 16 (3 * 2 + 0)))) + ((r 2 3) * (s 16 (3 * 3 + 0)))) / (sp_sd (r 2) 4)))) (upd (upd (r 3) 0 (((((0 + ((r 2 0) * (s 16 (3 * 0 + 0)))) + ((r 2 1) * (s 16 (3 * 1 + 0)))) + ((r 2 2) * (s 16 (3 * 2 + 0)))) + ((r 2 3) * (s 16 (3 * 3 + 0)))) / (sp_sd (r 2) 4))) 1 (((((0 + ((r 2 0) * (s 16 (3 * 0 + 1)))) + ((r 2 1) * (s 16 (3 * 1 + 1)))) + ((r 2 2) * (s 16 (3 * 2 + 1)))) + ((r 2 3) * (s 16 (3 * 3 + 1)))) / (sp_sd (r 2) 4)))).trans (by first | (rw [ts_mg]; done) | (rw [ts_mg]; rfl) | (rw [ts_ss]; done) | (rw [ts_ss]; rfl))) dX3_stir_70 ?_
  refine tv_iinc (v := 2) (lv' := [(2, .int 2), (4, .int 4), (3, .int ((((0 + ((r 2 0) * (s 16 (3 * 0 + 1)))) + ((r 2 1) * (s 16 (3 * 1 + 1)))) + ((r 2 2) * (s 16 (3 * 2 + 1)))) + ((r 2 3) * (s 16 (3 * 3 + 1))))), (1, .int (sp_sd (r 2) 4)), (0, .ref (tv_ad c 9))]) C dX3_stir_71 2 rfl (by decide) (by decide) rfl ?_
  refine tv_goto C 11 dX3_stir_74 (by decide) ?_
  refine tv_iload_n C dX3_stir_11 rfl 0 rfl ?_
  refine tv_iconst (v := 3) C dX3_stir_12 (by decide) ?_
  refine tv_icmp_ge C 77 dX3_stir_13 (by decide) (fun c_14 => absurd c_14 (by decide)) (fun c_14 => ?_)
  refine tv_iconst (v := 0) C dX3_stir_16 (by decide) ?_
  refine tv_istore_n (lv' := [(3, .int 0), (2, .int 2), (4, .int 4), (1, .int (sp_sd (r 2) 4)), (0, .ref (tv_ad c 9))]) C dX3_stir_17 rfl (by decide) rfl ?_
  refine tv_iconst (v := 0) C dX3_stir_18 (by decide) ?_
  refine tv_istore (lv' := [(4, .int 0), (3, .int 0), (2, .int 2), (1, .int (sp_sd (r 2) 4)), (0, .ref (tv_ad c 9))]) C dX3_stir_19 (by decide) rfl ?_
  refine tv_iload C dX3_stir_21 0 rfl ?_
  refine tv_iconst (v := 4) C dX3_stir_23 (by decide) ?_
  refine tv_icmp_ge C 59 dX3_stir_24 (by decide) (fun c_15 => absurd c_15 (by decide)) (fun c_15 => ?_)
  refine tv_iload_n C dX3_stir_27 rfl 1 rfl ?_
  refine tv_aload_n C dX3_stir_28 rfl 4 rfl ?_
  refine tv_get (ci := 3) (Cn := RX3) (T := TX3) (Nf := 7) (v := .ref (tv_ad c 10)) C 9 (by decide) rfl rfl in_X3_stir_X3 1 (by decide) lk_X3_stir_9 rfl dX3_stir_29 ?_
  refine tv_iload C dX3_stir_32 0 rfl ?_
  refine tv_iald (f := (r 2)) (v := (r 2 0)) C 10 (by decide) rfl 0 (tn_l 0) (show 0 < 4 by omega) (by decide) rfl dX3_stir_34 ?_
  refine tv_aload_n C dX3_stir_35 rfl 4 rfl ?_
  refine tv_get (ci := 3) (Cn := RX3) (T := TX3) (Nf := 7) (v := .ref (tv_ad c 2)) C 9 (by decide) rfl rfl in_X3_stir_X3 0 (by decide) lk_X3_stir_28 rfl dX3_stir_36 ?_
  refine tv_get (ci := 6) (Cn := RX6) (T := TX6) (Nf := 11) (v := .ref (tv_ad c 4)) C 2 (by decide) rfl rfl in_X3_stir_X6 1 (by decide) lk_X3_stir_52 rfl dX3_stir_39 ?_
  refine tv_iload C dX3_stir_42 0 rfl ?_
  refine tv_aald (Cn := RX1) (a := tv_ad c (48 + 0)) C 4 (by decide) rfl 4 rfl 0 (tn_l 0) (show 0 < 6 by omega) (by decide) rfl dX3_stir_44 ?_
  refine tv_get (ci := 1) (Cn := RX1) (T := TX1) (Nf := 2) (v := .ref (tv_ad c (54 + 0))) C (48 + 0) (by omega) (eX_at_k c s (ts_a r 3 (upd (upd (r 3) 0 (((((0 + ((r 2 0) * (s 16 (3 * 0 + 0)))) + ((r 2 1) * (s 16 (3 * 1 + 0)))) + ((r 2 2) * (s 16 (3 * 2 + 0)))) + ((r 2 3) * (s 16 (3 * 3 + 0)))) / (sp_sd (r 2) 4))) 1 (((((0 + ((r 2 0) * (s 16 (3 * 0 + 1)))) + ((r 2 1) * (s 16 (3 * 1 + 1)))) + ((r 2 2) * (s 16 (3 * 2 + 1)))) + ((r 2 3) * (s 16 (3 * 3 + 1)))) / (sp_sd (r 2) 4)))) (by omega)) rfl in_X3_stir_X1 0 (by decide) lk_X3_stir_56 rfl dX3_stir_45 ?_
  refine tv_iload_n C dX3_stir_48 rfl 2 rfl ?_
  refine tv_iald (v := (s 16 (3 * 0 + 2))) C (54 + 0) (by omega) (eX_at_b c s (ts_a r 3 (upd (upd (r 3) 0 (((((0 + ((r 2 0) * (s 16 (3 * 0 + 0)))) + ((r 2 1) * (s 16 (3 * 1 + 0)))) + ((r 2 2) * (s 16 (3 * 2 + 0)))) + ((r 2 3) * (s 16 (3 * 3 + 0)))) / (sp_sd (r 2) 4))) 1 (((((0 + ((r 2 0) * (s 16 (3 * 0 + 1)))) + ((r 2 1) * (s 16 (3 * 1 + 1)))) + ((r 2 2) * (s 16 (3 * 2 + 1)))) + ((r 2 3) * (s 16 (3 * 3 + 1)))) / (sp_sd (r 2) 4)))) (by omega)) 2 (tn_l 2) (show 2 < 3 by omega) (by decide) (if_pos (show 2 < 3 by omega)) dX3_stir_49 ?_
  refine tv_imul C dX3_stir_50 ?_
  refine tv_iadd C dX3_stir_51 ?_
  refine tv_istore_n (lv' := [(3, .int (0 + ((r 2 0) * (s 16 (3 * 0 + 2))))), (4, .int 0), (2, .int 2), (1, .int (sp_sd (r 2) 4)), (0, .ref (tv_ad c 9))]) C dX3_stir_52 rfl (by decide) rfl ?_
  refine tv_iinc (v := 1) (lv' := [(4, .int 1), (3, .int (0 + ((r 2 0) * (s 16 (3 * 0 + 2))))), (2, .int 2), (1, .int (sp_sd (r 2) 4)), (0, .ref (tv_ad c 9))]) C dX3_stir_53 1 rfl (by decide) (by decide) rfl ?_
  refine tv_goto C 21 dX3_stir_56 (by decide) ?_
  refine tv_iload C dX3_stir_21 0 rfl ?_
  refine tv_iconst (v := 4) C dX3_stir_23 (by decide) ?_
  refine tv_icmp_ge C 59 dX3_stir_24 (by decide) (fun c_16 => absurd c_16 (by decide)) (fun c_16 => ?_)
  refine tv_iload_n C dX3_stir_27 rfl 1 rfl ?_
  refine tv_aload_n C dX3_stir_28 rfl 4 rfl ?_
  refine tv_get (ci := 3) (Cn := RX3) (T := TX3) (Nf := 7) (v := .ref (tv_ad c 10)) C 9 (by decide) rfl rfl in_X3_stir_X3 1 (by decide) lk_X3_stir_9 rfl dX3_stir_29 ?_
  refine tv_iload C dX3_stir_32 0 rfl ?_
  refine tv_iald (f := (r 2)) (v := (r 2 1)) C 10 (by decide) rfl 1 (tn_l 1) (show 1 < 4 by omega) (by decide) rfl dX3_stir_34 ?_
  refine tv_aload_n C dX3_stir_35 rfl 4 rfl ?_
  refine tv_get (ci := 3) (Cn := RX3) (T := TX3) (Nf := 7) (v := .ref (tv_ad c 2)) C 9 (by decide) rfl rfl in_X3_stir_X3 0 (by decide) lk_X3_stir_28 rfl dX3_stir_36 ?_
  refine tv_get (ci := 6) (Cn := RX6) (T := TX6) (Nf := 11) (v := .ref (tv_ad c 4)) C 2 (by decide) rfl rfl in_X3_stir_X6 1 (by decide) lk_X3_stir_52 rfl dX3_stir_39 ?_
  refine tv_iload C dX3_stir_42 0 rfl ?_
  refine tv_aald (Cn := RX1) (a := tv_ad c (48 + 1)) C 4 (by decide) rfl 4 rfl 1 (tn_l 1) (show 1 < 6 by omega) (by decide) rfl dX3_stir_44 ?_
  refine tv_get (ci := 1) (Cn := RX1) (T := TX1) (Nf := 2) (v := .ref (tv_ad c (54 + 1))) C (48 + 1) (by omega) (eX_at_k c s (ts_a r 3 (upd (upd (r 3) 0 (((((0 + ((r 2 0) * (s 16 (3 * 0 + 0)))) + ((r 2 1) * (s 16 (3 * 1 + 0)))) + ((r 2 2) * (s 16 (3 * 2 + 0)))) + ((r 2 3) * (s 16 (3 * 3 + 0)))) / (sp_sd (r 2) 4))) 1 (((((0 + ((r 2 0) * (s 16 (3 * 0 + 1)))) + ((r 2 1) * (s 16 (3 * 1 + 1)))) + ((r 2 2) * (s 16 (3 * 2 + 1)))) + ((r 2 3) * (s 16 (3 * 3 + 1)))) / (sp_sd (r 2) 4)))) (by omega)) rfl in_X3_stir_X1 0 (by decide) lk_X3_stir_56 rfl dX3_stir_45 ?_
  refine tv_iload_n C dX3_stir_48 rfl 2 rfl ?_
  refine tv_iald (v := (s 16 (3 * 1 + 2))) C (54 + 1) (by omega) (eX_at_b c s (ts_a r 3 (upd (upd (r 3) 0 (((((0 + ((r 2 0) * (s 16 (3 * 0 + 0)))) + ((r 2 1) * (s 16 (3 * 1 + 0)))) + ((r 2 2) * (s 16 (3 * 2 + 0)))) + ((r 2 3) * (s 16 (3 * 3 + 0)))) / (sp_sd (r 2) 4))) 1 (((((0 + ((r 2 0) * (s 16 (3 * 0 + 1)))) + ((r 2 1) * (s 16 (3 * 1 + 1)))) + ((r 2 2) * (s 16 (3 * 2 + 1)))) + ((r 2 3) * (s 16 (3 * 3 + 1)))) / (sp_sd (r 2) 4)))) (by omega)) 2 (tn_l 2) (show 2 < 3 by omega) (by decide) (if_pos (show 2 < 3 by omega)) dX3_stir_49 ?_
  refine tv_imul C dX3_stir_50 ?_
  refine tv_iadd C dX3_stir_51 ?_
  refine tv_istore_n (lv' := [(3, .int ((0 + ((r 2 0) * (s 16 (3 * 0 + 2)))) + ((r 2 1) * (s 16 (3 * 1 + 2))))), (4, .int 1), (2, .int 2), (1, .int (sp_sd (r 2) 4)), (0, .ref (tv_ad c 9))]) C dX3_stir_52 rfl (by decide) rfl ?_
  refine tv_iinc (v := 2) (lv' := [(4, .int 2), (3, .int ((0 + ((r 2 0) * (s 16 (3 * 0 + 2)))) + ((r 2 1) * (s 16 (3 * 1 + 2))))), (2, .int 2), (1, .int (sp_sd (r 2) 4)), (0, .ref (tv_ad c 9))]) C dX3_stir_53 1 rfl (by decide) (by decide) rfl ?_
  refine tv_goto C 21 dX3_stir_56 (by decide) ?_
  refine tv_iload C dX3_stir_21 0 rfl ?_
  refine tv_iconst (v := 4) C dX3_stir_23 (by decide) ?_
  refine tv_icmp_ge C 59 dX3_stir_24 (by decide) (fun c_17 => absurd c_17 (by decide)) (fun c_17 => ?_)
  refine tv_iload_n C dX3_stir_27 rfl 1 rfl ?_
  refine tv_aload_n C dX3_stir_28 rfl 4 rfl ?_
  refine tv_get (ci := 3) (Cn := RX3) (T := TX3) (Nf := 7) (v := .ref (tv_ad c 10)) C 9 (by decide) rfl rfl in_X3_stir_X3 1 (by decide) lk_X3_stir_9 rfl dX3_stir_29 ?_
  refine tv_iload C dX3_stir_32 0 rfl ?_
  refine tv_iald (f := (r 2)) (v := (r 2 2)) C 10 (by decide) rfl 2 (tn_l 2) (show 2 < 4 by omega) (by decide) rfl dX3_stir_34 ?_
  refine tv_aload_n C dX3_stir_35 rfl 4 rfl ?_
  refine tv_get (ci := 3) (Cn := RX3) (T := TX3) (Nf := 7) (v := .ref (tv_ad c 2)) C 9 (by decide) rfl rfl in_X3_stir_X3 0 (by decide) lk_X3_stir_28 rfl dX3_stir_36 ?_
  refine tv_get (ci := 6) (Cn := RX6) (T := TX6) (Nf := 11) (v := .ref (tv_ad c 4)) C 2 (by decide) rfl rfl in_X3_stir_X6 1 (by decide) lk_X3_stir_52 rfl dX3_stir_39 ?_
  refine tv_iload C dX3_stir_42 0 rfl ?_
  refine tv_aald (Cn := RX1) (a := tv_ad c (48 + 2)) C 4 (by decide) rfl 4 rfl 2 (tn_l 2) (show 2 < 6 by omega) (by decide) rfl dX3_stir_44 ?_
  refine tv_get (ci := 1) (Cn := RX1) (T := TX1) (Nf := 2) (v := .ref (tv_ad c (54 + 2))) C (48 + 2) (by omega) (eX_at_k c s (ts_a r 3 (upd (upd (r 3) 0 (((((0 + ((r 2 0) * (s 16 (3 * 0 + 0)))) + ((r 2 1) * (s 16 (3 * 1 + 0)))) + ((r 2 2) * (s 16 (3 * 2 + 0)))) + ((r 2 3) * (s 16 (3 * 3 + 0)))) / (sp_sd (r 2) 4))) 1 (((((0 + ((r 2 0) * (s 16 (3 * 0 + 1)))) + ((r 2 1) * (s 16 (3 * 1 + 1)))) + ((r 2 2) * (s 16 (3 * 2 + 1)))) + ((r 2 3) * (s 16 (3 * 3 + 1)))) / (sp_sd (r 2) 4)))) (by omega)) rfl in_X3_stir_X1 0 (by decide) lk_X3_stir_56 rfl dX3_stir_45 ?_
  refine tv_iload_n C dX3_stir_48 rfl 2 rfl ?_
  refine tv_iald (v := (s 16 (3 * 2 + 2))) C (54 + 2) (by omega) (eX_at_b c s (ts_a r 3 (upd (upd (r 3) 0 (((((0 + ((r 2 0) * (s 16 (3 * 0 + 0)))) + ((r 2 1) * (s 16 (3 * 1 + 0)))) + ((r 2 2) * (s 16 (3 * 2 + 0)))) + ((r 2 3) * (s 16 (3 * 3 + 0)))) / (sp_sd (r 2) 4))) 1 (((((0 + ((r 2 0) * (s 16 (3 * 0 + 1)))) + ((r 2 1) * (s 16 (3 * 1 + 1)))) + ((r 2 2) * (s 16 (3 * 2 + 1)))) + ((r 2 3) * (s 16 (3 * 3 + 1)))) / (sp_sd (r 2) 4)))) (by omega)) 2 (tn_l 2) (show 2 < 3 by omega) (by decide) (if_pos (show 2 < 3 by omega)) dX3_stir_49 ?_
  refine tv_imul C dX3_stir_50 ?_
  refine tv_iadd C dX3_stir_51 ?_
  refine tv_istore_n (lv' := [(3, .int (((0 + ((r 2 0) * (s 16 (3 * 0 + 2)))) + ((r 2 1) * (s 16 (3 * 1 + 2)))) + ((r 2 2) * (s 16 (3 * 2 + 2))))), (4, .int 2), (2, .int 2), (1, .int (sp_sd (r 2) 4)), (0, .ref (tv_ad c 9))]) C dX3_stir_52 rfl (by decide) rfl ?_
  refine tv_iinc (v := 3) (lv' := [(4, .int 3), (3, .int (((0 + ((r 2 0) * (s 16 (3 * 0 + 2)))) + ((r 2 1) * (s 16 (3 * 1 + 2)))) + ((r 2 2) * (s 16 (3 * 2 + 2))))), (2, .int 2), (1, .int (sp_sd (r 2) 4)), (0, .ref (tv_ad c 9))]) C dX3_stir_53 1 rfl (by decide) (by decide) rfl ?_
  refine tv_goto C 21 dX3_stir_56 (by decide) ?_
  refine tv_iload C dX3_stir_21 0 rfl ?_
  refine tv_iconst (v := 4) C dX3_stir_23 (by decide) ?_
  refine tv_icmp_ge C 59 dX3_stir_24 (by decide) (fun c_18 => absurd c_18 (by decide)) (fun c_18 => ?_)
  refine tv_iload_n C dX3_stir_27 rfl 1 rfl ?_
  refine tv_aload_n C dX3_stir_28 rfl 4 rfl ?_
  refine tv_get (ci := 3) (Cn := RX3) (T := TX3) (Nf := 7) (v := .ref (tv_ad c 10)) C 9 (by decide) rfl rfl in_X3_stir_X3 1 (by decide) lk_X3_stir_9 rfl dX3_stir_29 ?_
  refine tv_iload C dX3_stir_32 0 rfl ?_
  refine tv_iald (f := (r 2)) (v := (r 2 3)) C 10 (by decide) rfl 3 (tn_l 3) (show 3 < 4 by omega) (by decide) rfl dX3_stir_34 ?_
  refine tv_aload_n C dX3_stir_35 rfl 4 rfl ?_
  refine tv_get (ci := 3) (Cn := RX3) (T := TX3) (Nf := 7) (v := .ref (tv_ad c 2)) C 9 (by decide) rfl rfl in_X3_stir_X3 0 (by decide) lk_X3_stir_28 rfl dX3_stir_36 ?_
  refine tv_get (ci := 6) (Cn := RX6) (T := TX6) (Nf := 11) (v := .ref (tv_ad c 4)) C 2 (by decide) rfl rfl in_X3_stir_X6 1 (by decide) lk_X3_stir_52 rfl dX3_stir_39 ?_
  refine tv_iload C dX3_stir_42 0 rfl ?_
  refine tv_aald (Cn := RX1) (a := tv_ad c (48 + 3)) C 4 (by decide) rfl 4 rfl 3 (tn_l 3) (show 3 < 6 by omega) (by decide) rfl dX3_stir_44 ?_
  refine tv_get (ci := 1) (Cn := RX1) (T := TX1) (Nf := 2) (v := .ref (tv_ad c (54 + 3))) C (48 + 3) (by omega) (eX_at_k c s (ts_a r 3 (upd (upd (r 3) 0 (((((0 + ((r 2 0) * (s 16 (3 * 0 + 0)))) + ((r 2 1) * (s 16 (3 * 1 + 0)))) + ((r 2 2) * (s 16 (3 * 2 + 0)))) + ((r 2 3) * (s 16 (3 * 3 + 0)))) / (sp_sd (r 2) 4))) 1 (((((0 + ((r 2 0) * (s 16 (3 * 0 + 1)))) + ((r 2 1) * (s 16 (3 * 1 + 1)))) + ((r 2 2) * (s 16 (3 * 2 + 1)))) + ((r 2 3) * (s 16 (3 * 3 + 1)))) / (sp_sd (r 2) 4)))) (by omega)) rfl in_X3_stir_X1 0 (by decide) lk_X3_stir_56 rfl dX3_stir_45 ?_
  refine tv_iload_n C dX3_stir_48 rfl 2 rfl ?_
  refine tv_iald (v := (s 16 (3 * 3 + 2))) C (54 + 3) (by omega) (eX_at_b c s (ts_a r 3 (upd (upd (r 3) 0 (((((0 + ((r 2 0) * (s 16 (3 * 0 + 0)))) + ((r 2 1) * (s 16 (3 * 1 + 0)))) + ((r 2 2) * (s 16 (3 * 2 + 0)))) + ((r 2 3) * (s 16 (3 * 3 + 0)))) / (sp_sd (r 2) 4))) 1 (((((0 + ((r 2 0) * (s 16 (3 * 0 + 1)))) + ((r 2 1) * (s 16 (3 * 1 + 1)))) + ((r 2 2) * (s 16 (3 * 2 + 1)))) + ((r 2 3) * (s 16 (3 * 3 + 1)))) / (sp_sd (r 2) 4)))) (by omega)) 2 (tn_l 2) (show 2 < 3 by omega) (by decide) (if_pos (show 2 < 3 by omega)) dX3_stir_49 ?_
  refine tv_imul C dX3_stir_50 ?_
  refine tv_iadd C dX3_stir_51 ?_
  refine tv_istore_n (lv' := [(3, .int ((((0 + ((r 2 0) * (s 16 (3 * 0 + 2)))) + ((r 2 1) * (s 16 (3 * 1 + 2)))) + ((r 2 2) * (s 16 (3 * 2 + 2)))) + ((r 2 3) * (s 16 (3 * 3 + 2))))), (4, .int 3), (2, .int 2), (1, .int (sp_sd (r 2) 4)), (0, .ref (tv_ad c 9))]) C dX3_stir_52 rfl (by decide) rfl ?_
  refine tv_iinc (v := 4) (lv' := [(4, .int 4), (3, .int ((((0 + ((r 2 0) * (s 16 (3 * 0 + 2)))) + ((r 2 1) * (s 16 (3 * 1 + 2)))) + ((r 2 2) * (s 16 (3 * 2 + 2)))) + ((r 2 3) * (s 16 (3 * 3 + 2))))), (2, .int 2), (1, .int (sp_sd (r 2) 4)), (0, .ref (tv_ad c 9))]) C dX3_stir_53 1 rfl (by decide) (by decide) rfl ?_
  refine tv_goto C 21 dX3_stir_56 (by decide) ?_
  refine tv_iload C dX3_stir_21 0 rfl ?_
  refine tv_iconst (v := 4) C dX3_stir_23 (by decide) ?_
  refine tv_icmp_ge C 59 dX3_stir_24 (by decide) (fun c_19 => ?_) (fun c_19 => absurd (by decide) c_19)
  refine tv_aload_n C dX3_stir_59 rfl 4 rfl ?_
  refine tv_get (ci := 3) (Cn := RX3) (T := TX3) (Nf := 7) (v := .ref (tv_ad c 11)) C 9 (by decide) rfl rfl in_X3_stir_X3 2 (by decide) lk_X3_stir_18 rfl dX3_stir_60 ?_
  refine tv_get (ci := 1) (Cn := RX1) (T := TX1) (Nf := 2) (v := .ref (tv_ad c 12)) C 11 (by decide) rfl rfl in_X3_stir_X1 0 (by decide) lk_X3_stir_56 rfl dX3_stir_63 ?_
  refine tv_iload_n C dX3_stir_66 rfl 2 rfl ?_
  refine tv_iload_n C dX3_stir_67 rfl 1 rfl ?_
  refine tv_iload_n C dX3_stir_68 rfl 3 rfl ?_
  refine tv_idiv C (tn_ne et (by omega) (by omega)) dX3_stir_69 ?_
  refine tv_iast (E' := (eX c s (ts_a r 3 (upd (upd (upd (r 3) 0 (((((0 + ((r 2 0) * (s 16 (3 * 0 + 0)))) + ((r 2 1) * (s 16 (3 * 1 + 0)))) + ((r 2 2) * (s 16 (3 * 2 + 0)))) + ((r 2 3) * (s 16 (3 * 3 + 0)))) / (sp_sd (r 2) 4))) 1 (((((0 + ((r 2 0) * (s 16 (3 * 0 + 1)))) + ((r 2 1) * (s 16 (3 * 1 + 1)))) + ((r 2 2) * (s 16 (3 * 2 + 1)))) + ((r 2 3) * (s 16 (3 * 3 + 1)))) / (sp_sd (r 2) 4))) 2 (((((0 + ((r 2 0) * (s 16 (3 * 0 + 2)))) + ((r 2 1) * (s 16 (3 * 1 + 2)))) + ((r 2 2) * (s 16 (3 * 2 + 2)))) + ((r 2 3) * (s 16 (3 * 3 + 2)))) / (sp_sd (r 2) 4)))))) C 12 (by decide) rfl 2 (tn_l 2) (show 2 < 3 by omega) (by decide) ((eX_u_mixedBands c s (ts_a r 3 (upd (upd (r 3) 0 (((((0 + ((r 2 0) * (s 16 (3 * 0 + 0)))) + ((r 2 1) * (s 16 (3 * 1 + 0)))) + ((r 2 2) * (s 16 (3 * 2 + 0)))) + ((r 2 3) * (s 16 (3 * 3 + 0)))) / (sp_sd (r 2) 4))) 1 (((((0 + ((r 2 0) * (s 16 (3 * 0 + 1)))) + ((r 2 1) * (s 16 (3 * 1 + 1)))) + ((r 2 2) * (s 16 (3 * 2 + 1)))) + ((r 2 3) * (s 16 (3 * 3 + 1)))) / (sp_sd (r 2) 4)))) (upd (upd (upd (r 3) 0 (((((0 + ((r 2 0) * (s 16 (3 * 0 + 0)))) + ((r 2 1) * (s 16 (3 * 1 + 0)))) + ((r 2 2) * (s 16 (3 * 2 + 0)))) + ((r 2 3) * (s 16 (3 * 3 + 0)))) / (sp_sd (r 2) 4))) 1 (((((0 + ((r 2 0) * (s 16 (3 * 0 + 1)))) + ((r 2 1) * (s 16 (3 * 1 + 1)))) + ((r 2 2) * (s 16 (3 * 2 + 1)))) + ((r 2 3) * (s 16 (3 * 3 + 1)))) / (sp_sd (r 2) 4))) 2 (((((0 + ((r 2 0) * (s 16 (3 * 0 + 2)))) + ((r 2 1) * (s 16 (3 * 1 + 2)))) + ((r 2 2) * (s 16 (3 * 2 + 2)))) + ((r 2 3) * (s 16 (3 * 3 + 2)))) / (sp_sd (r 2) 4)))).trans (by first | (rw [ts_mg]; done) | (rw [ts_mg]; rfl) | (rw [ts_ss]; done) | (rw [ts_ss]; rfl))) dX3_stir_70 ?_
  refine tv_iinc (v := 3) (lv' := [(2, .int 3), (4, .int 4), (3, .int ((((0 + ((r 2 0) * (s 16 (3 * 0 + 2)))) + ((r 2 1) * (s 16 (3 * 1 + 2)))) + ((r 2 2) * (s 16 (3 * 2 + 2)))) + ((r 2 3) * (s 16 (3 * 3 + 2))))), (1, .int (sp_sd (r 2) 4)), (0, .ref (tv_ad c 9))]) C dX3_stir_71 2 rfl (by decide) (by decide) rfl ?_
  refine tv_goto C 11 dX3_stir_74 (by decide) ?_
  refine tv_iload_n C dX3_stir_11 rfl 0 rfl ?_
  refine tv_iconst (v := 3) C dX3_stir_12 (by decide) ?_
  refine tv_icmp_ge C 77 dX3_stir_13 (by decide) (fun c_20 => ?_) (fun c_20 => absurd (by decide) c_20)
  refine tv_aload_n C dX3_stir_77 rfl 4 rfl ?_
  refine tv_get (ci := 3) (Cn := RX3) (T := TX3) (Nf := 7) (v := .ref (tv_ad c 11)) C 9 (by decide) rfl rfl in_X3_stir_X3 2 (by decide) lk_X3_stir_18 rfl dX3_stir_78 ?_
  refine tv_aload_n C dX3_stir_81 rfl 4 rfl ?_
  refine tv_get (ci := 3) (Cn := RX3) (T := TX3) (Nf := 7) (v := .ref (tv_ad c 2)) C 9 (by decide) rfl rfl in_X3_stir_X3 0 (by decide) lk_X3_stir_28 rfl dX3_stir_82 ?_
  refine tv_get (ci := 6) (Cn := RX6) (T := TX6) (Nf := 11) (v := .ref (tv_ad c 4)) C 2 (by decide) rfl rfl in_X3_stir_X6 1 (by decide) lk_X3_stir_52 rfl dX3_stir_85 ?_
  refine tv_aload_n C dX3_stir_88 rfl 4 rfl ?_
  refine tv_calli (As := []) (rest := [.ref (tv_ad c 4), .ref (tv_ad c 11)]) (ci := 3) (cn := RX3) (T := TX3) (Nf := 7) C 9 (kX3_leastInIt c s (ts_a r 3 (upd (upd (upd (r 3) 0 (((((0 + ((r 2 0) * (s 16 (3 * 0 + 0)))) + ((r 2 1) * (s 16 (3 * 1 + 0)))) + ((r 2 2) * (s 16 (3 * 2 + 0)))) + ((r 2 3) * (s 16 (3 * 3 + 0)))) / (sp_sd (r 2) 4))) 1 (((((0 + ((r 2 0) * (s 16 (3 * 0 + 1)))) + ((r 2 1) * (s 16 (3 * 1 + 1)))) + ((r 2 2) * (s 16 (3 * 2 + 1)))) + ((r 2 3) * (s 16 (3 * 3 + 1)))) / (sp_sd (r 2) 4))) 2 (((((0 + ((r 2 0) * (s 16 (3 * 0 + 2)))) + ((r 2 1) * (s 16 (3 * 1 + 2)))) + ((r 2 2) * (s 16 (3 * 2 + 2)))) + ((r 2 3) * (s 16 (3 * 3 + 2)))) / (sp_sd (r 2) 4))))   ) gX3_stir_X3_leastInIt rfl yd_X3_leastInIt ⟨rfl, rfl⟩ (by decide) (by decide) rfl rfl rfl rfl (Nat.le_of_ble_eq_true rfl) dX3_stir_89 (fun q_21 u_21 z_21 => ?_)
  obtain ⟨rfl, rfl⟩ := z_21
  show tv_V c 60 X (eX c s (ts_a r 3 (upd (upd (upd (r 3) 0 (((((0 + ((r 2 0) * (s 16 (3 * 0 + 0)))) + ((r 2 1) * (s 16 (3 * 1 + 0)))) + ((r 2 2) * (s 16 (3 * 2 + 0)))) + ((r 2 3) * (s 16 (3 * 3 + 0)))) / (sp_sd (r 2) 4))) 1 (((((0 + ((r 2 0) * (s 16 (3 * 0 + 1)))) + ((r 2 1) * (s 16 (3 * 1 + 1)))) + ((r 2 2) * (s 16 (3 * 2 + 1)))) + ((r 2 3) * (s 16 (3 * 3 + 1)))) / (sp_sd (r 2) 4))) 2 (((((0 + ((r 2 0) * (s 16 (3 * 0 + 2)))) + ((r 2 1) * (s 16 (3 * 1 + 2)))) + ((r 2 2) * (s 16 (3 * 2 + 2)))) + ((r 2 3) * (s 16 (3 * 3 + 2)))) / (sp_sd (r 2) 4))))) 92 [(2, .int 3), (4, .int 4), (3, .int ((((0 + ((r 2 0) * (s 16 (3 * 0 + 2)))) + ((r 2 1) * (s 16 (3 * 1 + 2)))) + ((r 2 2) * (s 16 (3 * 2 + 2)))) + ((r 2 3) * (s 16 (3 * 3 + 2))))), (1, .int (sp_sd (r 2) 4)), (0, .ref (tv_ad c 9))] [.int (nI (sp_li (r 2))), .ref (tv_ad c 4), .ref (tv_ad c 11)]
  refine tv_aald (Cn := RX1) (a := tv_ad c (48 + (sp_li (r 2)))) C 4 (by decide) rfl 4 rfl (sp_li (r 2)) rfl (show sp_li (r 2) < 6 by omega) (by decide) rfl dX3_stir_92 ?_
  refine tv_get (ci := 1) (Cn := RX1) (T := TX1) (Nf := 2) (v := .int (s 15 (sp_li (r 2)))) C (48 + (sp_li (r 2))) (by omega) (eX_at_k c s (ts_a r 3 (upd (upd (upd (r 3) 0 (((((0 + ((r 2 0) * (s 16 (3 * 0 + 0)))) + ((r 2 1) * (s 16 (3 * 1 + 0)))) + ((r 2 2) * (s 16 (3 * 2 + 0)))) + ((r 2 3) * (s 16 (3 * 3 + 0)))) / (sp_sd (r 2) 4))) 1 (((((0 + ((r 2 0) * (s 16 (3 * 0 + 1)))) + ((r 2 1) * (s 16 (3 * 1 + 1)))) + ((r 2 2) * (s 16 (3 * 2 + 1)))) + ((r 2 3) * (s 16 (3 * 3 + 1)))) / (sp_sd (r 2) 4))) 2 (((((0 + ((r 2 0) * (s 16 (3 * 0 + 2)))) + ((r 2 1) * (s 16 (3 * 1 + 2)))) + ((r 2 2) * (s 16 (3 * 2 + 2)))) + ((r 2 3) * (s 16 (3 * 3 + 2)))) / (sp_sd (r 2) 4)))) (by omega)) rfl in_X3_stir_X1 1 (by decide) lk_X3_stir_62 rfl dX3_stir_93 ?_
  refine tv_put (ci := 1) (Cn := RX1) (T := TX1) (Nf := 2) (ty := .int) (E' := (eX c s (ts_s (ts_a r 3 (upd (upd (upd (r 3) 0 (((((0 + ((r 2 0) * (s 16 (3 * 0 + 0)))) + ((r 2 1) * (s 16 (3 * 1 + 0)))) + ((r 2 2) * (s 16 (3 * 2 + 0)))) + ((r 2 3) * (s 16 (3 * 3 + 0)))) / (sp_sd (r 2) 4))) 1 (((((0 + ((r 2 0) * (s 16 (3 * 0 + 1)))) + ((r 2 1) * (s 16 (3 * 1 + 1)))) + ((r 2 2) * (s 16 (3 * 2 + 1)))) + ((r 2 3) * (s 16 (3 * 3 + 1)))) / (sp_sd (r 2) 4))) 2 (((((0 + ((r 2 0) * (s 16 (3 * 0 + 2)))) + ((r 2 1) * (s 16 (3 * 1 + 2)))) + ((r 2 2) * (s 16 (3 * 2 + 2)))) + ((r 2 3) * (s 16 (3 * 3 + 2)))) / (sp_sd (r 2) 4)))) 6 (s 15 (sp_li (r 2)))))) C 11 (by decide) rfl rfl in_X3_stir_X1 tyX1 tyX1_ok nmX1 1 (by decide) lk_X3_stir_62 rfl (by decide +kernel) rfl rfl (Nat.le_of_ble_eq_true rfl) (eX_u_mixedKind c s (ts_a r 3 (upd (upd (upd (r 3) 0 (((((0 + ((r 2 0) * (s 16 (3 * 0 + 0)))) + ((r 2 1) * (s 16 (3 * 1 + 0)))) + ((r 2 2) * (s 16 (3 * 2 + 0)))) + ((r 2 3) * (s 16 (3 * 3 + 0)))) / (sp_sd (r 2) 4))) 1 (((((0 + ((r 2 0) * (s 16 (3 * 0 + 1)))) + ((r 2 1) * (s 16 (3 * 1 + 1)))) + ((r 2 2) * (s 16 (3 * 2 + 1)))) + ((r 2 3) * (s 16 (3 * 3 + 1)))) / (sp_sd (r 2) 4))) 2 (((((0 + ((r 2 0) * (s 16 (3 * 0 + 2)))) + ((r 2 1) * (s 16 (3 * 1 + 2)))) + ((r 2 2) * (s 16 (3 * 2 + 2)))) + ((r 2 3) * (s 16 (3 * 3 + 2)))) / (sp_sd (r 2) 4)))) (s 15 (sp_li (r 2)))) dX3_stir_96 ?_
  refine tv_aload_n C dX3_stir_99 rfl 4 rfl ?_
  refine tv_get (ci := 3) (Cn := RX3) (T := TX3) (Nf := 7) (v := .ref (tv_ad c 11)) C 9 (by decide) rfl rfl in_X3_stir_X3 2 (by decide) lk_X3_stir_18 rfl dX3_stir_100 ?_
  exact hR _ _ _ dX3_stir_103 (by rfl)
set_option maxHeartbeats 4000000 in
set_option maxRecDepth 100000 in
theorem kX3_farthestApart (c : tv_c) (s r : ts_T)  (hI : iv s) (hmb : ∀ b, b < 3 → tn_b (cp_v s r 6 b) 99) : tv_Fi c 60 yX3_farthestApart wsX3_farthestApart { frames := 3, cells := 0, slots := 0, locals := 78 } [.ref (tv_ad c 9)] (eX c s r) (sp_ff s r (2 * tk (s 8 0))) (eX c s r) := by
  refine tv_metI (by decide +kernel) rfl rfl (Nat.le_of_ble_eq_true rfl) (fun X C hR => ?_)
  show tv_V c 60 X (eX c s r) 0 [(0, .ref (tv_ad c 9))] []
  have hC := iv.hC hI
  obtain ⟨h, w, n, nk, nl, ny, nm, li, e2, e3, e9, hnw, hh, hw, hn, hz, hp, e7, hk, e8, hl, e4, hy, e5, hm, e6, hli, hcel, hkin, hban, hwei, hshe⟩ := id hI
  have ek8 := tk_e e8 (by omega)
  refine tv_iconst (v := 0) C dX3_farthestApart_0 (by decide) ?_
  refine tv_istore_n (lv' := [(1, .int 0), (0, .ref (tv_ad c 9))]) C dX3_farthestApart_1 rfl (by decide) rfl ?_
  refine tv_iconst (v := 0) C dX3_farthestApart_2 (by decide) ?_
  refine tv_istore_n (lv' := [(2, .int 0), (1, .int 0), (0, .ref (tv_ad c 9))]) C dX3_farthestApart_3 rfl (by decide) rfl ?_
  have hL4 : ∀ (k_4 m : Nat) (x_4_1 : Int32) (x_4_2 : Int32), m + k_4 = (2 * nl) → x_4_1 = (sp_ff s r m) → x_4_2 = (nI m) → tv_V c 60 X (eX c s r) 4 [(0, .ref (tv_ad c 9)), (1, .int x_4_1), (2, .int x_4_2)] [] := by
    intro k_4
    induction k_4 with
    | zero =>
      intro m x_4_1 x_4_2 hi4  ex_4_1 ex_4_2
      subst ex_4_1
      subst ex_4_2
      have hN4 : m = (2 * nl) := by omega
      refine tv_iload_n C dX3_farthestApart_4 rfl 2 rfl ?_
      refine tv_aload_n C dX3_farthestApart_5 rfl 0 rfl ?_
      refine tv_get (ci := 3) (Cn := RX3) (T := TX3) (Nf := 7) (v := .ref (tv_ad c 2)) C 9 (by decide) rfl rfl in_X3_farthestApart_X3 0 (by decide) lk_X3_farthestApart_28 rfl dX3_farthestApart_6 ?_
      refine tv_calli (As := []) (rest := [.int (nI m)]) (ci := 6) (cn := RX6) (T := TX6) (Nf := 11) C 2 (kX6_views c s r   ) gX3_farthestApart_X6_views rfl yd_X6_views ⟨rfl, rfl⟩ (by decide) (by decide) rfl rfl rfl rfl (Nat.le_of_ble_eq_true rfl) dX3_farthestApart_9 (fun q_1 u_1 z_1 => ?_)
      obtain ⟨rfl, rfl⟩ := z_1
      refine tv_icmp_ge C 66 dX3_farthestApart_12 (by decide) (fun c_2 => ?_) (fun c_2 => absurd (tn_le (tn_mul (tn_l 2) e8) (rfl : nI m = nI m) (by omega) (by omega)) c_2)
      refine tv_iload_n C dX3_farthestApart_66 rfl 1 rfl ?_
      exact hR _ _ _ _ dX3_farthestApart_67 ⟨by rw [ek8, hN4], by first | (simp only [c_2, if_true, ts_ss, ts_aa, ↓reduceIte]; done) | rfl | (simp [c_2, if_true, ts_ss, ts_aa]; done) | (exfalso; clear hR C; simp_all; done)⟩
    | succ k_4 ih4 =>
      intro m x_4_1 x_4_2 hi4  ex_4_1 ex_4_2
      subst ex_4_1
      subst ex_4_2
      have hN4 : m < (2 * nl) := by omega
      refine tv_iload_n C dX3_farthestApart_4 rfl 2 rfl ?_
      refine tv_aload_n C dX3_farthestApart_5 rfl 0 rfl ?_
      refine tv_get (ci := 3) (Cn := RX3) (T := TX3) (Nf := 7) (v := .ref (tv_ad c 2)) C 9 (by decide) rfl rfl in_X3_farthestApart_X3 0 (by decide) lk_X3_farthestApart_28 rfl dX3_farthestApart_6 ?_
      refine tv_calli (As := []) (rest := [.int (nI m)]) (ci := 6) (cn := RX6) (T := TX6) (Nf := 11) C 2 (kX6_views c s r   ) gX3_farthestApart_X6_views rfl yd_X6_views ⟨rfl, rfl⟩ (by decide) (by decide) rfl rfl rfl rfl (Nat.le_of_ble_eq_true rfl) dX3_farthestApart_9 (fun q_3 u_3 z_3 => ?_)
      obtain ⟨rfl, rfl⟩ := z_3
      refine tv_icmp_ge C 66 dX3_farthestApart_12 (by decide) (fun c_4 => absurd c_4 (tn_nle (tn_mul (tn_l 2) e8) (rfl : nI m = nI m) (by omega) (by omega))) (fun c_4 => ?_)
      refine tv_aload_n C dX3_farthestApart_15 rfl 0 rfl ?_
      refine tv_get (ci := 3) (Cn := RX3) (T := TX3) (Nf := 7) (v := .ref (tv_ad c 2)) C 9 (by decide) rfl rfl in_X3_farthestApart_X3 0 (by decide) lk_X3_farthestApart_28 rfl dX3_farthestApart_16 ?_
      refine tv_aload_n C dX3_farthestApart_19 rfl 0 rfl ?_
      refine tv_get (ci := 3) (Cn := RX3) (T := TX3) (Nf := 7) (v := .ref (tv_ad c (cp_p 6))) C 9 (by decide) rfl rfl in_X3_farthestApart_X3 2 (by decide) lk_X3_farthestApart_18 rfl dX3_farthestApart_20 ?_
      refine tv_iconst (v := 0) C dX3_farthestApart_23 (by decide) ?_
      refine tv_iconst (v := 0) C dX3_farthestApart_24 (by decide) ?_
      refine tv_iload_n C dX3_farthestApart_25 rfl 2 rfl ?_
      refine tv_iconst (v := 2) C dX3_farthestApart_26 (by decide) ?_
      refine tv_idiv C (by decide) dX3_farthestApart_27 ?_
      refine tv_iload_n C dX3_farthestApart_28 rfl 2 rfl ?_
      refine tv_iconst (v := 2) C dX3_farthestApart_29 (by decide) ?_
      refine tv_irem C (by decide) dX3_farthestApart_30 ?_
      refine tv_iconst (v := 1) C dX3_farthestApart_31 (by decide) ?_
      refine tv_icmp_ne C 39 dX3_farthestApart_32 (by decide) (fun c_5 => ?_) (fun c_5 => ?_)
      · skip
        have nc_5 : ¬ (m % 2) = 1 := tn_nf (tn_eqI (tn_rem (rfl : nI m = nI m) (tn_l 2) (by omega) (by omega) (by omega)) (tn_l 1) (by omega) (by omega)) c_5
        refine tv_iconst (v := 0) C dX3_farthestApart_39 (by decide) ?_
        refine tv_calli (As := [.ref (tv_ad c (cp_p 6)), .int 0, .int 0, .int ((nI m) / 2), .int 0]) (rest := []) (ci := 6) (cn := RX6) (T := TX6) (Nf := 11) C 2 (kX6_lookOfCoat c s r 6 (m / 2) 0 0 ((nI m) / 2) 0 (show 6 < 7 by omega) (tn_div (rfl : nI m = nI m) (tn_l 2) (by omega) (by omega) (by omega)) (by omega) hmb ⟨0, by decide, rfl⟩ ⟨0, by decide, rfl⟩ ⟨nm, hm, e5⟩) gX3_farthestApart_X6_lookOfCoat rfl yd_X6_lookOfCoat ⟨rfl, rfl⟩ (by decide) (by decide) rfl rfl rfl rfl (Nat.le_of_ble_eq_true rfl) dX3_farthestApart_40 (fun q_6 u_6 z_6 => ?_)
        obtain ⟨rfl, rfl⟩ := z_6
        show tv_V c 60 X (eX c s r) 43 _ (.int (sp_lq s (r 6 0) (r 3) 0 0 (m / 2) 0) :: _)
        refine tv_istore_n (lv' := [(3, .int (sp_lq s (r 6 0) (r 3) 0 0 (m / 2) 0)), (0, .ref (tv_ad c 9)), (1, .int (sp_ff s r m)), (2, .int (nI m))]) C dX3_farthestApart_43 rfl (by decide) rfl ?_
        refine tv_iload_n C dX3_farthestApart_44 rfl 2 rfl ?_
        refine tv_iload_n C dX3_farthestApart_45 rfl 0 rfl ?_
        refine tv_aload_n C dX3_farthestApart_46 rfl 1 rfl ?_
        refine tv_get (ci := 3) (Cn := RX3) (T := TX3) (Nf := 7) (v := .ref (tv_ad c 13)) C 9 (by decide) rfl rfl in_X3_farthestApart_X3 3 (by decide) lk_X3_farthestApart_22 rfl dX3_farthestApart_47 ?_
        refine tv_iload_n C dX3_farthestApart_50 rfl 3 rfl ?_
        refine tv_iald (f := (r 4)) (v := (r 4 m)) C 13 (by decide) rfl m (rfl : nI m = nI m) (show m < 8 by omega) (by decide) rfl dX3_farthestApart_51 ?_
        refine tv_isub C dX3_farthestApart_52 ?_
        refine tv_abs C wd_X3_farthestApart_m110 wd_X3_farthestApart_stabs wd_X3_farthestApart_inim wd_X3_farthestApart_cdabs (by decide) (Nat.le_of_ble_eq_true rfl) dX3_farthestApart_53 ?_
        refine tv_max C wd_X3_farthestApart_m46 wd_X3_farthestApart_stmax wd_X3_farthestApart_inim wd_X3_farthestApart_cdmax (by decide) (Nat.le_of_ble_eq_true rfl) dX3_farthestApart_56 ?_
        refine tv_istore_n (lv' := [(1, .int (if (sp_ff s r m) < (if 0 ≤ ((sp_lq s (r 6 0) (r 3) 0 0 (m / 2) 0) - (r 4 m)) then ((sp_lq s (r 6 0) (r 3) 0 0 (m / 2) 0) - (r 4 m)) else 0 - ((sp_lq s (r 6 0) (r 3) 0 0 (m / 2) 0) - (r 4 m))) then (if 0 ≤ ((sp_lq s (r 6 0) (r 3) 0 0 (m / 2) 0) - (r 4 m)) then ((sp_lq s (r 6 0) (r 3) 0 0 (m / 2) 0) - (r 4 m)) else 0 - ((sp_lq s (r 6 0) (r 3) 0 0 (m / 2) 0) - (r 4 m))) else (sp_ff s r m))), (3, .int (sp_lq s (r 6 0) (r 3) 0 0 (m / 2) 0)), (0, .ref (tv_ad c 9)), (2, .int (nI m))]) C dX3_farthestApart_59 rfl (by decide) rfl ?_
        refine tv_iinc (v := ((nI m) + 1)) (lv' := [(2, .int ((nI m) + 1)), (1, .int (if (sp_ff s r m) < (if 0 ≤ ((sp_lq s (r 6 0) (r 3) 0 0 (m / 2) 0) - (r 4 m)) then ((sp_lq s (r 6 0) (r 3) 0 0 (m / 2) 0) - (r 4 m)) else 0 - ((sp_lq s (r 6 0) (r 3) 0 0 (m / 2) 0) - (r 4 m))) then (if 0 ≤ ((sp_lq s (r 6 0) (r 3) 0 0 (m / 2) 0) - (r 4 m)) then ((sp_lq s (r 6 0) (r 3) 0 0 (m / 2) 0) - (r 4 m)) else 0 - ((sp_lq s (r 6 0) (r 3) 0 0 (m / 2) 0) - (r 4 m))) else (sp_ff s r m))), (3, .int (sp_lq s (r 6 0) (r 3) 0 0 (m / 2) 0)), (0, .ref (tv_ad c 9))]) C dX3_farthestApart_60 3 rfl rfl (by decide) rfl ?_
        refine tv_goto C 4 dX3_farthestApart_63 (by decide) ?_
        refine tv_lsub [3, 1, 0] rfl ?_
        exact ih4 (m + 1) _ _ (by omega)  (by first | exact ff_s (lk_z1 (by assumption)) | exact ff_s (lk_z0 (by assumption))) (by first | rfl | exact nI_1 _ | (simp only [c_4, c_5, nc_5, if_true, ↓reduceIte]; done) | (simp [c_4, c_5, nc_5, if_true]; done) | (exfalso; clear hR C; simp_all; done))
      · skip
        have nc_5 : (m % 2) = 1 := (tn_eqI (tn_rem (rfl : nI m = nI m) (tn_l 2) (by omega) (by omega) (by omega)) (tn_l 1) (by omega) (by omega)).mp c_5
        refine tv_iconst (v := 1) C dX3_farthestApart_35 (by decide) ?_
        refine tv_goto C 40 dX3_farthestApart_36 (by decide) ?_
        refine tv_calli (As := [.ref (tv_ad c (cp_p 6)), .int 0, .int 0, .int ((nI m) / 2), .int 1]) (rest := []) (ci := 6) (cn := RX6) (T := TX6) (Nf := 11) C 2 (kX6_lookOfCoat c s r 6 (m / 2) 0 0 ((nI m) / 2) 1 (show 6 < 7 by omega) (tn_div (rfl : nI m = nI m) (tn_l 2) (by omega) (by omega) (by omega)) (by omega) hmb ⟨0, by decide, rfl⟩ ⟨0, by decide, rfl⟩ ⟨nm, hm, e5⟩) gX3_farthestApart_X6_lookOfCoat rfl yd_X6_lookOfCoat ⟨rfl, rfl⟩ (by decide) (by decide) rfl rfl rfl rfl (Nat.le_of_ble_eq_true rfl) dX3_farthestApart_40 (fun q_7 u_7 z_7 => ?_)
        obtain ⟨rfl, rfl⟩ := z_7
        show tv_V c 60 X (eX c s r) 43 _ (.int (sp_lq s (r 6 0) (r 3) 0 0 (m / 2) 1) :: _)
        refine tv_istore_n (lv' := [(3, .int (sp_lq s (r 6 0) (r 3) 0 0 (m / 2) 1)), (0, .ref (tv_ad c 9)), (1, .int (sp_ff s r m)), (2, .int (nI m))]) C dX3_farthestApart_43 rfl (by decide) rfl ?_
        refine tv_iload_n C dX3_farthestApart_44 rfl 2 rfl ?_
        refine tv_iload_n C dX3_farthestApart_45 rfl 0 rfl ?_
        refine tv_aload_n C dX3_farthestApart_46 rfl 1 rfl ?_
        refine tv_get (ci := 3) (Cn := RX3) (T := TX3) (Nf := 7) (v := .ref (tv_ad c 13)) C 9 (by decide) rfl rfl in_X3_farthestApart_X3 3 (by decide) lk_X3_farthestApart_22 rfl dX3_farthestApart_47 ?_
        refine tv_iload_n C dX3_farthestApart_50 rfl 3 rfl ?_
        refine tv_iald (f := (r 4)) (v := (r 4 m)) C 13 (by decide) rfl m (rfl : nI m = nI m) (show m < 8 by omega) (by decide) rfl dX3_farthestApart_51 ?_
        refine tv_isub C dX3_farthestApart_52 ?_
        refine tv_abs C wd_X3_farthestApart_m110 wd_X3_farthestApart_stabs wd_X3_farthestApart_inim wd_X3_farthestApart_cdabs (by decide) (Nat.le_of_ble_eq_true rfl) dX3_farthestApart_53 ?_
        refine tv_max C wd_X3_farthestApart_m46 wd_X3_farthestApart_stmax wd_X3_farthestApart_inim wd_X3_farthestApart_cdmax (by decide) (Nat.le_of_ble_eq_true rfl) dX3_farthestApart_56 ?_
        refine tv_istore_n (lv' := [(1, .int (if (sp_ff s r m) < (if 0 ≤ ((sp_lq s (r 6 0) (r 3) 0 0 (m / 2) 1) - (r 4 m)) then ((sp_lq s (r 6 0) (r 3) 0 0 (m / 2) 1) - (r 4 m)) else 0 - ((sp_lq s (r 6 0) (r 3) 0 0 (m / 2) 1) - (r 4 m))) then (if 0 ≤ ((sp_lq s (r 6 0) (r 3) 0 0 (m / 2) 1) - (r 4 m)) then ((sp_lq s (r 6 0) (r 3) 0 0 (m / 2) 1) - (r 4 m)) else 0 - ((sp_lq s (r 6 0) (r 3) 0 0 (m / 2) 1) - (r 4 m))) else (sp_ff s r m))), (3, .int (sp_lq s (r 6 0) (r 3) 0 0 (m / 2) 1)), (0, .ref (tv_ad c 9)), (2, .int (nI m))]) C dX3_farthestApart_59 rfl (by decide) rfl ?_
        refine tv_iinc (v := ((nI m) + 1)) (lv' := [(2, .int ((nI m) + 1)), (1, .int (if (sp_ff s r m) < (if 0 ≤ ((sp_lq s (r 6 0) (r 3) 0 0 (m / 2) 1) - (r 4 m)) then ((sp_lq s (r 6 0) (r 3) 0 0 (m / 2) 1) - (r 4 m)) else 0 - ((sp_lq s (r 6 0) (r 3) 0 0 (m / 2) 1) - (r 4 m))) then (if 0 ≤ ((sp_lq s (r 6 0) (r 3) 0 0 (m / 2) 1) - (r 4 m)) then ((sp_lq s (r 6 0) (r 3) 0 0 (m / 2) 1) - (r 4 m)) else 0 - ((sp_lq s (r 6 0) (r 3) 0 0 (m / 2) 1) - (r 4 m))) else (sp_ff s r m))), (3, .int (sp_lq s (r 6 0) (r 3) 0 0 (m / 2) 1)), (0, .ref (tv_ad c 9))]) C dX3_farthestApart_60 3 rfl rfl (by decide) rfl ?_
        refine tv_goto C 4 dX3_farthestApart_63 (by decide) ?_
        refine tv_lsub [3, 1, 0] rfl ?_
        exact ih4 (m + 1) _ _ (by omega)  (by first | exact ff_s (lk_z1 (by assumption)) | exact ff_s (lk_z0 (by assumption))) (by first | rfl | exact nI_1 _ | (simp only [c_4, eq_true c_5, nc_5, if_true, ↓reduceIte]; done) | (simp [c_4, eq_true c_5, nc_5, if_true]; done) | (exfalso; clear hR C; simp_all; done))
  refine tv_lsub [2, 1, 0] rfl ?_
  exact hL4 ((2 * nl) - 0) 0 _ _ (by omega)  (by first | (simp only [if_true, ↓reduceIte]; done) | rfl | (simp [if_true]; done) | (exfalso; clear hR C; simp_all; done)) (by first | (simp only [if_true, ↓reduceIte]; done) | rfl | (simp [if_true]; done) | (exfalso; clear hR C; simp_all; done))
