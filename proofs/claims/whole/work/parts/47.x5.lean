set_option maxRecDepth 20000 in
theorem in_X2_unpaint_X2 : ∀ w ∈ u_ws RX2 TX2 3, w ∈ wsX2_unpaint := by decide +kernel
set_option maxRecDepth 20000 in
theorem lk_X2_unpaint_18 : Cond.fieldLink RX2 18 (TX2 0).1 (TX2 0).2.1 (TX2 0).2.2.1 ∈ wsX2_unpaint := by decide +kernel
set_option maxRecDepth 20000 in
theorem in_X2_unpaint_X6 : ∀ w ∈ u_ws RX6 TX6 11, w ∈ wsX2_unpaint := by decide +kernel
set_option maxRecDepth 20000 in
theorem lk_X2_unpaint_22 : Cond.fieldLink RX2 22 (TX6 5).1 (TX6 5).2.1 (TX6 5).2.2.1 ∈ wsX2_unpaint := by decide +kernel
set_option maxRecDepth 20000 in
theorem lk_X2_unpaint_15 : Cond.fieldLink RX2 15 (TX2 2).1 (TX2 2).2.1 (TX2 2).2.2.1 ∈ wsX2_unpaint := by decide +kernel
set_option maxRecDepth 20000 in
theorem in_X2_paintOne_X2 : ∀ w ∈ u_ws RX2 TX2 3, w ∈ wsX2_paintOne := by decide +kernel
set_option maxRecDepth 20000 in
theorem lk_X2_paintOne_15 : Cond.fieldLink RX2 15 (TX2 2).1 (TX2 2).2.1 (TX2 2).2.2.1 ∈ wsX2_paintOne := by decide +kernel
set_option maxRecDepth 20000 in
theorem in_X2_takeAsItIs_X2 : ∀ w ∈ u_ws RX2 TX2 3, w ∈ wsX2_takeAsItIs := by decide +kernel
set_option maxRecDepth 20000 in
theorem lk_X2_takeAsItIs_18 : Cond.fieldLink RX2 18 (TX2 0).1 (TX2 0).2.1 (TX2 0).2.2.1 ∈ wsX2_takeAsItIs := by decide +kernel
set_option maxRecDepth 20000 in
theorem in_X2_takeAsItIs_X6 : ∀ w ∈ u_ws RX6 TX6 11, w ∈ wsX2_takeAsItIs := by decide +kernel
set_option maxRecDepth 20000 in
theorem lk_X2_takeAsItIs_22 : Cond.fieldLink RX2 22 (TX6 5).1 (TX6 5).2.1 (TX6 5).2.2.1 ∈ wsX2_takeAsItIs := by decide +kernel
theorem yd_X2_unpaint : yX2_unpaint.cls = RX2 ∧ yX2_unpaint.cls ≠ "java/lang/invoke/MethodHandle" ∧ yX2_unpaint.cls ≠ "java/lang/invoke/VarHandle" ∧ (parseMethodDescriptor yX2_unpaint.desc).map (fun d => d.parameters.length) = some 0 := by decide +kernel
theorem yd_X6_views : yX6_views.cls = RX6 ∧ yX6_views.cls ≠ "java/lang/invoke/MethodHandle" ∧ yX6_views.cls ≠ "java/lang/invoke/VarHandle" ∧ (parseMethodDescriptor yX6_views.desc).map (fun d => d.parameters.length) = some 0 := by decide +kernel
set_option maxRecDepth 20000 in
theorem lk_X2_takeAsItIs_9 : Cond.fieldLink RX2 9 (TX2 1).1 (TX2 1).2.1 (TX2 1).2.2.1 ∈ wsX2_takeAsItIs := by decide +kernel
set_option maxRecDepth 20000 in
theorem in_X2_takeFresh_X2 : ∀ w ∈ u_ws RX2 TX2 3, w ∈ wsX2_takeFresh := by decide +kernel
set_option maxRecDepth 20000 in
theorem lk_X2_takeFresh_18 : Cond.fieldLink RX2 18 (TX2 0).1 (TX2 0).2.1 (TX2 0).2.2.1 ∈ wsX2_takeFresh := by decide +kernel
set_option maxRecDepth 20000 in
theorem lk_X2_takeFresh_9 : Cond.fieldLink RX2 9 (TX2 1).1 (TX2 1).2.1 (TX2 1).2.2.1 ∈ wsX2_takeFresh := by decide +kernel
set_option maxRecDepth 20000 in
theorem in_X2_takeFresh_X6 : ∀ w ∈ u_ws RX6 TX6 11, w ∈ wsX2_takeFresh := by decide +kernel
set_option maxRecDepth 20000 in
theorem lk_X2_takeFresh_39 : Cond.fieldLink RX2 39 (TX6 1).1 (TX6 1).2.1 (TX6 1).2.2.1 ∈ wsX2_takeFresh := by decide +kernel
set_option maxRecDepth 20000 in
theorem in_X2_isSeenBetween_X2 : ∀ w ∈ u_ws RX2 TX2 3, w ∈ wsX2_isSeenBetween := by decide +kernel
set_option maxRecDepth 20000 in
theorem lk_X2_isSeenBetween_15 : Cond.fieldLink RX2 15 (TX2 2).1 (TX2 2).2.1 (TX2 2).2.2.1 ∈ wsX2_isSeenBetween := by decide +kernel
set_option maxRecDepth 20000 in
theorem lk_X2_isSeenBetween_18 : Cond.fieldLink RX2 18 (TX2 0).1 (TX2 0).2.1 (TX2 0).2.2.1 ∈ wsX2_isSeenBetween := by decide +kernel
set_option maxRecDepth 20000 in
theorem lk_X2_isSeenBetween_9 : Cond.fieldLink RX2 9 (TX2 1).1 (TX2 1).2.1 (TX2 1).2.2.1 ∈ wsX2_isSeenBetween := by decide +kernel
set_option maxRecDepth 20000 in
theorem wd_X2_isSeenBetween_m65 : Cond.methodLink RX2 65 Lib.Math.abs.name ∈ wsX2_isSeenBetween := by decide +kernel
set_option maxRecDepth 20000 in
theorem wd_X2_isSeenBetween_stabs : Cond.static Lib.Math.abs.name ∈ wsX2_isSeenBetween := by decide +kernel
set_option maxRecDepth 20000 in
theorem wd_X2_isSeenBetween_inim : Cond.initialized "java/lang/Math" ∈ wsX2_isSeenBetween := by decide +kernel
set_option maxRecDepth 20000 in
theorem wd_X2_isSeenBetween_cdabs : Cond.code Lib.Math.abs.name Lib.Math.abs.code 1 (some .int) ∈ wsX2_isSeenBetween := by decide +kernel
set_option maxRecDepth 20000 in
theorem in_X2_isSeenBetween_X6 : ∀ w ∈ u_ws RX6 TX6 11, w ∈ wsX2_isSeenBetween := by decide +kernel
set_option maxRecDepth 20000 in
theorem lk_X2_isSeenBetween_70 : Cond.fieldLink RX2 70 (TX6 10).1 (TX6 10).2.1 (TX6 10).2.2.1 ∈ wsX2_isSeenBetween := by decide +kernel
set_option maxHeartbeats 4000000 in
set_option maxRecDepth 100000 in
theorem kX2_unpaint (c : tv_c) (s r : ts_T) (n : Nat) (e9 : s 9 0 = nI n) (hn : n ≤ 24) : tv_Fv c 60 yX2_unpaint wsX2_unpaint { frames := 0, cells := 0, slots := 0, locals := 0 } [.ref (tv_ad c 6)] (eX c s r) (eX c s (ts_a r 1 (ts_f (fun c => nI c) (r 1) n))) := by
  refine tv_metV (by decide +kernel) rfl rfl (Nat.le_of_ble_eq_true rfl) (fun X C hR => ?_)
  show tv_V c 60 X (eX c s r) 0 [(0, .ref (tv_ad c 6))] []
  refine tv_iconst (v := 0) C dX2_unpaint_0 (by decide) ?_
  refine tv_istore_n (lv' := [(1, .int 0), (0, .ref (tv_ad c 6))]) C dX2_unpaint_1 rfl (by decide) rfl ?_
  have hL2 : ∀ (k_2 i : Nat) (x_2_1 : Int32) (w_2 : Nat → va_E), i + k_2 = n → x_2_1 = (nI i) → w_2 = (eX c s (ts_a r 1 (ts_f (fun c => nI c) (r 1) i))) → tv_V c 60 X w_2 2 [(0, .ref (tv_ad c 6)), (1, .int x_2_1)] [] := by
    intro k_2
    induction k_2 with
    | zero =>
      intro i x_2_1 w_2 hi2  ex_2_1 ew_2
      subst ex_2_1
      subst ew_2
      have hN2 : i = n := by omega
      refine tv_iload_n C dX2_unpaint_2 rfl 1 rfl ?_
      refine tv_aload_n C dX2_unpaint_3 rfl 0 rfl ?_
      refine tv_get (ci := 2) (Cn := RX2) (T := TX2) (Nf := 3) (v := .ref (tv_ad c 2)) C 6 (by decide) rfl rfl in_X2_unpaint_X2 0 (by decide) lk_X2_unpaint_18 rfl dX2_unpaint_4 ?_
      refine tv_get (ci := 6) (Cn := RX6) (T := TX6) (Nf := 11) (v := .int (s 9 0)) C 2 (by decide) rfl rfl in_X2_unpaint_X6 5 (by decide) lk_X2_unpaint_22 rfl dX2_unpaint_7 ?_
      refine tv_icmp_ge C 26 dX2_unpaint_10 (by decide) (fun c_1 => ?_) (fun c_1 => absurd (tn_le e9 (rfl : nI i = nI i) (by omega) (by omega)) c_1)
      exact hR _ _ _ dX2_unpaint_26 (by rw [hN2])
    | succ k_2 ih2 =>
      intro i x_2_1 w_2 hi2  ex_2_1 ew_2
      subst ex_2_1
      subst ew_2
      have hN2 : i < n := by omega
      refine tv_iload_n C dX2_unpaint_2 rfl 1 rfl ?_
      refine tv_aload_n C dX2_unpaint_3 rfl 0 rfl ?_
      refine tv_get (ci := 2) (Cn := RX2) (T := TX2) (Nf := 3) (v := .ref (tv_ad c 2)) C 6 (by decide) rfl rfl in_X2_unpaint_X2 0 (by decide) lk_X2_unpaint_18 rfl dX2_unpaint_4 ?_
      refine tv_get (ci := 6) (Cn := RX6) (T := TX6) (Nf := 11) (v := .int (s 9 0)) C 2 (by decide) rfl rfl in_X2_unpaint_X6 5 (by decide) lk_X2_unpaint_22 rfl dX2_unpaint_7 ?_
      refine tv_icmp_ge C 26 dX2_unpaint_10 (by decide) (fun c_2 => absurd c_2 (tn_nle e9 (rfl : nI i = nI i) (by omega) (by omega))) (fun c_2 => ?_)
      refine tv_aload_n C dX2_unpaint_13 rfl 0 rfl ?_
      refine tv_get (ci := 2) (Cn := RX2) (T := TX2) (Nf := 3) (v := .ref (tv_ad c 8)) C 6 (by decide) rfl rfl in_X2_unpaint_X2 2 (by decide) lk_X2_unpaint_15 rfl dX2_unpaint_14 ?_
      refine tv_iload_n C dX2_unpaint_17 rfl 1 rfl ?_
      refine tv_iload_n C dX2_unpaint_18 rfl 1 rfl ?_
      refine tv_iast (E' := (eX c s (ts_a r 1 (upd (ts_f (fun c => nI c) (r 1) i) i (nI i))))) C 8 (by decide) rfl i (rfl : nI i = nI i) (show i < 24 by omega) (by decide) ((eX_u_shows c s (ts_a r 1 (ts_f (fun c => nI c) (r 1) i)) (upd (ts_f (fun c => nI c) (r 1) i) i (nI i))).trans (by first | (rw [ts_mg]; done) | (rw [ts_mg]; rfl) | (rw [ts_ss]; done) | (rw [ts_ss]; rfl))) dX2_unpaint_19 ?_
      refine tv_iinc (v := ((nI i) + 1)) (lv' := [(1, .int ((nI i) + 1)), (0, .ref (tv_ad c 6))]) C dX2_unpaint_20 1 rfl rfl (by decide) rfl ?_
      refine tv_goto C 2 dX2_unpaint_23 (by decide) ?_
      refine tv_lsub [1, 0] rfl ?_
      exact ih2 (i + 1) _ _ (by omega)  (by first | rfl | exact nI_1 _ | (simp only [c_2, if_true, ↓reduceIte]; done) | (simp [c_2, if_true]; done) | (exfalso; clear hR C; simp_all; done)) (by rw [← ts_f_s])
  refine tv_lsub [1, 0] rfl ?_
  exact hL2 (n - 0) 0 _ _ (by omega)  (by first | (simp only [if_true, ↓reduceIte]; done) | rfl | (simp [if_true]; done) | (exfalso; clear hR C; simp_all; done)) (by rw [ts_f_0, ts_id])
set_option maxHeartbeats 4000000 in
set_option maxRecDepth 100000 in
theorem kX2_paintOne (c : tv_c) (s r : ts_T)  (a : Nat) (p0 : Int32) (e_p0 : p0 = nI a) (h_p0 : a < 24) : tv_Fv c 60 yX2_paintOne wsX2_paintOne { frames := 0, cells := 0, slots := 0, locals := 0 } [.ref (tv_ad c 6), .int p0] (eX c s r) (eX c s (ts_a r 1 (upd (r 1) a 24))) := by
  refine tv_metV (by decide +kernel) rfl rfl (Nat.le_of_ble_eq_true rfl) (fun X C hR => ?_)
  show tv_V c 60 X (eX c s r) 0 [(0, .ref (tv_ad c 6)), (1, .int p0)] []
  refine tv_aload_n C dX2_paintOne_0 rfl 0 rfl ?_
  refine tv_get (ci := 2) (Cn := RX2) (T := TX2) (Nf := 3) (v := .ref (tv_ad c 8)) C 6 (by decide) rfl rfl in_X2_paintOne_X2 2 (by decide) lk_X2_paintOne_15 rfl dX2_paintOne_1 ?_
  refine tv_iload_n C dX2_paintOne_4 rfl 1 rfl ?_
  refine tv_bipush (v := 24) C dX2_paintOne_5 (by decide) ?_
  refine tv_iast (E' := (eX c s (ts_a r 1 (upd (r 1) a 24)))) C 8 (by decide) rfl a e_p0 (show a < 24 by omega) (by decide) (eX_u_shows c s r (upd (r 1) a 24)) dX2_paintOne_7 ?_
  exact hR _ _ _ dX2_paintOne_8 (by first | (simp only [if_true, ts_ss, ts_aa, ↓reduceIte]; done) | rfl | (simp [if_true, ts_ss, ts_aa]; done) | (exfalso; clear hR C; simp_all; done))
set_option maxHeartbeats 4000000 in
set_option maxRecDepth 100000 in
theorem kX2_takeAsItIs (c : tv_c) (s r : ts_T)  (hI : iv s) : tv_Fv c 60 yX2_takeAsItIs wsX2_takeAsItIs { frames := 4, cells := 0, slots := 0, locals := 102 } [.ref (tv_ad c 6)] (eX c s r) (eX c s (ts_a (ts_a r 0 (lk_a s (r 0) (2 * tk (s 8 0)) (tk (s 9 0)) 0)) 1 (ts_f (fun c => nI c) (r 1) (tk (s 9 0))))) := by
  refine tv_metV (by decide +kernel) rfl rfl (Nat.le_of_ble_eq_true rfl) (fun X C hR => ?_)
  show tv_V c 60 X (eX c s r) 0 [(0, .ref (tv_ad c 6))] []
  have hC := iv.hC hI
  obtain ⟨h, w, n, nk, nl, ny, nm, li, e2, e3, e9, hnw, hh, hw, hn, hz, hp, e7, hk, e8, hl, e4, hy, e5, hm, e6, hli, hcel, hkin, hban, hwei, hshe⟩ := id hI
  have ek8 := tk_e e8 (by omega)
  have ek9 := tk_e e9 (by omega)
  refine tv_iconst (v := 0) C dX2_takeAsItIs_0 (by decide) ?_
  refine tv_istore_n (lv' := [(1, .int 0), (0, .ref (tv_ad c 6))]) C dX2_takeAsItIs_1 rfl (by decide) rfl ?_
  have hL2 : ∀ (k_2 i : Nat) (x_2_1 : Int32) (w_2 : Nat → va_E), i + k_2 = n → x_2_1 = (nI i) → w_2 = (eX c s (ts_a r 0 (lk_a s (r 0) (2 * nl) i 0))) → tv_V c 60 X w_2 2 [(0, .ref (tv_ad c 6)), (1, .int x_2_1)] [] := by
    intro k_2
    induction k_2 with
    | zero =>
      intro i x_2_1 w_2 hi2  ex_2_1 ew_2
      subst ex_2_1
      subst ew_2
      have hN2 : i = n := by omega
      refine tv_iload_n C dX2_takeAsItIs_2 rfl 1 rfl ?_
      refine tv_aload_n C dX2_takeAsItIs_3 rfl 0 rfl ?_
      refine tv_get (ci := 2) (Cn := RX2) (T := TX2) (Nf := 3) (v := .ref (tv_ad c 2)) C 6 (by decide) rfl rfl in_X2_takeAsItIs_X2 0 (by decide) lk_X2_takeAsItIs_18 rfl dX2_takeAsItIs_4 ?_
      refine tv_get (ci := 6) (Cn := RX6) (T := TX6) (Nf := 11) (v := .int (s 9 0)) C 2 (by decide) rfl rfl in_X2_takeAsItIs_X6 5 (by decide) lk_X2_takeAsItIs_22 rfl dX2_takeAsItIs_7 ?_
      refine tv_icmp_ge C 72 dX2_takeAsItIs_10 (by decide) (fun c_1 => ?_) (fun c_1 => absurd (tn_le e9 (rfl : nI i = nI i) (by omega) (by omega)) c_1)
      refine tv_aload_n C dX2_takeAsItIs_72 rfl 0 rfl ?_
      refine tv_callv (As := []) (rest := []) (ci := 2) (cn := RX2) (T := TX2) (Nf := 3) C 6 (kX2_unpaint c s (ts_a r 0 (lk_a s (r 0) (2 * nl) i 0)) n  e9 hn) gX2_takeAsItIs_X2_unpaint rfl yd_X2_unpaint ⟨rfl, rfl⟩ (by decide) (by decide) rfl rfl rfl rfl (Nat.le_of_ble_eq_true rfl) dX2_takeAsItIs_73 (fun u_2 z_2 => ?_)
      subst z_2
      show tv_V c 60 X (eX c s (ts_a (ts_a r 0 (lk_a s (r 0) (2 * nl) i 0)) 1 (ts_f (fun c => nI c) (r 1) n))) 76 [(0, .ref (tv_ad c 6)), (1, .int (nI i))] []
      exact hR _ _ _ dX2_takeAsItIs_76 (by rw [ek8, ek9, hN2])
    | succ k_2 ih2 =>
      intro i x_2_1 w_2 hi2  ex_2_1 ew_2
      subst ex_2_1
      subst ew_2
      have hN2 : i < n := by omega
      refine tv_iload_n C dX2_takeAsItIs_2 rfl 1 rfl ?_
      refine tv_aload_n C dX2_takeAsItIs_3 rfl 0 rfl ?_
      refine tv_get (ci := 2) (Cn := RX2) (T := TX2) (Nf := 3) (v := .ref (tv_ad c 2)) C 6 (by decide) rfl rfl in_X2_takeAsItIs_X2 0 (by decide) lk_X2_takeAsItIs_18 rfl dX2_takeAsItIs_4 ?_
      refine tv_get (ci := 6) (Cn := RX6) (T := TX6) (Nf := 11) (v := .int (s 9 0)) C 2 (by decide) rfl rfl in_X2_takeAsItIs_X6 5 (by decide) lk_X2_takeAsItIs_22 rfl dX2_takeAsItIs_7 ?_
      refine tv_icmp_ge C 72 dX2_takeAsItIs_10 (by decide) (fun c_3 => absurd c_3 (tn_nle e9 (rfl : nI i = nI i) (by omega) (by omega))) (fun c_3 => ?_)
      refine tv_iconst (v := 0) C dX2_takeAsItIs_13 (by decide) ?_
      refine tv_istore_n (lv' := [(2, .int 0), (0, .ref (tv_ad c 6)), (1, .int (nI i))]) C dX2_takeAsItIs_14 rfl (by decide) rfl ?_
      have hL15 : ∀ (k_15 m : Nat) (x_15_2 : Int32) (w_15 : Nat → va_E), m + k_15 = (2 * nl) → x_15_2 = (nI m) → w_15 = (eX c s (ts_a r 0 (lk_a s (r 0) (2 * nl) i m))) → tv_V c 60 X w_15 15 [(0, .ref (tv_ad c 6)), (1, .int (nI i)), (2, .int x_15_2)] [] := by
        intro k_15
        induction k_15 with
        | zero =>
          intro m x_15_2 w_15 hi15  ex_15_2 ew_15
          subst ex_15_2
          subst ew_15
          have hN15 : m = (2 * nl) := by omega
          refine tv_iload_n C dX2_takeAsItIs_15 rfl 2 rfl ?_
          refine tv_aload_n C dX2_takeAsItIs_16 rfl 0 rfl ?_
          refine tv_get (ci := 2) (Cn := RX2) (T := TX2) (Nf := 3) (v := .ref (tv_ad c 2)) C 6 (by decide) rfl rfl in_X2_takeAsItIs_X2 0 (by decide) lk_X2_takeAsItIs_18 rfl dX2_takeAsItIs_17 ?_
          refine tv_calli (As := []) (rest := [.int (nI m)]) (ci := 6) (cn := RX6) (T := TX6) (Nf := 11) C 2 (kX6_views c s (ts_a r 0 (lk_a s (r 0) (2 * nl) i m))   ) gX2_takeAsItIs_X6_views rfl yd_X6_views ⟨rfl, rfl⟩ (by decide) (by decide) rfl rfl rfl rfl (Nat.le_of_ble_eq_true rfl) dX2_takeAsItIs_20 (fun q_4 u_4 z_4 => ?_)
          obtain ⟨rfl, rfl⟩ := z_4
          show tv_V c 60 X (eX c s (ts_a r 0 (lk_a s (r 0) (2 * nl) i m))) 23 [(0, .ref (tv_ad c 6)), (1, .int (nI i)), (2, .int (nI m))] [.int (2 * s 8 0), .int (nI m)]
          refine tv_icmp_ge C 66 dX2_takeAsItIs_23 (by decide) (fun c_5 => ?_) (fun c_5 => absurd (tn_le (tn_mul (tn_l 2) e8) (rfl : nI m = nI m) (by omega) (by omega)) c_5)
          refine tv_iinc (v := ((nI i) + 1)) (lv' := [(1, .int ((nI i) + 1)), (0, .ref (tv_ad c 6)), (2, .int (nI m))]) C dX2_takeAsItIs_66 1 rfl rfl (by decide) rfl ?_
          refine tv_goto C 2 dX2_takeAsItIs_69 (by decide) ?_
          refine tv_lsub [1, 0] rfl ?_
          exact ih2 (i + 1) _ _ (by omega)  (by first | rfl | exact nI_1 _ | (simp only [ek8, ek9, c_3, c_5, if_true, ↓reduceIte]; done) | (simp [ek8, ek9, c_3, c_5, if_true]; done) | (exfalso; clear hR C; simp_all; done)) (by rw [hN15, lk_a_i])
        | succ k_15 ih15 =>
          intro m x_15_2 w_15 hi15  ex_15_2 ew_15
          subst ex_15_2
          subst ew_15
          have hN15 : m < (2 * nl) := by omega
          refine tv_iload_n C dX2_takeAsItIs_15 rfl 2 rfl ?_
          refine tv_aload_n C dX2_takeAsItIs_16 rfl 0 rfl ?_
          refine tv_get (ci := 2) (Cn := RX2) (T := TX2) (Nf := 3) (v := .ref (tv_ad c 2)) C 6 (by decide) rfl rfl in_X2_takeAsItIs_X2 0 (by decide) lk_X2_takeAsItIs_18 rfl dX2_takeAsItIs_17 ?_
          refine tv_calli (As := []) (rest := [.int (nI m)]) (ci := 6) (cn := RX6) (T := TX6) (Nf := 11) C 2 (kX6_views c s (ts_a r 0 (lk_a s (r 0) (2 * nl) i m))   ) gX2_takeAsItIs_X6_views rfl yd_X6_views ⟨rfl, rfl⟩ (by decide) (by decide) rfl rfl rfl rfl (Nat.le_of_ble_eq_true rfl) dX2_takeAsItIs_20 (fun q_6 u_6 z_6 => ?_)
          obtain ⟨rfl, rfl⟩ := z_6
          show tv_V c 60 X (eX c s (ts_a r 0 (lk_a s (r 0) (2 * nl) i m))) 23 [(0, .ref (tv_ad c 6)), (1, .int (nI i)), (2, .int (nI m))] [.int (2 * s 8 0), .int (nI m)]
          refine tv_icmp_ge C 66 dX2_takeAsItIs_23 (by decide) (fun c_7 => absurd c_7 (tn_nle (tn_mul (tn_l 2) e8) (rfl : nI m = nI m) (by omega) (by omega))) (fun c_7 => ?_)
          refine tv_aload_n C dX2_takeAsItIs_26 rfl 0 rfl ?_
          refine tv_get (ci := 2) (Cn := RX2) (T := TX2) (Nf := 3) (v := .ref (tv_ad c 7)) C 6 (by decide) rfl rfl in_X2_takeAsItIs_X2 1 (by decide) lk_X2_takeAsItIs_9 rfl dX2_takeAsItIs_27 ?_
          refine tv_iload_n C dX2_takeAsItIs_30 rfl 1 rfl ?_
          refine tv_bipush (v := 8) C dX2_takeAsItIs_31 (by decide) ?_
          refine tv_imul C dX2_takeAsItIs_33 ?_
          refine tv_iload_n C dX2_takeAsItIs_34 rfl 2 rfl ?_
          refine tv_iadd C dX2_takeAsItIs_35 ?_
          refine tv_aload_n C dX2_takeAsItIs_36 rfl 0 rfl ?_
          refine tv_get (ci := 2) (Cn := RX2) (T := TX2) (Nf := 3) (v := .ref (tv_ad c 2)) C 6 (by decide) rfl rfl in_X2_takeAsItIs_X2 0 (by decide) lk_X2_takeAsItIs_18 rfl dX2_takeAsItIs_37 ?_
          refine tv_iload_n C dX2_takeAsItIs_40 rfl 1 rfl ?_
          refine tv_iload_n C dX2_takeAsItIs_41 rfl 2 rfl ?_
          refine tv_iconst (v := 2) C dX2_takeAsItIs_42 (by decide) ?_
          refine tv_idiv C (by decide) dX2_takeAsItIs_43 ?_
          refine tv_iload_n C dX2_takeAsItIs_44 rfl 2 rfl ?_
          refine tv_iconst (v := 2) C dX2_takeAsItIs_45 (by decide) ?_
          refine tv_irem C (by decide) dX2_takeAsItIs_46 ?_
          refine tv_iconst (v := 1) C dX2_takeAsItIs_47 (by decide) ?_
          refine tv_icmp_ne C 55 dX2_takeAsItIs_48 (by decide) (fun c_8 => ?_) (fun c_8 => ?_)
          · skip
            have nc_8 : ¬ (m % 2) = 1 := tn_nf (tn_eqI (tn_rem (rfl : nI m = nI m) (tn_l 2) (by omega) (by omega) (by omega)) (tn_l 1) (by omega) (by omega)) c_8
            refine tv_iconst (v := 0) C dX2_takeAsItIs_55 (by decide) ?_
            refine tv_calli (As := [.int (nI i), .int ((nI m) / 2), .int 0]) (rest := [.int (((nI i) * 8) + (nI m)), .ref (tv_ad c 7)]) (ci := 6) (cn := RX6) (T := TX6) (Nf := 11) C 2 (kX6_lookOfCell c s (ts_a r 0 (lk_a s (r 0) (2 * nl) i m)) i (m / 2) (nI i) ((nI m) / 2) 0 (rfl : nI i = nI i) (by omega) (tn_div (rfl : nI m = nI m) (tn_l 2) (by omega) (by omega) (by omega)) (by omega) (iv_c40 hy (hcel i hN2)) hban ⟨nm, hm, e5⟩) gX2_takeAsItIs_X6_lookOfCell rfl yd_X6_lookOfCell ⟨rfl, rfl⟩ (by decide) (by decide) rfl rfl rfl rfl (Nat.le_of_ble_eq_true rfl) dX2_takeAsItIs_56 (fun q_9 u_9 z_9 => ?_)
            obtain ⟨rfl, rfl⟩ := z_9
            show tv_V c 60 X (eX c s (ts_a r 0 (lk_a s (r 0) (2 * nl) i m))) 59 [(0, .ref (tv_ad c 6)), (1, .int (nI i)), (2, .int (nI m))] [.int (sp_ln s i (m / 2) 0), .int (((nI i) * 8) + (nI m)), .ref (tv_ad c 7)]
            refine tv_iast (E' := (eX c s (ts_a r 0 (upd (lk_a s (r 0) (2 * nl) i m) ((8 * i) + m) (sp_ln s i (m / 2) 0))))) C 7 (by decide) rfl ((8 * i) + m) (tn_add (tn_mulc (rfl : nI i = nI i) (tn_l 8)) (rfl : nI m = nI m)) (show ((8 * i) + m) < 200 by omega) (by decide) ((eX_u_looks c s (ts_a r 0 (lk_a s (r 0) (2 * nl) i m)) (upd (lk_a s (r 0) (2 * nl) i m) ((8 * i) + m) (sp_ln s i (m / 2) 0))).trans (by first | (rw [ts_mg]; done) | (rw [ts_mg]; rfl) | (rw [ts_ss]; done) | (rw [ts_ss]; rfl))) dX2_takeAsItIs_59 ?_
            refine tv_iinc (v := ((nI m) + 1)) (lv' := [(2, .int ((nI m) + 1)), (0, .ref (tv_ad c 6)), (1, .int (nI i))]) C dX2_takeAsItIs_60 2 rfl rfl (by decide) rfl ?_
            refine tv_goto C 15 dX2_takeAsItIs_63 (by decide) ?_
            refine tv_lsub [1, 2, 0] rfl ?_
            exact ih15 (m + 1) _ _ (by omega)  (by first | rfl | exact nI_1 _ | (simp only [ek8, ek9, c_3, c_7, c_8, nc_8, if_true, ↓reduceIte]; done) | (simp [ek8, ek9, c_3, c_7, c_8, nc_8, if_true]; done) | (exfalso; clear hR C; simp_all; done)) (by first | (rw [← lk_a_m s (r 0) (show m < 8 by omega), ← lk_z1 (by assumption)]; done) | (rw [← lk_a_m s (r 0) (show m < 8 by omega), ← lk_z0 (by assumption)]; done))
          · skip
            have nc_8 : (m % 2) = 1 := (tn_eqI (tn_rem (rfl : nI m = nI m) (tn_l 2) (by omega) (by omega) (by omega)) (tn_l 1) (by omega) (by omega)).mp c_8
            refine tv_iconst (v := 1) C dX2_takeAsItIs_51 (by decide) ?_
            refine tv_goto C 56 dX2_takeAsItIs_52 (by decide) ?_
            refine tv_calli (As := [.int (nI i), .int ((nI m) / 2), .int 1]) (rest := [.int (((nI i) * 8) + (nI m)), .ref (tv_ad c 7)]) (ci := 6) (cn := RX6) (T := TX6) (Nf := 11) C 2 (kX6_lookOfCell c s (ts_a r 0 (lk_a s (r 0) (2 * nl) i m)) i (m / 2) (nI i) ((nI m) / 2) 1 (rfl : nI i = nI i) (by omega) (tn_div (rfl : nI m = nI m) (tn_l 2) (by omega) (by omega) (by omega)) (by omega) (iv_c40 hy (hcel i hN2)) hban ⟨nm, hm, e5⟩) gX2_takeAsItIs_X6_lookOfCell rfl yd_X6_lookOfCell ⟨rfl, rfl⟩ (by decide) (by decide) rfl rfl rfl rfl (Nat.le_of_ble_eq_true rfl) dX2_takeAsItIs_56 (fun q_10 u_10 z_10 => ?_)
            obtain ⟨rfl, rfl⟩ := z_10
            show tv_V c 60 X (eX c s (ts_a r 0 (lk_a s (r 0) (2 * nl) i m))) 59 [(0, .ref (tv_ad c 6)), (1, .int (nI i)), (2, .int (nI m))] [.int (sp_ln s i (m / 2) 1), .int (((nI i) * 8) + (nI m)), .ref (tv_ad c 7)]
            refine tv_iast (E' := (eX c s (ts_a r 0 (upd (lk_a s (r 0) (2 * nl) i m) ((8 * i) + m) (sp_ln s i (m / 2) 1))))) C 7 (by decide) rfl ((8 * i) + m) (tn_add (tn_mulc (rfl : nI i = nI i) (tn_l 8)) (rfl : nI m = nI m)) (show ((8 * i) + m) < 200 by omega) (by decide) ((eX_u_looks c s (ts_a r 0 (lk_a s (r 0) (2 * nl) i m)) (upd (lk_a s (r 0) (2 * nl) i m) ((8 * i) + m) (sp_ln s i (m / 2) 1))).trans (by first | (rw [ts_mg]; done) | (rw [ts_mg]; rfl) | (rw [ts_ss]; done) | (rw [ts_ss]; rfl))) dX2_takeAsItIs_59 ?_
            refine tv_iinc (v := ((nI m) + 1)) (lv' := [(2, .int ((nI m) + 1)), (0, .ref (tv_ad c 6)), (1, .int (nI i))]) C dX2_takeAsItIs_60 2 rfl rfl (by decide) rfl ?_
            refine tv_goto C 15 dX2_takeAsItIs_63 (by decide) ?_
            refine tv_lsub [1, 2, 0] rfl ?_
            exact ih15 (m + 1) _ _ (by omega)  (by first | rfl | exact nI_1 _ | (simp only [ek8, ek9, c_3, c_7, eq_true c_8, nc_8, if_true, ↓reduceIte]; done) | (simp [ek8, ek9, c_3, c_7, eq_true c_8, nc_8, if_true]; done) | (exfalso; clear hR C; simp_all; done)) (by first | (rw [← lk_a_m s (r 0) (show m < 8 by omega), ← lk_z1 (by assumption)]; done) | (rw [← lk_a_m s (r 0) (show m < 8 by omega), ← lk_z0 (by assumption)]; done))
      refine tv_lsub [1, 2, 0] rfl ?_
      exact hL15 ((2 * nl) - 0) 0 _ _ (by omega)  (by first | (simp only [ek8, ek9, c_3, if_true, ↓reduceIte]; done) | rfl | (simp [ek8, ek9, c_3, if_true]; done) | (exfalso; clear hR C; simp_all; done)) (by first | (simp only [ek8, ek9, c_3, if_true, ↓reduceIte]; done) | rfl | (simp [ek8, ek9, c_3, if_true]; done) | (exfalso; clear hR C; simp_all; done))
  refine tv_lsub [1, 0] rfl ?_
  exact hL2 (n - 0) 0 _ _ (by omega)  (by first | (simp only [ek8, ek9, if_true, ↓reduceIte]; done) | rfl | (simp [ek8, ek9, if_true]; done) | (exfalso; clear hR C; simp_all; done)) (by rw [lk_a_0, ts_id])
set_option maxHeartbeats 4000000 in
set_option maxRecDepth 100000 in
theorem kX2_takeFresh (c : tv_c) (s r : ts_T)  (k : Nat) (p0 : Int32) (e_p0 : p0 = nI k) (h_p0 : k < 6) (hI : iv s) : tv_Fv c 60 yX2_takeFresh wsX2_takeFresh { frames := 3, cells := 0, slots := 0, locals := 78 } [.ref (tv_ad c 6), .int p0] (eX c s r) (eX c s (ts_a r 0 (lk_f s (r 0) k (2 * tk (s 8 0))))) := by
  refine tv_metV (by decide +kernel) rfl rfl (Nat.le_of_ble_eq_true rfl) (fun X C hR => ?_)
  show tv_V c 60 X (eX c s r) 0 [(0, .ref (tv_ad c 6)), (1, .int p0)] []
  have hC := iv.hC hI
  obtain ⟨h, w, n, nk, nl, ny, nm, li, e2, e3, e9, hnw, hh, hw, hn, hz, hp, e7, hk, e8, hl, e4, hy, e5, hm, e6, hli, hcel, hkin, hban, hwei, hshe⟩ := id hI
  have ek8 := tk_e e8 (by omega)
  refine tv_iconst (v := 0) C dX2_takeFresh_0 (by decide) ?_
  refine tv_istore_n (lv' := [(2, .int 0), (0, .ref (tv_ad c 6)), (1, .int p0)]) C dX2_takeFresh_1 rfl (by decide) rfl ?_
  have hL2 : ∀ (k_2 m : Nat) (x_2_2 : Int32) (w_2 : Nat → va_E), m + k_2 = (2 * nl) → x_2_2 = (nI m) → w_2 = (eX c s (ts_a r 0 (lk_f s (r 0) k m))) → tv_V c 60 X w_2 2 [(0, .ref (tv_ad c 6)), (1, .int p0), (2, .int x_2_2)] [] := by
    intro k_2
    induction k_2 with
    | zero =>
      intro m x_2_2 w_2 hi2  ex_2_2 ew_2
      subst ex_2_2
      subst ew_2
      have hN2 : m = (2 * nl) := by omega
      refine tv_iload_n C dX2_takeFresh_2 rfl 2 rfl ?_
      refine tv_aload_n C dX2_takeFresh_3 rfl 0 rfl ?_
      refine tv_get (ci := 2) (Cn := RX2) (T := TX2) (Nf := 3) (v := .ref (tv_ad c 2)) C 6 (by decide) rfl rfl in_X2_takeFresh_X2 0 (by decide) lk_X2_takeFresh_18 rfl dX2_takeFresh_4 ?_
      refine tv_calli (As := []) (rest := [.int (nI m)]) (ci := 6) (cn := RX6) (T := TX6) (Nf := 11) C 2 (kX6_views c s (ts_a r 0 (lk_f s (r 0) k m))   ) gX2_takeFresh_X6_views rfl yd_X6_views ⟨rfl, rfl⟩ (by decide) (by decide) rfl rfl rfl rfl (Nat.le_of_ble_eq_true rfl) dX2_takeFresh_7 (fun q_1 u_1 z_1 => ?_)
      obtain ⟨rfl, rfl⟩ := z_1
      show tv_V c 60 X (eX c s (ts_a r 0 (lk_f s (r 0) k m))) 10 [(0, .ref (tv_ad c 6)), (1, .int p0), (2, .int (nI m))] [.int (2 * s 8 0), .int (nI m)]
      refine tv_icmp_ge C 62 dX2_takeFresh_10 (by decide) (fun c_2 => ?_) (fun c_2 => absurd (tn_le (tn_mul (tn_l 2) e8) (rfl : nI m = nI m) (by omega) (by omega)) c_2)
      exact hR _ _ _ dX2_takeFresh_62 (by rw [ek8, hN2])
    | succ k_2 ih2 =>
      intro m x_2_2 w_2 hi2  ex_2_2 ew_2
      subst ex_2_2
      subst ew_2
      have hN2 : m < (2 * nl) := by omega
      refine tv_iload_n C dX2_takeFresh_2 rfl 2 rfl ?_
      refine tv_aload_n C dX2_takeFresh_3 rfl 0 rfl ?_
      refine tv_get (ci := 2) (Cn := RX2) (T := TX2) (Nf := 3) (v := .ref (tv_ad c 2)) C 6 (by decide) rfl rfl in_X2_takeFresh_X2 0 (by decide) lk_X2_takeFresh_18 rfl dX2_takeFresh_4 ?_
      refine tv_calli (As := []) (rest := [.int (nI m)]) (ci := 6) (cn := RX6) (T := TX6) (Nf := 11) C 2 (kX6_views c s (ts_a r 0 (lk_f s (r 0) k m))   ) gX2_takeFresh_X6_views rfl yd_X6_views ⟨rfl, rfl⟩ (by decide) (by decide) rfl rfl rfl rfl (Nat.le_of_ble_eq_true rfl) dX2_takeFresh_7 (fun q_3 u_3 z_3 => ?_)
      obtain ⟨rfl, rfl⟩ := z_3
      show tv_V c 60 X (eX c s (ts_a r 0 (lk_f s (r 0) k m))) 10 [(0, .ref (tv_ad c 6)), (1, .int p0), (2, .int (nI m))] [.int (2 * s 8 0), .int (nI m)]
      refine tv_icmp_ge C 62 dX2_takeFresh_10 (by decide) (fun c_4 => absurd c_4 (tn_nle (tn_mul (tn_l 2) e8) (rfl : nI m = nI m) (by omega) (by omega))) (fun c_4 => ?_)
      refine tv_aload_n C dX2_takeFresh_13 rfl 0 rfl ?_
      refine tv_get (ci := 2) (Cn := RX2) (T := TX2) (Nf := 3) (v := .ref (tv_ad c 7)) C 6 (by decide) rfl rfl in_X2_takeFresh_X2 1 (by decide) lk_X2_takeFresh_9 rfl dX2_takeFresh_14 ?_
      refine tv_sipush (v := 192) C dX2_takeFresh_17 (by decide) ?_
      refine tv_iload_n C dX2_takeFresh_20 rfl 2 rfl ?_
      refine tv_iadd C dX2_takeFresh_21 ?_
      refine tv_aload_n C dX2_takeFresh_22 rfl 0 rfl ?_
      refine tv_get (ci := 2) (Cn := RX2) (T := TX2) (Nf := 3) (v := .ref (tv_ad c 2)) C 6 (by decide) rfl rfl in_X2_takeFresh_X2 0 (by decide) lk_X2_takeFresh_18 rfl dX2_takeFresh_23 ?_
      refine tv_aload_n C dX2_takeFresh_26 rfl 0 rfl ?_
      refine tv_get (ci := 2) (Cn := RX2) (T := TX2) (Nf := 3) (v := .ref (tv_ad c 2)) C 6 (by decide) rfl rfl in_X2_takeFresh_X2 0 (by decide) lk_X2_takeFresh_18 rfl dX2_takeFresh_27 ?_
      refine tv_get (ci := 6) (Cn := RX6) (T := TX6) (Nf := 11) (v := .ref (tv_ad c 4)) C 2 (by decide) rfl rfl in_X2_takeFresh_X6 1 (by decide) lk_X2_takeFresh_39 rfl dX2_takeFresh_30 ?_
      refine tv_iload_n C dX2_takeFresh_33 rfl 1 rfl ?_
      refine tv_aald (Cn := RX1) (a := tv_ad c (cp_p k)) C 4 (by decide) rfl 4 rfl k e_p0 (show k < 6 by omega) (by decide) (cp_ld (show k < 6 by omega)) dX2_takeFresh_34 ?_
      refine tv_iconst (v := 0) C dX2_takeFresh_35 (by decide) ?_
      refine tv_iconst (v := 0) C dX2_takeFresh_36 (by decide) ?_
      refine tv_iload_n C dX2_takeFresh_37 rfl 2 rfl ?_
      refine tv_iconst (v := 2) C dX2_takeFresh_38 (by decide) ?_
      refine tv_idiv C (by decide) dX2_takeFresh_39 ?_
      refine tv_iload_n C dX2_takeFresh_40 rfl 2 rfl ?_
      refine tv_iconst (v := 2) C dX2_takeFresh_41 (by decide) ?_
      refine tv_irem C (by decide) dX2_takeFresh_42 ?_
      refine tv_iconst (v := 1) C dX2_takeFresh_43 (by decide) ?_
      refine tv_icmp_ne C 51 dX2_takeFresh_44 (by decide) (fun c_5 => ?_) (fun c_5 => ?_)
      · skip
        have nc_5 : ¬ (m % 2) = 1 := tn_nf (tn_eqI (tn_rem (rfl : nI m = nI m) (tn_l 2) (by omega) (by omega) (by omega)) (tn_l 1) (by omega) (by omega)) c_5
        refine tv_iconst (v := 0) C dX2_takeFresh_51 (by decide) ?_
        refine tv_calli (As := [.ref (tv_ad c (cp_p k)), .int 0, .int 0, .int ((nI m) / 2), .int 0]) (rest := [.int (192 + (nI m)), .ref (tv_ad c 7)]) (ci := 6) (cn := RX6) (T := TX6) (Nf := 11) C 2 (kX6_lookOfCoat c s (ts_a r 0 (lk_f s (r 0) k m)) k (m / 2) 0 0 ((nI m) / 2) 0 (show k < 7 by omega) (tn_div (rfl : nI m = nI m) (tn_l 2) (by omega) (by omega) (by omega)) (by omega) (fun b hb => by rw [cp_v6 h_p0]; exact hban _ (by omega)) ⟨0, by decide, rfl⟩ ⟨0, by decide, rfl⟩ ⟨nm, hm, e5⟩) gX2_takeFresh_X6_lookOfCoat rfl yd_X6_lookOfCoat ⟨rfl, rfl⟩ (by decide) (by decide) rfl rfl rfl rfl (Nat.le_of_ble_eq_true rfl) dX2_takeFresh_52 (fun q_6 u_6 z_6 => ?_)
        obtain ⟨rfl, rfl⟩ := z_6
        rw [lq_lk h_p0]
        show tv_V c 60 X (eX c s (ts_a r 0 (lk_f s (r 0) k m))) 55 [(0, .ref (tv_ad c 6)), (1, .int p0), (2, .int (nI m))] [.int (sp_lk s k 0 0 (m / 2) 0), .int (192 + (nI m)), .ref (tv_ad c 7)]
        refine tv_iast (E' := (eX c s (ts_a r 0 (upd (lk_f s (r 0) k m) (192 + m) (sp_lk s k 0 0 (m / 2) 0))))) C 7 (by decide) rfl (192 + m) (tn_add (tn_l 192) (rfl : nI m = nI m)) (show (192 + m) < 200 by omega) (by decide) ((eX_u_looks c s (ts_a r 0 (lk_f s (r 0) k m)) (upd (lk_f s (r 0) k m) (192 + m) (sp_lk s k 0 0 (m / 2) 0))).trans (by first | (rw [ts_mg]; done) | (rw [ts_mg]; rfl) | (rw [ts_ss]; done) | (rw [ts_ss]; rfl))) dX2_takeFresh_55 ?_
        refine tv_iinc (v := ((nI m) + 1)) (lv' := [(2, .int ((nI m) + 1)), (0, .ref (tv_ad c 6)), (1, .int p0)]) C dX2_takeFresh_56 2 rfl rfl (by decide) rfl ?_
        refine tv_goto C 2 dX2_takeFresh_59 (by decide) ?_
        refine tv_lsub [1, 2, 0] rfl ?_
        exact ih2 (m + 1) _ _ (by omega)  (by first | rfl | exact nI_1 _ | (simp only [ek8, c_4, c_5, nc_5, if_true, ↓reduceIte]; done) | (simp [ek8, c_4, c_5, nc_5, if_true]; done) | (exfalso; clear hR C; simp_all; done)) (by first | (rw [← lk_f_m, ← lk_z1 (by assumption)]; done) | (rw [← lk_f_m, ← lk_z0 (by assumption)]; done))
      · skip
        have nc_5 : (m % 2) = 1 := (tn_eqI (tn_rem (rfl : nI m = nI m) (tn_l 2) (by omega) (by omega) (by omega)) (tn_l 1) (by omega) (by omega)).mp c_5
        refine tv_iconst (v := 1) C dX2_takeFresh_47 (by decide) ?_
        refine tv_goto C 52 dX2_takeFresh_48 (by decide) ?_
        refine tv_calli (As := [.ref (tv_ad c (cp_p k)), .int 0, .int 0, .int ((nI m) / 2), .int 1]) (rest := [.int (192 + (nI m)), .ref (tv_ad c 7)]) (ci := 6) (cn := RX6) (T := TX6) (Nf := 11) C 2 (kX6_lookOfCoat c s (ts_a r 0 (lk_f s (r 0) k m)) k (m / 2) 0 0 ((nI m) / 2) 1 (show k < 7 by omega) (tn_div (rfl : nI m = nI m) (tn_l 2) (by omega) (by omega) (by omega)) (by omega) (fun b hb => by rw [cp_v6 h_p0]; exact hban _ (by omega)) ⟨0, by decide, rfl⟩ ⟨0, by decide, rfl⟩ ⟨nm, hm, e5⟩) gX2_takeFresh_X6_lookOfCoat rfl yd_X6_lookOfCoat ⟨rfl, rfl⟩ (by decide) (by decide) rfl rfl rfl rfl (Nat.le_of_ble_eq_true rfl) dX2_takeFresh_52 (fun q_7 u_7 z_7 => ?_)
        obtain ⟨rfl, rfl⟩ := z_7
        rw [lq_lk h_p0]
        show tv_V c 60 X (eX c s (ts_a r 0 (lk_f s (r 0) k m))) 55 [(0, .ref (tv_ad c 6)), (1, .int p0), (2, .int (nI m))] [.int (sp_lk s k 0 0 (m / 2) 1), .int (192 + (nI m)), .ref (tv_ad c 7)]
        refine tv_iast (E' := (eX c s (ts_a r 0 (upd (lk_f s (r 0) k m) (192 + m) (sp_lk s k 0 0 (m / 2) 1))))) C 7 (by decide) rfl (192 + m) (tn_add (tn_l 192) (rfl : nI m = nI m)) (show (192 + m) < 200 by omega) (by decide) ((eX_u_looks c s (ts_a r 0 (lk_f s (r 0) k m)) (upd (lk_f s (r 0) k m) (192 + m) (sp_lk s k 0 0 (m / 2) 1))).trans (by first | (rw [ts_mg]; done) | (rw [ts_mg]; rfl) | (rw [ts_ss]; done) | (rw [ts_ss]; rfl))) dX2_takeFresh_55 ?_
        refine tv_iinc (v := ((nI m) + 1)) (lv' := [(2, .int ((nI m) + 1)), (0, .ref (tv_ad c 6)), (1, .int p0)]) C dX2_takeFresh_56 2 rfl rfl (by decide) rfl ?_
        refine tv_goto C 2 dX2_takeFresh_59 (by decide) ?_
        refine tv_lsub [1, 2, 0] rfl ?_
        exact ih2 (m + 1) _ _ (by omega)  (by first | rfl | exact nI_1 _ | (simp only [ek8, c_4, eq_true c_5, nc_5, if_true, ↓reduceIte]; done) | (simp [ek8, c_4, eq_true c_5, nc_5, if_true]; done) | (exfalso; clear hR C; simp_all; done)) (by first | (rw [← lk_f_m, ← lk_z1 (by assumption)]; done) | (rw [← lk_f_m, ← lk_z0 (by assumption)]; done))
  refine tv_lsub [1, 2, 0] rfl ?_
  exact hL2 ((2 * nl) - 0) 0 _ _ (by omega)  (by first | (simp only [ek8, if_true, ↓reduceIte]; done) | rfl | (simp [ek8, if_true]; done) | (exfalso; clear hR C; simp_all; done)) (by rw [lk_f_0, ts_id])
set_option maxHeartbeats 4000000 in
set_option maxRecDepth 100000 in
theorem kX2_isSeenBetween (c : tv_c) (s r : ts_T) (A B nl : Nat) (a : Nat) (b : Nat) (p0 p1 : Int32) (e_p0 : p0 = nI a) (h_p0 : a < 24) (e_p1 : p1 = nI b) (h_p1 : b < 24) (hA : A ≤ 24) (hB2 : B ≤ 24) (eA : r 1 a = nI A) (eB : r 1 b = nI B) (e8 : s 8 0 = nI nl) (hl : nl ≤ 4) : tv_Fi c 60 yX2_isSeenBetween wsX2_isSeenBetween { frames := 1, cells := 0, slots := 0, locals := 24 } [.ref (tv_ad c 6), .int p0, .int p1] (eX c s r) (sp_bt s r a b) (eX c s r) := by
  refine tv_metZ (by decide +kernel) rfl rfl (Nat.le_of_ble_eq_true rfl) (fun X C hR => ?_)
  show tv_V c 60 X (eX c s r) 0 [(0, .ref (tv_ad c 6)), (1, .int p0), (2, .int p1)] []
  have ek8 := tk_e e8 (by omega)
  have ekA := tk_e eA (by omega)
  have ekB := tk_e eB (by omega)
  refine tv_aload_n C dX2_isSeenBetween_0 rfl 0 rfl ?_
  refine tv_get (ci := 2) (Cn := RX2) (T := TX2) (Nf := 3) (v := .ref (tv_ad c 8)) C 6 (by decide) rfl rfl in_X2_isSeenBetween_X2 2 (by decide) lk_X2_isSeenBetween_15 rfl dX2_isSeenBetween_1 ?_
  refine tv_iload_n C dX2_isSeenBetween_4 rfl 1 rfl ?_
  refine tv_iald (f := (r 1)) (v := (r 1 a)) C 8 (by decide) rfl a e_p0 (show a < 24 by omega) (by decide) rfl dX2_isSeenBetween_5 ?_
  refine tv_bipush (v := 8) C dX2_isSeenBetween_6 (by decide) ?_
  refine tv_imul C dX2_isSeenBetween_8 ?_
  refine tv_istore_n (lv' := [(3, .int ((r 1 a) * 8)), (0, .ref (tv_ad c 6)), (1, .int p0), (2, .int p1)]) C dX2_isSeenBetween_9 rfl (by decide) rfl ?_
  refine tv_aload_n C dX2_isSeenBetween_10 rfl 1 rfl ?_
  refine tv_get (ci := 2) (Cn := RX2) (T := TX2) (Nf := 3) (v := .ref (tv_ad c 8)) C 6 (by decide) rfl rfl in_X2_isSeenBetween_X2 2 (by decide) lk_X2_isSeenBetween_15 rfl dX2_isSeenBetween_11 ?_
  refine tv_iload_n C dX2_isSeenBetween_14 rfl 3 rfl ?_
  refine tv_iald (f := (r 1)) (v := (r 1 b)) C 8 (by decide) rfl b e_p1 (show b < 24 by omega) (by decide) rfl dX2_isSeenBetween_15 ?_
  refine tv_bipush (v := 8) C dX2_isSeenBetween_16 (by decide) ?_
  refine tv_imul C dX2_isSeenBetween_18 ?_
  refine tv_istore (lv' := [(4, .int ((r 1 b) * 8)), (3, .int ((r 1 a) * 8)), (0, .ref (tv_ad c 6)), (1, .int p0), (2, .int p1)]) C dX2_isSeenBetween_19 (by decide) rfl ?_
  refine tv_iconst (v := 0) C dX2_isSeenBetween_21 (by decide) ?_
  refine tv_istore (lv' := [(5, .int 0), (4, .int ((r 1 b) * 8)), (3, .int ((r 1 a) * 8)), (0, .ref (tv_ad c 6)), (1, .int p0), (2, .int p1)]) C dX2_isSeenBetween_22 (by decide) rfl ?_
  have hL24 : ∀ (k_24 m : Nat) (x_24_5 : Int32), m + k_24 = (2 * nl) → (sp_any (sp_bp s r A B) m = false) → x_24_5 = (nI m) → tv_V c 60 X (eX c s r) 24 [(0, .ref (tv_ad c 6)), (1, .int p0), (2, .int p1), (3, .int ((r 1 a) * 8)), (4, .int ((r 1 b) * 8)), (5, .int x_24_5)] [] := by
    intro k_24
    induction k_24 with
    | zero =>
      intro m x_24_5 hi24 q0 ex_24_5
      subst ex_24_5
      have hN24 : m = (2 * nl) := by omega
      refine tv_iload C dX2_isSeenBetween_24 5 rfl ?_
      refine tv_aload_n C dX2_isSeenBetween_26 rfl 0 rfl ?_
      refine tv_get (ci := 2) (Cn := RX2) (T := TX2) (Nf := 3) (v := .ref (tv_ad c 2)) C 6 (by decide) rfl rfl in_X2_isSeenBetween_X2 0 (by decide) lk_X2_isSeenBetween_18 rfl dX2_isSeenBetween_27 ?_
      refine tv_calli (As := []) (rest := [.int (nI m)]) (ci := 6) (cn := RX6) (T := TX6) (Nf := 11) C 2 (kX6_views c s r   ) gX2_isSeenBetween_X6_views rfl yd_X6_views ⟨rfl, rfl⟩ (by decide) (by decide) rfl rfl rfl rfl (Nat.le_of_ble_eq_true rfl) dX2_isSeenBetween_30 (fun q_1 u_1 z_1 => ?_)
      obtain ⟨rfl, rfl⟩ := z_1
      refine tv_icmp_ge C 77 dX2_isSeenBetween_33 (by decide) (fun c_2 => ?_) (fun c_2 => absurd (tn_le (tn_mul (tn_l 2) e8) (rfl : nI m = nI m) (by omega) (by omega)) c_2)
      refine tv_iconst (v := 0) C dX2_isSeenBetween_77 (by decide) ?_
      exact hR _ _ _ _ dX2_isSeenBetween_78 (by first | rfl | exact tn_nz (sp_in_z _ _ _) | exact tn_nz (sp_ix_z _ _)) ⟨by rw [sp_bt, ekA, ekB, ek8, ← hN24, q0]; rfl, by first | (simp only [q0, c_2, if_true, ts_ss, ts_aa, ↓reduceIte]; done) | rfl | (simp [q0, c_2, if_true, ts_ss, ts_aa]; done) | (exfalso; clear hR C; simp_all; done)⟩
    | succ k_24 ih24 =>
      intro m x_24_5 hi24 q0 ex_24_5
      subst ex_24_5
      have hN24 : m < (2 * nl) := by omega
      refine tv_iload C dX2_isSeenBetween_24 5 rfl ?_
      refine tv_aload_n C dX2_isSeenBetween_26 rfl 0 rfl ?_
      refine tv_get (ci := 2) (Cn := RX2) (T := TX2) (Nf := 3) (v := .ref (tv_ad c 2)) C 6 (by decide) rfl rfl in_X2_isSeenBetween_X2 0 (by decide) lk_X2_isSeenBetween_18 rfl dX2_isSeenBetween_27 ?_
      refine tv_calli (As := []) (rest := [.int (nI m)]) (ci := 6) (cn := RX6) (T := TX6) (Nf := 11) C 2 (kX6_views c s r   ) gX2_isSeenBetween_X6_views rfl yd_X6_views ⟨rfl, rfl⟩ (by decide) (by decide) rfl rfl rfl rfl (Nat.le_of_ble_eq_true rfl) dX2_isSeenBetween_30 (fun q_3 u_3 z_3 => ?_)
      obtain ⟨rfl, rfl⟩ := z_3
      refine tv_icmp_ge C 77 dX2_isSeenBetween_33 (by decide) (fun c_4 => absurd c_4 (tn_nle (tn_mul (tn_l 2) e8) (rfl : nI m = nI m) (by omega) (by omega))) (fun c_4 => ?_)
      refine tv_aload_n C dX2_isSeenBetween_36 rfl 0 rfl ?_
      refine tv_get (ci := 2) (Cn := RX2) (T := TX2) (Nf := 3) (v := .ref (tv_ad c 7)) C 6 (by decide) rfl rfl in_X2_isSeenBetween_X2 1 (by decide) lk_X2_isSeenBetween_9 rfl dX2_isSeenBetween_37 ?_
      refine tv_iload_n C dX2_isSeenBetween_40 rfl 3 rfl ?_
      refine tv_iload C dX2_isSeenBetween_41 5 rfl ?_
      refine tv_iadd C dX2_isSeenBetween_43 ?_
      refine tv_iald (f := (r 0)) (v := (r 0 ((8 * A) + m))) C 7 (by decide) rfl ((8 * A) + m) (tn_add (tn_mulc eA (tn_l 8)) (rfl : nI m = nI m)) (show ((8 * A) + m) < 200 by omega) (by decide) rfl dX2_isSeenBetween_44 ?_
      refine tv_aload_n C dX2_isSeenBetween_45 rfl 0 rfl ?_
      refine tv_get (ci := 2) (Cn := RX2) (T := TX2) (Nf := 3) (v := .ref (tv_ad c 7)) C 6 (by decide) rfl rfl in_X2_isSeenBetween_X2 1 (by decide) lk_X2_isSeenBetween_9 rfl dX2_isSeenBetween_46 ?_
      refine tv_iload C dX2_isSeenBetween_49 4 rfl ?_
      refine tv_iload C dX2_isSeenBetween_51 5 rfl ?_
      refine tv_iadd C dX2_isSeenBetween_53 ?_
      refine tv_iald (f := (r 0)) (v := (r 0 ((8 * B) + m))) C 7 (by decide) rfl ((8 * B) + m) (tn_add (tn_mulc eB (tn_l 8)) (rfl : nI m = nI m)) (show ((8 * B) + m) < 200 by omega) (by decide) rfl dX2_isSeenBetween_54 ?_
      refine tv_isub C dX2_isSeenBetween_55 ?_
      refine tv_abs C wd_X2_isSeenBetween_m65 wd_X2_isSeenBetween_stabs wd_X2_isSeenBetween_inim wd_X2_isSeenBetween_cdabs (by decide) (Nat.le_of_ble_eq_true rfl) dX2_isSeenBetween_56 ?_
      refine tv_aload_n C dX2_isSeenBetween_59 rfl 0 rfl ?_
      refine tv_get (ci := 2) (Cn := RX2) (T := TX2) (Nf := 3) (v := .ref (tv_ad c 2)) C 6 (by decide) rfl rfl in_X2_isSeenBetween_X2 0 (by decide) lk_X2_isSeenBetween_18 rfl dX2_isSeenBetween_60 ?_
      refine tv_get (ci := 6) (Cn := RX6) (T := TX6) (Nf := 11) (v := .int (s 6 0)) C 2 (by decide) rfl rfl in_X2_isSeenBetween_X6 10 (by decide) lk_X2_isSeenBetween_70 rfl dX2_isSeenBetween_63 ?_
      refine tv_icmp_lt C 71 dX2_isSeenBetween_66 (by decide) (fun c_5 => ?_) (fun c_5 => ?_)
      · skip
        refine tv_iinc (v := ((nI m) + 1)) (lv' := [(5, .int ((nI m) + 1)), (0, .ref (tv_ad c 6)), (1, .int p0), (2, .int p1), (3, .int ((r 1 a) * 8)), (4, .int ((r 1 b) * 8))]) C dX2_isSeenBetween_71 5 rfl rfl (by decide) rfl ?_
        refine tv_goto C 24 dX2_isSeenBetween_74 (by decide) ?_
        refine tv_lsub [1, 2, 3, 4, 5, 0] rfl ?_
        exact ih24 (m + 1) _ (by omega) (by exact sp_any_s q0 (by rw [ab_abs] at *; simp [sp_bp, q0, c_4, c_5, tn_d_lt c_5])) (by first | rfl | exact nI_1 _ | (simp only [q0, c_4, c_5, tn_d_lt c_5, if_true, ↓reduceIte]; done) | (simp [q0, c_4, c_5, tn_d_lt c_5, if_true]; done) | (exfalso; clear hR C; simp_all; done))
      · skip
        refine tv_iconst (v := 1) C dX2_isSeenBetween_69 (by decide) ?_
        exact hR _ _ _ _ dX2_isSeenBetween_70 (by first | rfl | exact tn_nz (sp_in_z _ _ _) | exact tn_nz (sp_ix_z _ _)) ⟨by rw [ab_abs] at *; rw [sp_bt, ekA, ekB, ek8, sp_any_t hN24 (by simp [sp_bp, q0, c_4, c_5, tn_d_nlt c_5])]; rfl, by first | (simp only [q0, c_4, c_5, tn_d_nlt c_5, if_true, ts_ss, ts_aa, ↓reduceIte]; done) | rfl | (simp [q0, c_4, c_5, tn_d_nlt c_5, if_true, ts_ss, ts_aa]; done) | (exfalso; clear hR C; simp_all; done)⟩
  refine tv_lsub [3, 4, 5, 2, 1, 0] rfl ?_
  exact hL24 ((2 * nl) - 0) 0 _ (by omega) (by rfl) (by first | (simp only [if_true, ↓reduceIte]; done) | rfl | (simp [if_true]; done) | (exfalso; clear hR C; simp_all; done))
