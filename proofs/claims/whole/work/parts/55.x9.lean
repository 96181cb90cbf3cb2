theorem up_dec {f : Nat → Int32} {a c n : Nat} (ha : a < n) : upd (ts_f (fun c => nI c) f n) c 24 a = if (fun j => decide (j = c)) a = true then 24 else nI a := by
  unfold upd ts_f
  by_cases q : a = c
  · rw [if_pos q, if_pos (decide_eq_true q)]
  · rw [if_neg q, if_pos ha, if_neg (by simpa using q)]
set_option maxRecDepth 20000 in
theorem in_X7_seen_X7 : ∀ w ∈ u_ws RX7 TX7 7, w ∈ wsX7_seen := by decide +kernel
set_option maxRecDepth 20000 in
theorem lk_X7_seen_29 : Cond.fieldLink RX7 29 (TX7 2).1 (TX7 2).2.1 (TX7 2).2.2.1 ∈ wsX7_seen := by decide +kernel
theorem yd_X2_takeAsItIs : yX2_takeAsItIs.cls = RX2 ∧ yX2_takeAsItIs.cls ≠ "java/lang/invoke/MethodHandle" ∧ yX2_takeAsItIs.cls ≠ "java/lang/invoke/VarHandle" ∧ (parseMethodDescriptor yX2_takeAsItIs.desc).map (fun d => d.parameters.length) = some 0 := by decide +kernel
theorem yd_X2_countSeen : yX2_countSeen.cls = RX2 ∧ yX2_countSeen.cls ≠ "java/lang/invoke/MethodHandle" ∧ yX2_countSeen.cls ≠ "java/lang/invoke/VarHandle" ∧ (parseMethodDescriptor yX2_countSeen.desc).map (fun d => d.parameters.length) = some 0 := by decide +kernel
set_option maxRecDepth 20000 in
theorem lk_X7_seen_20 : Cond.fieldLink RX7 20 (TX7 1).1 (TX7 1).2.1 (TX7 1).2.2.1 ∈ wsX7_seen := by decide +kernel
theorem yd_X2_countSeenOf : yX2_countSeenOf.cls = RX2 ∧ yX2_countSeenOf.cls ≠ "java/lang/invoke/MethodHandle" ∧ yX2_countSeenOf.cls ≠ "java/lang/invoke/VarHandle" ∧ (parseMethodDescriptor yX2_countSeenOf.desc).map (fun d => d.parameters.length) = some 1 := by decide +kernel
set_option maxRecDepth 20000 in
theorem in_X7_hide_X7 : ∀ w ∈ u_ws RX7 TX7 7, w ∈ wsX7_hide := by decide +kernel
set_option maxRecDepth 20000 in
theorem lk_X7_hide_20 : Cond.fieldLink RX7 20 (TX7 1).1 (TX7 1).2.1 (TX7 1).2.2.1 ∈ wsX7_hide := by decide +kernel
set_option maxRecDepth 20000 in
theorem lk_X7_hide_29 : Cond.fieldLink RX7 29 (TX7 2).1 (TX7 2).2.1 (TX7 2).2.2.1 ∈ wsX7_hide := by decide +kernel
set_option maxRecDepth 20000 in
theorem in_X7_hide_X6 : ∀ w ∈ u_ws RX6 TX6 11, w ∈ wsX7_hide := by decide +kernel
set_option maxRecDepth 20000 in
theorem lk_X7_hide_80 : Cond.fieldLink RX7 80 (TX6 5).1 (TX6 5).2.1 (TX6 5).2.2.1 ∈ wsX7_hide := by decide +kernel
set_option maxRecDepth 20000 in
theorem in_X7_leave_X7 : ∀ w ∈ u_ws RX7 TX7 7, w ∈ wsX7_leave := by decide +kernel
set_option maxRecDepth 20000 in
theorem lk_X7_leave_20 : Cond.fieldLink RX7 20 (TX7 1).1 (TX7 1).2.1 (TX7 1).2.2.1 ∈ wsX7_leave := by decide +kernel
set_option maxRecDepth 20000 in
theorem lk_X7_leave_29 : Cond.fieldLink RX7 29 (TX7 2).1 (TX7 2).2.1 (TX7 2).2.2.1 ∈ wsX7_leave := by decide +kernel
theorem yd_X2_takeFresh : yX2_takeFresh.cls = RX2 ∧ yX2_takeFresh.cls ≠ "java/lang/invoke/MethodHandle" ∧ yX2_takeFresh.cls ≠ "java/lang/invoke/VarHandle" ∧ (parseMethodDescriptor yX2_takeFresh.desc).map (fun d => d.parameters.length) = some 1 := by decide +kernel
theorem yd_X2_paintOne : yX2_paintOne.cls = RX2 ∧ yX2_paintOne.cls ≠ "java/lang/invoke/MethodHandle" ∧ yX2_paintOne.cls ≠ "java/lang/invoke/VarHandle" ∧ (parseMethodDescriptor yX2_paintOne.desc).map (fun d => d.parameters.length) = some 1 := by decide +kernel
set_option maxHeartbeats 4000000 in
set_option maxRecDepth 100000 in
theorem kX7_seen (c : tv_c) (s r : ts_T)  (p0 : Int32) (hI : iv s) : tv_Mi c 60 yX7_seen wsX7_seen { frames := 5, cells := 0, slots := 0, locals := 124 } [.ref (tv_ad c 0), .int p0] (eX c s r) (fun q_0 u_0 => q_0 = sp_seen s p0 ∧ ∃ r_0, u_0 = eX c s r_0) := by
  refine tv_metI (by decide +kernel) rfl rfl (Nat.le_of_ble_eq_true rfl) (fun X C hR => ?_)
  show tv_V c 60 X (eX c s r) 0 [(0, .ref (tv_ad c 0)), (1, .int p0)] []
  have hC := iv.hC hI
  obtain ⟨h, w, n, nk, nl, ny, nm, li, e2, e3, e9, hnw, hh, hw, hn, hz, hp, e7, hk, e8, hl, e4, hy, e5, hm, e6, hli, hcel, hkin, hban, hwei, hshe⟩ := id hI
  have ek9 := tk_e e9 (by omega)
  have ek3 := tk_e e3 (by omega)
  refine tv_iload_n C dX7_seen_0 rfl 1 rfl ?_
  refine tv_iconst (v := (-1)) C dX7_seen_1 (by decide) ?_
  refine tv_icmp_eq C 18 dX7_seen_2 (by decide) (fun c_1 => ?_) (fun c_1 => ?_)
  · skip
    refine tv_aload_n C dX7_seen_18 rfl 0 rfl ?_
    refine tv_get (ci := 7) (Cn := RX7) (T := TX7) (Nf := 7) (v := .ref (tv_ad c 6)) C 0 (by decide) rfl rfl in_X7_seen_X7 2 (by decide) lk_X7_seen_29 rfl dX7_seen_19 ?_
    refine tv_callv (As := []) (rest := []) (ci := 2) (cn := RX2) (T := TX2) (Nf := 3) C 6 (kX2_takeAsItIs c s r   hI) gX7_seen_X2_takeAsItIs rfl yd_X2_takeAsItIs ⟨rfl, rfl⟩ (by decide) (by decide) rfl rfl rfl rfl (Nat.le_of_ble_eq_true rfl) dX7_seen_22 (fun u_2 z_2 => ?_)
    subst z_2
    have hv := vw_id (s := s) (r := (ts_a (ts_a r 0 (lk_a s (r 0) (2 * tk (s 8 0)) (tk (s 9 0)) 0)) 1 (ts_f (fun c => nI c) (r 1) (tk (s 9 0))))) (f := r 0) (g := r 0) e9 hn e8 hl (fun q _ => rfl) (fun a ha => by show ts_f (fun c => nI c) (r 1) (tk (s 9 0)) a = nI a; unfold ts_f; rw [if_pos (by rw [ek9]; exact ha)])
    refine tv_iload_n C dX7_seen_25 rfl 1 rfl ?_
    refine tv_iconst (v := (-1)) C dX7_seen_26 (by decide) ?_
    refine tv_icmp_ne C 40 dX7_seen_27 (by decide) (fun c_3 => absurd c_1 c_3) (fun c_3 => ?_)
    refine tv_aload_n C dX7_seen_30 rfl 0 rfl ?_
    refine tv_get (ci := 7) (Cn := RX7) (T := TX7) (Nf := 7) (v := .ref (tv_ad c 6)) C 0 (by decide) rfl rfl in_X7_seen_X7 2 (by decide) lk_X7_seen_29 rfl dX7_seen_31 ?_
    refine tv_calli (As := []) (rest := []) (ci := 2) (cn := RX2) (T := TX2) (Nf := 3) C 6 (kX2_countSeen c s (ts_a (ts_a r 0 (lk_a s (r 0) (2 * tk (s 8 0)) (tk (s 9 0)) 0)) 1 (ts_f (fun c => nI c) (r 1) (tk (s 9 0))))   hI hv.2) gX7_seen_X2_countSeen rfl yd_X2_countSeen ⟨rfl, rfl⟩ (by decide) (by decide) rfl rfl rfl rfl (Nat.le_of_ble_eq_true rfl) dX7_seen_34 (fun q_4 u_4 z_4 => ?_)
    obtain ⟨rfl, rfl⟩ := z_4
    rw [cs_sn hv.1 (fun _ _ => rfl) e2 e3 e9 hnw hn hh (fun q => (hp q).2.1) hw (show tk (s 9 0) ≤ n by omega)]
    show tv_V c 60 X (eX c s (ts_a (ts_a r 0 (lk_a s (r 0) (2 * tk (s 8 0)) (tk (s 9 0)) 0)) 1 (ts_f (fun c => nI c) (r 1) (tk (s 9 0))))) 37 [(0, .ref (tv_ad c 0)), (1, .int p0)] [.int (sp_sn s (-9) (tk (s 9 0)))]
    refine tv_goto C 48 dX7_seen_37 (by decide) ?_
    exact hR _ _ _ _ dX7_seen_48 ⟨by simp only [sp_seen, eq_true c_1, eq_true c_3, ↓reduceIte]; try (rw [ek9, ← ej_p0]), (ts_a (ts_a r 0 (lk_a s (r 0) (2 * tk (s 8 0)) (tk (s 9 0)) 0)) 1 (ts_f (fun c => nI c) (r 1) (tk (s 9 0)))), by first | (simp only [sp_seen, eq_true c_1, eq_true c_3, if_true, ts_ss, ts_aa, ↓reduceIte]; done) | rfl | (simp [sp_seen, eq_true c_1, eq_true c_3, if_true, ts_ss, ts_aa]; done) | (exfalso; clear hR C; simp_all; done)⟩
  · skip
    refine tv_aload_n C dX7_seen_5 rfl 0 rfl ?_
    refine tv_get (ci := 7) (Cn := RX7) (T := TX7) (Nf := 7) (v := .ref (tv_ad c 2)) C 0 (by decide) rfl rfl in_X7_seen_X7 1 (by decide) lk_X7_seen_20 rfl dX7_seen_6 ?_
    refine tv_iload_n C dX7_seen_9 rfl 1 rfl ?_
    refine tv_calli (As := [.int p0]) (rest := []) (ci := 6) (cn := RX6) (T := TX6) (Nf := 11) C 2 (kX6_hasCell c s r  p0 ) gX7_seen_X6_hasCell rfl yd_X6_hasCell ⟨rfl, rfl⟩ (by decide) (by decide) rfl rfl rfl rfl (Nat.le_of_ble_eq_true rfl) dX7_seen_10 (fun q_5 u_5 z_5 => ?_)
    obtain ⟨rfl, rfl⟩ := z_5
    refine tv_if_ne C 18 dX7_seen_13 (by decide) (fun c_6 => ?_) (fun c_6 => ?_)
    · skip
      obtain ⟨j_p0, hj_p0, ej_p0, ek_p0⟩ := in_ix e9 (by omega) c_6
      obtain ⟨fs_p0, ⟨b_p0, hb_p0, eb_p0⟩, fh_p0, fa_p0, fz_p0⟩ := hcel j_p0 hj_p0
      refine tv_aload_n C dX7_seen_18 rfl 0 rfl ?_
      refine tv_get (ci := 7) (Cn := RX7) (T := TX7) (Nf := 7) (v := .ref (tv_ad c 6)) C 0 (by decide) rfl rfl in_X7_seen_X7 2 (by decide) lk_X7_seen_29 rfl dX7_seen_19 ?_
      refine tv_callv (As := []) (rest := []) (ci := 2) (cn := RX2) (T := TX2) (Nf := 3) C 6 (kX2_takeAsItIs c s r   hI) gX7_seen_X2_takeAsItIs rfl yd_X2_takeAsItIs ⟨rfl, rfl⟩ (by decide) (by decide) rfl rfl rfl rfl (Nat.le_of_ble_eq_true rfl) dX7_seen_22 (fun u_7 z_7 => ?_)
      subst z_7
      have hv := vw_id (s := s) (r := (ts_a (ts_a r 0 (lk_a s (r 0) (2 * tk (s 8 0)) (tk (s 9 0)) 0)) 1 (ts_f (fun c => nI c) (r 1) (tk (s 9 0))))) (f := r 0) (g := r 0) e9 hn e8 hl (fun q _ => rfl) (fun a ha => by show ts_f (fun c => nI c) (r 1) (tk (s 9 0)) a = nI a; unfold ts_f; rw [if_pos (by rw [ek9]; exact ha)])
      refine tv_iload_n C dX7_seen_25 rfl 1 rfl ?_
      refine tv_iconst (v := (-1)) C dX7_seen_26 (by decide) ?_
      refine tv_icmp_ne C 40 dX7_seen_27 (by decide) (fun c_8 => ?_) (fun c_8 => absurd c_8 c_1)
      refine tv_aload_n C dX7_seen_40 rfl 0 rfl ?_
      refine tv_get (ci := 7) (Cn := RX7) (T := TX7) (Nf := 7) (v := .ref (tv_ad c 6)) C 0 (by decide) rfl rfl in_X7_seen_X7 2 (by decide) lk_X7_seen_29 rfl dX7_seen_41 ?_
      refine tv_iload_n C dX7_seen_44 rfl 1 rfl ?_
      refine tv_calli (As := [.int p0]) (rest := []) (ci := 2) (cn := RX2) (T := TX2) (Nf := 3) C 6 (kX2_countSeenOf c s (ts_a (ts_a r 0 (lk_a s (r 0) (2 * tk (s 8 0)) (tk (s 9 0)) 0)) 1 (ts_f (fun c => nI c) (r 1) (tk (s 9 0)))) j_p0 p0 ej_p0 (by omega) hI hv.2 (by rw [ek9]; exact hj_p0)) gX7_seen_X2_countSeenOf rfl yd_X2_countSeenOf ⟨rfl, rfl⟩ (by decide) (by decide) rfl rfl rfl rfl (Nat.le_of_ble_eq_true rfl) dX7_seen_45 (fun q_9 u_9 z_9 => ?_)
      obtain ⟨rfl, rfl⟩ := z_9
      rw [co_sn hv.1 (fun _ _ => rfl) e2 e3 e9 hnw hn hh (hp (by omega)).2.1 hw hj_p0]
      show tv_V c 60 X (eX c s (ts_a (ts_a r 0 (lk_a s (r 0) (2 * tk (s 8 0)) (tk (s 9 0)) 0)) 1 (ts_f (fun c => nI c) (r 1) (tk (s 9 0))))) 48 [(0, .ref (tv_ad c 0)), (1, .int p0)] [.int (sp_sn s (nI j_p0) n)]
      exact hR _ _ _ _ dX7_seen_48 ⟨by simp only [sp_seen, c_1, c_6, ek_p0, c_8, ↓reduceIte]; try (rw [ek9, ← ej_p0]), (ts_a (ts_a r 0 (lk_a s (r 0) (2 * tk (s 8 0)) (tk (s 9 0)) 0)) 1 (ts_f (fun c => nI c) (r 1) (tk (s 9 0)))), by first | (simp only [sp_seen, c_1, c_6, ek_p0, c_8, if_true, ts_ss, ts_aa, ↓reduceIte]; done) | rfl | (simp [sp_seen, c_1, c_6, ek_p0, c_8, if_true, ts_ss, ts_aa]; done) | (exfalso; clear hR C; simp_all; done)⟩
    · skip
      refine tv_iconst (v := (-1)) C dX7_seen_16 (by decide) ?_
      exact hR _ _ _ _ dX7_seen_17 ⟨by first | (simp only [sp_seen, c_1, eq_true c_6, if_true, ↓reduceIte]; done) | rfl | (simp [sp_seen, c_1, eq_true c_6, if_true]; done) | (exfalso; clear hR C; simp_all; done), r, by first | (simp only [sp_seen, c_1, eq_true c_6, if_true, ts_ss, ts_aa, ↓reduceIte]; done) | rfl | (simp [sp_seen, c_1, eq_true c_6, if_true, ts_ss, ts_aa]; done) | (exfalso; clear hR C; simp_all; done)⟩
set_option maxHeartbeats 4000000 in
set_option maxRecDepth 100000 in
theorem kX7_hide (c : tv_c) (s r : ts_T)  (p0 : Int32) (hI : iv s) : tv_Mi c 60 yX7_hide wsX7_hide { frames := 5, cells := 0, slots := 0, locals := 124 } [.ref (tv_ad c 0), .int p0] (eX c s r) (fun q_0 u_0 => q_0 = sp_hide s p0 ∧ ∃ r_0, u_0 = eX c s r_0) := by
  refine tv_metI (by decide +kernel) rfl rfl (Nat.le_of_ble_eq_true rfl) (fun X C hR => ?_)
  show tv_V c 60 X (eX c s r) 0 [(0, .ref (tv_ad c 0)), (1, .int p0)] []
  have hC := iv.hC hI
  obtain ⟨h, w, n, nk, nl, ny, nm, li, e2, e3, e9, hnw, hh, hw, hn, hz, hp, e7, hk, e8, hl, e4, hy, e5, hm, e6, hli, hcel, hkin, hban, hwei, hshe⟩ := id hI
  have ek9 := tk_e e9 (by omega)
  have ek3 := tk_e e3 (by omega)
  refine tv_iload_n C dX7_hide_0 rfl 1 rfl ?_
  refine tv_iconst (v := 0) C dX7_hide_1 (by decide) ?_
  refine tv_iconst (v := 1) C dX7_hide_2 (by decide) ?_
  refine tv_callis (As := [.int p0, .int 0, .int 1]) (rest := []) C (kX7_isWithin c s r  p0 0 1 ) gX7_hide_X7_isWithin rfl yd_X7_isWithin ⟨rfl, rfl⟩ (by decide) rfl rfl (Nat.le_of_ble_eq_true rfl) dX7_hide_3 (fun q_1 u_1 z_1 => ?_)
  obtain ⟨rfl, rfl⟩ := z_1
  refine tv_if_ne C 12 dX7_hide_6 (by decide) (fun c_2 => ?_) (fun c_2 => ?_)
  · skip
    obtain ⟨j_p0, hj_p0, ej_p0, ek_p0⟩ := in_in (b := 1) (by decide) c_2
    refine tv_aload_n C dX7_hide_12 rfl 0 rfl ?_
    refine tv_get (ci := 7) (Cn := RX7) (T := TX7) (Nf := 7) (v := .ref (tv_ad c 2)) C 0 (by decide) rfl rfl in_X7_hide_X7 1 (by decide) lk_X7_hide_20 rfl dX7_hide_13 ?_
    refine tv_calli (As := []) (rest := []) (ci := 6) (cn := RX6) (T := TX6) (Nf := 11) C 2 (kX6_stands c s r n  e9 hn) gX7_hide_X6_stands rfl yd_X6_stands ⟨rfl, rfl⟩ (by decide) (by decide) rfl rfl rfl rfl (Nat.le_of_ble_eq_true rfl) dX7_hide_16 (fun q_3 u_3 z_3 => ?_)
    obtain ⟨rfl, rfl⟩ := z_3
    refine tv_if_ne C 25 dX7_hide_19 (by decide) (fun c_4 => ?_) (fun c_4 => ?_)
    · skip
      have mc_4 := sz_n c_4
      refine tv_aload_n C dX7_hide_25 rfl 0 rfl ?_
      refine tv_get (ci := 7) (Cn := RX7) (T := TX7) (Nf := 7) (v := .ref (tv_ad c 6)) C 0 (by decide) rfl rfl in_X7_hide_X7 2 (by decide) lk_X7_hide_29 rfl dX7_hide_26 ?_
      refine tv_callv (As := []) (rest := []) (ci := 2) (cn := RX2) (T := TX2) (Nf := 3) C 6 (kX2_takeAsItIs c s r   hI) gX7_hide_X2_takeAsItIs rfl yd_X2_takeAsItIs ⟨rfl, rfl⟩ (by decide) (by decide) rfl rfl rfl rfl (Nat.le_of_ble_eq_true rfl) dX7_hide_29 (fun u_5 z_5 => ?_)
      subst z_5
      have hv := vw_id (s := s) (r := (ts_a (ts_a r 0 (lk_a s (r 0) (2 * tk (s 8 0)) (tk (s 9 0)) 0)) 1 (ts_f (fun c => nI c) (r 1) (tk (s 9 0))))) (f := r 0) (g := r 0) e9 hn e8 hl (fun q _ => rfl) (fun a ha => by show ts_f (fun c => nI c) (r 1) (tk (s 9 0)) a = nI a; unfold ts_f; rw [if_pos (by rw [ek9]; exact ha)])
      refine tv_iconst (v := 0) C dX7_hide_32 (by decide) ?_
      refine tv_istore_n (lv' := [(2, .int 0), (0, .ref (tv_ad c 0)), (1, .int p0)]) C dX7_hide_33 rfl (by decide) rfl ?_
      refine tv_iconst (v := 0) C dX7_hide_34 (by decide) ?_
      refine tv_istore_n (lv' := [(3, .int 0), (2, .int 0), (0, .ref (tv_ad c 0)), (1, .int p0)]) C dX7_hide_35 rfl (by decide) rfl ?_
      refine tv_iconst (v := 0) C dX7_hide_36 (by decide) ?_
      refine tv_istore (lv' := [(4, .int 0), (3, .int 0), (2, .int 0), (0, .ref (tv_ad c 0)), (1, .int p0)]) C dX7_hide_37 (by decide) rfl ?_
      have hL39 : ∀ (k_39 i : Nat) (x_39_2 : Int32) (x_39_3 : Int32) (x_39_4 : Int32), i + k_39 = n → x_39_2 = (sp_hd (fun q => sp_sn s (nI q) n) i).1 → x_39_3 = (sp_hd (fun q => sp_sn s (nI q) n) i).2 → x_39_4 = (nI i) → tv_V c 60 X (eX c s (ts_a (ts_a r 0 (lk_a s (r 0) (2 * tk (s 8 0)) (tk (s 9 0)) 0)) 1 (ts_f (fun c => nI c) (r 1) (tk (s 9 0))))) 39 [(0, .ref (tv_ad c 0)), (1, .int p0), (2, .int x_39_2), (3, .int x_39_3), (4, .int x_39_4)] [] := by
        intro k_39
        induction k_39 with
        | zero =>
          intro i x_39_2 x_39_3 x_39_4 hi39  ex_39_2 ex_39_3 ex_39_4
          subst ex_39_2
          subst ex_39_3
          subst ex_39_4
          have hN39 : i = n := by omega
          refine tv_iload C dX7_hide_39 4 rfl ?_
          refine tv_aload_n C dX7_hide_41 rfl 0 rfl ?_
          refine tv_get (ci := 7) (Cn := RX7) (T := TX7) (Nf := 7) (v := .ref (tv_ad c 2)) C 0 (by decide) rfl rfl in_X7_hide_X7 1 (by decide) lk_X7_hide_20 rfl dX7_hide_42 ?_
          refine tv_get (ci := 6) (Cn := RX6) (T := TX6) (Nf := 11) (v := .int (s 9 0)) C 2 (by decide) rfl rfl in_X7_hide_X6 5 (by decide) lk_X7_hide_80 rfl dX7_hide_45 ?_
          refine tv_icmp_ge C 80 dX7_hide_48 (by decide) (fun c_6 => ?_) (fun c_6 => absurd (tn_le e9 (rfl : nI i = nI i) (by omega) (by omega)) c_6)
          refine tv_iload_n C dX7_hide_80 rfl 1 rfl ?_
          refine tv_if_ne C 88 dX7_hide_81 (by decide) (fun c_7 => ?_) (fun c_7 => ?_)
          · skip
            refine tv_iload_n C dX7_hide_88 rfl 3 rfl ?_
            exact hR _ _ _ _ dX7_hide_89 ⟨by rw [hN39, (hd_hb (f := (fun q => sp_sn s (nI q) n)) (fun i hi => by obtain ⟨a, ha, e, -⟩ := sn_nat s (nI i) n (by omega); exact ⟨a, by omega, e⟩) (show 0 < n from Nat.pos_of_ne_zero (fun z => by subst z; exact absurd e9 (by assumption))) hn).1]; simp only [sp_hide, c_2, ek_p0, c_4, mc_4, c_6, c_7, ↓reduceIte, ek9], (ts_a (ts_a r 0 (lk_a s (r 0) (2 * tk (s 8 0)) (tk (s 9 0)) 0)) 1 (ts_f (fun c => nI c) (r 1) (tk (s 9 0)))), by first | (simp only [sp_hide, c_2, ek_p0, c_4, mc_4, c_6, c_7, if_true, ts_ss, ts_aa, ↓reduceIte]; done) | rfl | (simp [sp_hide, c_2, ek_p0, c_4, mc_4, c_6, c_7, if_true, ts_ss, ts_aa]; done) | (exfalso; clear hR C; simp_all; done)⟩
          · skip
            refine tv_iload_n C dX7_hide_84 rfl 2 rfl ?_
            refine tv_goto C 89 dX7_hide_85 (by decide) ?_
            exact hR _ _ _ _ dX7_hide_89 ⟨by rw [hN39, (hd_hb (f := (fun q => sp_sn s (nI q) n)) (fun i hi => by obtain ⟨a, ha, e, -⟩ := sn_nat s (nI i) n (by omega); exact ⟨a, by omega, e⟩) (show 0 < n from Nat.pos_of_ne_zero (fun z => by subst z; exact absurd e9 (by assumption))) hn).1]; simp only [sp_hide, c_2, ek_p0, c_4, mc_4, c_6, eq_true c_7, ↓reduceIte, ek9], (ts_a (ts_a r 0 (lk_a s (r 0) (2 * tk (s 8 0)) (tk (s 9 0)) 0)) 1 (ts_f (fun c => nI c) (r 1) (tk (s 9 0)))), by first | (simp only [sp_hide, c_2, ek_p0, c_4, mc_4, c_6, eq_true c_7, if_true, ts_ss, ts_aa, ↓reduceIte]; done) | rfl | (simp [sp_hide, c_2, ek_p0, c_4, mc_4, c_6, eq_true c_7, if_true, ts_ss, ts_aa]; done) | (exfalso; clear hR C; simp_all; done)⟩
        | succ k_39 ih39 =>
          intro i x_39_2 x_39_3 x_39_4 hi39  ex_39_2 ex_39_3 ex_39_4
          subst ex_39_2
          subst ex_39_3
          subst ex_39_4
          have hN39 : i < n := by omega
          refine tv_iload C dX7_hide_39 4 rfl ?_
          refine tv_aload_n C dX7_hide_41 rfl 0 rfl ?_
          refine tv_get (ci := 7) (Cn := RX7) (T := TX7) (Nf := 7) (v := .ref (tv_ad c 2)) C 0 (by decide) rfl rfl in_X7_hide_X7 1 (by decide) lk_X7_hide_20 rfl dX7_hide_42 ?_
          refine tv_get (ci := 6) (Cn := RX6) (T := TX6) (Nf := 11) (v := .int (s 9 0)) C 2 (by decide) rfl rfl in_X7_hide_X6 5 (by decide) lk_X7_hide_80 rfl dX7_hide_45 ?_
          refine tv_icmp_ge C 80 dX7_hide_48 (by decide) (fun c_8 => absurd c_8 (tn_nle e9 (rfl : nI i = nI i) (by omega) (by omega))) (fun c_8 => ?_)
          refine tv_aload_n C dX7_hide_51 rfl 0 rfl ?_
          refine tv_get (ci := 7) (Cn := RX7) (T := TX7) (Nf := 7) (v := .ref (tv_ad c 6)) C 0 (by decide) rfl rfl in_X7_hide_X7 2 (by decide) lk_X7_hide_29 rfl dX7_hide_52 ?_
          refine tv_iload C dX7_hide_55 4 rfl ?_
          refine tv_calli (As := [.int (nI i)]) (rest := []) (ci := 2) (cn := RX2) (T := TX2) (Nf := 3) C 6 (kX2_countSeenOf c s (ts_a (ts_a r 0 (lk_a s (r 0) (2 * tk (s 8 0)) (tk (s 9 0)) 0)) 1 (ts_f (fun c => nI c) (r 1) (tk (s 9 0)))) i (nI i) (rfl : nI i = nI i) (by omega) hI hv.2 (by rw [ek9]; exact hN39)) gX7_hide_X2_countSeenOf rfl yd_X2_countSeenOf ⟨rfl, rfl⟩ (by decide) (by decide) rfl rfl rfl rfl (Nat.le_of_ble_eq_true rfl) dX7_hide_57 (fun q_9 u_9 z_9 => ?_)
          obtain ⟨rfl, rfl⟩ := z_9
          rw [co_sn hv.1 (fun _ _ => rfl) e2 e3 e9 hnw hn hh (hp (by omega)).2.1 hw hN39]
          show tv_V c 60 X (eX c s (ts_a (ts_a r 0 (lk_a s (r 0) (2 * tk (s 8 0)) (tk (s 9 0)) 0)) 1 (ts_f (fun c => nI c) (r 1) (tk (s 9 0))))) 60 [(0, .ref (tv_ad c 0)), (1, .int p0), (2, .int (sp_hd (fun q => sp_sn s (nI q) n) i).1), (3, .int (sp_hd (fun q => sp_sn s (nI q) n) i).2), (4, .int (nI i))] [.int (sp_sn s (nI i) n)]
          refine tv_istore (lv' := [(5, .int (sp_sn s (nI i) n)), (0, .ref (tv_ad c 0)), (1, .int p0), (2, .int (sp_hd (fun q => sp_sn s (nI q) n) i).1), (3, .int (sp_hd (fun q => sp_sn s (nI q) n) i).2), (4, .int (nI i))]) C dX7_hide_60 (by decide) rfl ?_
          refine tv_iload C dX7_hide_62 0 rfl ?_
          refine tv_iload_n C dX7_hide_64 rfl 4 rfl ?_
          refine tv_icmp_le C 74 dX7_hide_65 (by decide) (fun c_10 => ?_) (fun c_10 => ?_)
          · skip
            refine tv_iinc (v := ((nI i) + 1)) (lv' := [(4, .int ((nI i) + 1)), (5, .int (sp_sn s (nI i) n)), (0, .ref (tv_ad c 0)), (1, .int p0), (2, .int (sp_hd (fun q => sp_sn s (nI q) n) i).1), (3, .int (sp_hd (fun q => sp_sn s (nI q) n) i).2)]) C dX7_hide_74 5 rfl rfl (by decide) rfl ?_
            refine tv_goto C 39 dX7_hide_77 (by decide) ?_
            refine tv_lsub [2, 3, 4, 5, 0] rfl ?_
            exact ih39 (i + 1) _ _ _ (by omega)  (by simp only [sp_hd, c_2, ek_p0, c_4, mc_4, c_8, c_10, tn_d_le c_10, ↓reduceIte]) (by simp only [sp_hd, c_2, ek_p0, c_4, mc_4, c_8, c_10, tn_d_le c_10, ↓reduceIte]) (by first | rfl | exact nI_1 _ | (simp only [sp_hide, c_2, ek_p0, c_4, mc_4, c_8, c_10, tn_d_le c_10, if_true, ↓reduceIte]; done) | (simp [sp_hide, c_2, ek_p0, c_4, mc_4, c_8, c_10, tn_d_le c_10, if_true]; done) | (exfalso; clear hR C; simp_all; done))
          · skip
            refine tv_iload C dX7_hide_68 5 rfl ?_
            refine tv_istore_n (lv' := [(2, .int (nI i)), (5, .int (sp_sn s (nI i) n)), (0, .ref (tv_ad c 0)), (1, .int p0), (3, .int (sp_hd (fun q => sp_sn s (nI q) n) i).2), (4, .int (nI i))]) C dX7_hide_70 rfl (by decide) rfl ?_
            refine tv_iload C dX7_hide_71 1 rfl ?_
            refine tv_istore_n (lv' := [(3, .int (sp_sn s (nI i) n)), (2, .int (nI i)), (5, .int (sp_sn s (nI i) n)), (0, .ref (tv_ad c 0)), (1, .int p0), (4, .int (nI i))]) C dX7_hide_73 rfl (by decide) rfl ?_
            refine tv_iinc (v := ((nI i) + 1)) (lv' := [(4, .int ((nI i) + 1)), (3, .int (sp_sn s (nI i) n)), (2, .int (nI i)), (5, .int (sp_sn s (nI i) n)), (0, .ref (tv_ad c 0)), (1, .int p0)]) C dX7_hide_74 5 rfl rfl (by decide) rfl ?_
            refine tv_goto C 39 dX7_hide_77 (by decide) ?_
            refine tv_lsub [4, 5, 2, 1, 0] rfl ?_
            exact ih39 (i + 1) _ _ _ (by omega)  (by simp only [sp_hd, c_2, ek_p0, c_4, mc_4, c_8, c_10, tn_d_nle c_10, ↓reduceIte]) (by simp only [sp_hd, c_2, ek_p0, c_4, mc_4, c_8, c_10, tn_d_nle c_10, ↓reduceIte]) (by first | rfl | exact nI_1 _ | (simp only [sp_hide, c_2, ek_p0, c_4, mc_4, c_8, c_10, tn_d_nle c_10, if_true, ↓reduceIte]; done) | (simp [sp_hide, c_2, ek_p0, c_4, mc_4, c_8, c_10, tn_d_nle c_10, if_true]; done) | (exfalso; clear hR C; simp_all; done))
      refine tv_lsub [3, 4, 2, 1, 0] rfl ?_
      exact hL39 (n - 0) 0 _ _ _ (by omega)  (by first | (simp only [sp_hide, c_2, ek_p0, c_4, mc_4, if_true, ↓reduceIte]; done) | rfl | (simp [sp_hide, c_2, ek_p0, c_4, mc_4, if_true]; done) | (exfalso; clear hR C; simp_all; done)) (by first | (simp only [sp_hide, c_2, ek_p0, c_4, mc_4, if_true, ↓reduceIte]; done) | rfl | (simp [sp_hide, c_2, ek_p0, c_4, mc_4, if_true]; done) | (exfalso; clear hR C; simp_all; done)) (by first | (simp only [sp_hide, c_2, ek_p0, c_4, mc_4, if_true, ↓reduceIte]; done) | rfl | (simp [sp_hide, c_2, ek_p0, c_4, mc_4, if_true]; done) | (exfalso; clear hR C; simp_all; done))
    · skip
      have mc_4 := sz_e c_4
      refine tv_bipush (v := (-3)) C dX7_hide_22 (by decide) ?_
      exact hR _ _ _ _ dX7_hide_24 ⟨by first | (simp only [sp_hide, c_2, ek_p0, eq_true c_4, eq_true mc_4, if_true, ↓reduceIte]; done) | rfl | (simp [sp_hide, c_2, ek_p0, eq_true c_4, eq_true mc_4, if_true]; done) | (exfalso; clear hR C; simp_all; done), r, by first | (simp only [sp_hide, c_2, ek_p0, eq_true c_4, eq_true mc_4, if_true, ts_ss, ts_aa, ↓reduceIte]; done) | rfl | (simp [sp_hide, c_2, ek_p0, eq_true c_4, eq_true mc_4, if_true, ts_ss, ts_aa]; done) | (exfalso; clear hR C; simp_all; done)⟩
  · skip
    refine tv_bipush (v := (-2)) C dX7_hide_9 (by decide) ?_
    exact hR _ _ _ _ dX7_hide_11 ⟨by first | (simp only [sp_hide, eq_true c_2, if_true, ↓reduceIte]; done) | rfl | (simp [sp_hide, eq_true c_2, if_true]; done) | (exfalso; clear hR C; simp_all; done), r, by first | (simp only [sp_hide, eq_true c_2, if_true, ts_ss, ts_aa, ↓reduceIte]; done) | rfl | (simp [sp_hide, eq_true c_2, if_true, ts_ss, ts_aa]; done) | (exfalso; clear hR C; simp_all; done)⟩
set_option maxHeartbeats 4000000 in
set_option maxRecDepth 100000 in
theorem kX7_leave (c : tv_c) (s r : ts_T)  (p0 p1 : Int32) (hI : iv s) : tv_Mi c 60 yX7_leave wsX7_leave { frames := 5, cells := 0, slots := 0, locals := 124 } [.ref (tv_ad c 0), .int p0, .int p1] (eX c s r) (fun q_0 u_0 => q_0 = sp_leave s p0 p1 ∧ ∃ r_0, u_0 = eX c s r_0) := by
  refine tv_metI (by decide +kernel) rfl rfl (Nat.le_of_ble_eq_true rfl) (fun X C hR => ?_)
  show tv_V c 60 X (eX c s r) 0 [(0, .ref (tv_ad c 0)), (1, .int p0), (2, .int p1)] []
  have hC := iv.hC hI
  obtain ⟨h, w, n, nk, nl, ny, nm, li, e2, e3, e9, hnw, hh, hw, hn, hz, hp, e7, hk, e8, hl, e4, hy, e5, hm, e6, hli, hcel, hkin, hban, hwei, hshe⟩ := id hI
  have ek9 := tk_e e9 (by omega)
  have ek3 := tk_e e3 (by omega)
  refine tv_aload_n C dX7_leave_0 rfl 0 rfl ?_
  refine tv_get (ci := 7) (Cn := RX7) (T := TX7) (Nf := 7) (v := .ref (tv_ad c 2)) C 0 (by decide) rfl rfl in_X7_leave_X7 1 (by decide) lk_X7_leave_20 rfl dX7_leave_1 ?_
  refine tv_iload_n C dX7_leave_4 rfl 1 rfl ?_
  refine tv_calli (As := [.int p0]) (rest := []) (ci := 6) (cn := RX6) (T := TX6) (Nf := 11) C 2 (kX6_hasCell c s r  p0 ) gX7_leave_X6_hasCell rfl yd_X6_hasCell ⟨rfl, rfl⟩ (by decide) (by decide) rfl rfl rfl rfl (Nat.le_of_ble_eq_true rfl) dX7_leave_5 (fun q_1 u_1 z_1 => ?_)
  obtain ⟨rfl, rfl⟩ := z_1
  refine tv_if_eq C 22 dX7_leave_8 (by decide) (fun c_2 => ?_) (fun c_2 => ?_)
  · skip
    refine tv_iconst (v := (-1)) C dX7_leave_22 (by decide) ?_
    exact hR _ _ _ _ dX7_leave_23 ⟨by first | (simp only [sp_leave, eq_true c_2, if_true, ↓reduceIte]; done) | rfl | (simp [sp_leave, eq_true c_2, if_true]; done) | (exfalso; clear hR C; simp_all; done), r, by first | (simp only [sp_leave, eq_true c_2, if_true, ts_ss, ts_aa, ↓reduceIte]; done) | rfl | (simp [sp_leave, eq_true c_2, if_true, ts_ss, ts_aa]; done) | (exfalso; clear hR C; simp_all; done)⟩
  · skip
    obtain ⟨j_p0, hj_p0, ej_p0, ek_p0⟩ := in_ix e9 (by omega) c_2
    obtain ⟨fs_p0, ⟨b_p0, hb_p0, eb_p0⟩, fh_p0, fa_p0, fz_p0⟩ := hcel j_p0 hj_p0
    refine tv_aload_n C dX7_leave_11 rfl 0 rfl ?_
    refine tv_get (ci := 7) (Cn := RX7) (T := TX7) (Nf := 7) (v := .ref (tv_ad c 2)) C 0 (by decide) rfl rfl in_X7_leave_X7 1 (by decide) lk_X7_leave_20 rfl dX7_leave_12 ?_
    refine tv_iload_n C dX7_leave_15 rfl 2 rfl ?_
    refine tv_calli (As := [.int p1]) (rest := []) (ci := 6) (cn := RX6) (T := TX6) (Nf := 11) C 2 (kX6_hasCoat c s r  p1 ) gX7_leave_X6_hasCoat rfl yd_X6_hasCoat ⟨rfl, rfl⟩ (by decide) (by decide) rfl rfl rfl rfl (Nat.le_of_ble_eq_true rfl) dX7_leave_16 (fun q_3 u_3 z_3 => ?_)
    obtain ⟨rfl, rfl⟩ := z_3
    refine tv_if_ne C 24 dX7_leave_19 (by decide) (fun c_4 => ?_) (fun c_4 => ?_)
    · skip
      obtain ⟨j_p1, hj_p1, ej_p1, ek_p1⟩ := in_ix e7 (by omega) c_4
      refine tv_aload_n C dX7_leave_24 rfl 0 rfl ?_
      refine tv_get (ci := 7) (Cn := RX7) (T := TX7) (Nf := 7) (v := .ref (tv_ad c 6)) C 0 (by decide) rfl rfl in_X7_leave_X7 2 (by decide) lk_X7_leave_29 rfl dX7_leave_25 ?_
      refine tv_callv (As := []) (rest := []) (ci := 2) (cn := RX2) (T := TX2) (Nf := 3) C 6 (kX2_takeAsItIs c s r   hI) gX7_leave_X2_takeAsItIs rfl yd_X2_takeAsItIs ⟨rfl, rfl⟩ (by decide) (by decide) rfl rfl rfl rfl (Nat.le_of_ble_eq_true rfl) dX7_leave_28 (fun u_5 z_5 => ?_)
      subst z_5
      have hv := vw_id (s := s) (r := (ts_a (ts_a r 0 (lk_a s (r 0) (2 * tk (s 8 0)) (tk (s 9 0)) 0)) 1 (ts_f (fun c => nI c) (r 1) (tk (s 9 0))))) (f := r 0) (g := r 0) e9 hn e8 hl (fun q _ => rfl) (fun a ha => by show ts_f (fun c => nI c) (r 1) (tk (s 9 0)) a = nI a; unfold ts_f; rw [if_pos (by rw [ek9]; exact ha)])
      refine tv_aload_n C dX7_leave_31 rfl 0 rfl ?_
      refine tv_get (ci := 7) (Cn := RX7) (T := TX7) (Nf := 7) (v := .ref (tv_ad c 6)) C 0 (by decide) rfl rfl in_X7_leave_X7 2 (by decide) lk_X7_leave_29 rfl dX7_leave_32 ?_
      refine tv_calli (As := []) (rest := []) (ci := 2) (cn := RX2) (T := TX2) (Nf := 3) C 6 (kX2_countSeen c s (ts_a (ts_a r 0 (lk_a s (r 0) (2 * tk (s 8 0)) (tk (s 9 0)) 0)) 1 (ts_f (fun c => nI c) (r 1) (tk (s 9 0))))   hI hv.2) gX7_leave_X2_countSeen rfl yd_X2_countSeen ⟨rfl, rfl⟩ (by decide) (by decide) rfl rfl rfl rfl (Nat.le_of_ble_eq_true rfl) dX7_leave_35 (fun q_6 u_6 z_6 => ?_)
      obtain ⟨rfl, rfl⟩ := z_6
      rw [cs_sn hv.1 (fun _ _ => rfl) e2 e3 e9 hnw hn hh (fun q => (hp q).2.1) hw (show tk (s 9 0) ≤ n by omega)]
      show tv_V c 60 X (eX c s (ts_a (ts_a r 0 (lk_a s (r 0) (2 * tk (s 8 0)) (tk (s 9 0)) 0)) 1 (ts_f (fun c => nI c) (r 1) (tk (s 9 0))))) 38 [(0, .ref (tv_ad c 0)), (1, .int p0), (2, .int p1)] [.int (sp_sn s (-9) (tk (s 9 0)))]
      refine tv_istore_n (lv' := [(3, .int (sp_sn s (-9) (tk (s 9 0)))), (0, .ref (tv_ad c 0)), (1, .int p0), (2, .int p1)]) C dX7_leave_38 rfl (by decide) rfl ?_
      refine tv_aload_n C dX7_leave_39 rfl 1 rfl ?_
      refine tv_get (ci := 7) (Cn := RX7) (T := TX7) (Nf := 7) (v := .ref (tv_ad c 6)) C 0 (by decide) rfl rfl in_X7_leave_X7 2 (by decide) lk_X7_leave_29 rfl dX7_leave_40 ?_
      refine tv_iload_n C dX7_leave_43 rfl 3 rfl ?_
      refine tv_callv (As := [.int p1]) (rest := []) (ci := 2) (cn := RX2) (T := TX2) (Nf := 3) C 6 (kX2_takeFresh c s (ts_a (ts_a r 0 (lk_a s (r 0) (2 * tk (s 8 0)) (tk (s 9 0)) 0)) 1 (ts_f (fun c => nI c) (r 1) (tk (s 9 0)))) j_p1 p1 ej_p1 (by omega) hI) gX7_leave_X2_takeFresh rfl yd_X2_takeFresh ⟨rfl, rfl⟩ (by decide) (by decide) rfl rfl rfl rfl (Nat.le_of_ble_eq_true rfl) dX7_leave_44 (fun u_7 z_7 => ?_)
      subst z_7
      show tv_V c 60 X (eX c s (ts_a (ts_a (ts_a r 0 (lk_a s (r 0) (2 * tk (s 8 0)) (tk (s 9 0)) 0)) 1 (ts_f (fun c => nI c) (r 1) (tk (s 9 0)))) 0 (lk_f s ((lk_a s (r 0) (2 * tk (s 8 0)) (tk (s 9 0)) 0)) j_p1 (2 * tk (s 8 0))))) 47 [(3, .int (sp_sn s (-9) (tk (s 9 0)))), (0, .ref (tv_ad c 0)), (1, .int p0), (2, .int p1)] []
      refine tv_eqE (E' := (eX c s (ts_a (ts_a r 0 (lk_f s ((lk_a s (r 0) (2 * tk (s 8 0)) (tk (s 9 0)) 0)) j_p1 (2 * tk (s 8 0)))) 1 (ts_f (fun c => nI c) (r 1) (tk (s 9 0)))))) (congrArg (fun z => eX c s z) (by funext zz; rcases Classical.em (zz = 0) with hzz | h_0; (subst hzz; rfl); rcases Classical.em (zz = 1) with hzz | h_1; (subst hzz; rfl); simp only [ts_s, ts_a, h_0, h_1, ↓reduceIte])) ?_
      show tv_V c 60 X (eX c s (ts_a (ts_a r 0 (lk_f s ((lk_a s (r 0) (2 * tk (s 8 0)) (tk (s 9 0)) 0)) j_p1 (2 * tk (s 8 0)))) 1 (ts_f (fun c => nI c) (r 1) (tk (s 9 0))))) 47 [(3, .int (sp_sn s (-9) (tk (s 9 0)))), (0, .ref (tv_ad c 0)), (1, .int p0), (2, .int p1)] []
      refine tv_aload_n C dX7_leave_47 rfl 1 rfl ?_
      refine tv_get (ci := 7) (Cn := RX7) (T := TX7) (Nf := 7) (v := .ref (tv_ad c 6)) C 0 (by decide) rfl rfl in_X7_leave_X7 2 (by decide) lk_X7_leave_29 rfl dX7_leave_48 ?_
      refine tv_iload_n C dX7_leave_51 rfl 2 rfl ?_
      refine tv_callv (As := [.int p0]) (rest := []) (ci := 2) (cn := RX2) (T := TX2) (Nf := 3) C 6 (kX2_paintOne c s (ts_a (ts_a r 0 (lk_f s ((lk_a s (r 0) (2 * tk (s 8 0)) (tk (s 9 0)) 0)) j_p1 (2 * tk (s 8 0)))) 1 (ts_f (fun c => nI c) (r 1) (tk (s 9 0)))) j_p0 p0 ej_p0 (by omega)) gX7_leave_X2_paintOne rfl yd_X2_paintOne ⟨rfl, rfl⟩ (by decide) (by decide) rfl rfl rfl rfl (Nat.le_of_ble_eq_true rfl) dX7_leave_52 (fun u_8 z_8 => ?_)
      subst z_8
      show tv_V c 60 X (eX c s (ts_a (ts_a (ts_a r 0 (lk_f s ((lk_a s (r 0) (2 * tk (s 8 0)) (tk (s 9 0)) 0)) j_p1 (2 * tk (s 8 0)))) 1 (ts_f (fun c => nI c) (r 1) (tk (s 9 0)))) 1 (upd ((ts_f (fun c => nI c) (r 1) (tk (s 9 0)))) j_p0 24))) 55 [(3, .int (sp_sn s (-9) (tk (s 9 0)))), (0, .ref (tv_ad c 0)), (1, .int p0), (2, .int p1)] []
      refine tv_eqE (E' := (eX c s (ts_a (ts_a r 0 (lk_f s ((lk_a s (r 0) (2 * tk (s 8 0)) (tk (s 9 0)) 0)) j_p1 (2 * tk (s 8 0)))) 1 (upd ((ts_f (fun c => nI c) (r 1) (tk (s 9 0)))) j_p0 24)))) (congrArg (fun z => eX c s z) (by funext zz; rcases Classical.em (zz = 0) with hzz | h_0; (subst hzz; rfl); rcases Classical.em (zz = 1) with hzz | h_1; (subst hzz; rfl); simp only [ts_s, ts_a, h_0, h_1, ↓reduceIte])) ?_
      show tv_V c 60 X (eX c s (ts_a (ts_a r 0 (lk_f s ((lk_a s (r 0) (2 * tk (s 8 0)) (tk (s 9 0)) 0)) j_p1 (2 * tk (s 8 0)))) 1 (upd ((ts_f (fun c => nI c) (r 1) (tk (s 9 0)))) j_p0 24))) 55 [(3, .int (sp_sn s (-9) (tk (s 9 0)))), (0, .ref (tv_ad c 0)), (1, .int p0), (2, .int p1)] []
      have hv2 := vw_pn (s := s) (r := (ts_a (ts_a r 0 (lk_f s ((lk_a s (r 0) (2 * tk (s 8 0)) (tk (s 9 0)) 0)) j_p1 (2 * tk (s 8 0)))) 1 (upd ((ts_f (fun c => nI c) (r 1) (tk (s 9 0)))) j_p0 24))) (f := r 0) (k := j_p1) (P := fun j => decide (j = j_p0)) (by omega) e9 hn e8 hl rfl (fun a ha => up_dec (by rw [ek9]; exact ha))
      refine tv_iload_n C dX7_leave_55 rfl 0 rfl ?_
      refine tv_aload_n C dX7_leave_56 rfl 1 rfl ?_
      refine tv_get (ci := 7) (Cn := RX7) (T := TX7) (Nf := 7) (v := .ref (tv_ad c 6)) C 0 (by decide) rfl rfl in_X7_leave_X7 2 (by decide) lk_X7_leave_29 rfl dX7_leave_57 ?_
      refine tv_calli (As := []) (rest := [.int (sp_sn s (-9) (tk (s 9 0)))]) (ci := 2) (cn := RX2) (T := TX2) (Nf := 3) C 6 (kX2_countSeen c s (ts_a (ts_a r 0 (lk_f s ((lk_a s (r 0) (2 * tk (s 8 0)) (tk (s 9 0)) 0)) j_p1 (2 * tk (s 8 0)))) 1 (upd ((ts_f (fun c => nI c) (r 1) (tk (s 9 0)))) j_p0 24))   hI hv2.2) gX7_leave_X2_countSeen rfl yd_X2_countSeen ⟨rfl, rfl⟩ (by decide) (by decide) rfl rfl rfl rfl (Nat.le_of_ble_eq_true rfl) dX7_leave_60 (fun q_9 u_9 z_9 => ?_)
      obtain ⟨rfl, rfl⟩ := z_9
      rw [cs_sn hv2.1 (pnt_sm s j_p1 _) e2 e3 e9 hnw hn hh (fun q => (hp q).2.1) hw (show tk (s 9 0) ≤ n by omega)]
      show tv_V c 60 X (eX c s (ts_a (ts_a r 0 (lk_f s ((lk_a s (r 0) (2 * tk (s 8 0)) (tk (s 9 0)) 0)) j_p1 (2 * tk (s 8 0)))) 1 (upd ((ts_f (fun c => nI c) (r 1) (tk (s 9 0)))) j_p0 24))) 63 [(3, .int (sp_sn s (-9) (tk (s 9 0)))), (0, .ref (tv_ad c 0)), (1, .int p0), (2, .int p1)] [.int (sp_sn (pnt s j_p1 (fun j => decide (j = j_p0))) (-9) (tk (s 9 0))), .int (sp_sn s (-9) (tk (s 9 0)))]
      refine tv_isub C dX7_leave_63 ?_
      refine tv_bipush (v := 100) C dX7_leave_64 (by decide) ?_
      refine tv_iadd C dX7_leave_66 ?_
      exact hR _ _ _ _ dX7_leave_67 ⟨by simp only [sp_leave, c_2, ek_p0, c_4, ek_p1, ↓reduceIte, sp_pn, ek3]; rw [rct_1 (by have := hp (by omega); omega)], (ts_a (ts_a r 0 (lk_f s ((lk_a s (r 0) (2 * tk (s 8 0)) (tk (s 9 0)) 0)) j_p1 (2 * tk (s 8 0)))) 1 (upd ((ts_f (fun c => nI c) (r 1) (tk (s 9 0)))) j_p0 24)), by first | (simp only [sp_leave, c_2, ek_p0, c_4, ek_p1, if_true, ts_ss, ts_aa, ↓reduceIte]; done) | rfl | (simp [sp_leave, c_2, ek_p0, c_4, ek_p1, if_true, ts_ss, ts_aa]; done) | (exfalso; clear hR C; simp_all; done)⟩
    · skip
      refine tv_iconst (v := (-1)) C dX7_leave_22 (by decide) ?_
      exact hR _ _ _ _ dX7_leave_23 ⟨by first | (simp only [sp_leave, c_2, ek_p0, eq_true c_4, if_true, ↓reduceIte]; done) | rfl | (simp [sp_leave, c_2, ek_p0, eq_true c_4, if_true]; done) | (exfalso; clear hR C; simp_all; done), r, by first | (simp only [sp_leave, c_2, ek_p0, eq_true c_4, if_true, ts_ss, ts_aa, ↓reduceIte]; done) | rfl | (simp [sp_leave, c_2, ek_p0, eq_true c_4, if_true, ts_ss, ts_aa]; done) | (exfalso; clear hR C; simp_all; done)⟩
