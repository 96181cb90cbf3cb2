set_option maxRecDepth 20000 in
theorem in_X4_keepIfBetter_X4 : ∀ w ∈ u_ws RX4 TX4 5, w ∈ wsX4_keepIfBetter := by decide +kernel
set_option maxRecDepth 20000 in
theorem lk_X4_keepIfBetter_17 : Cond.fieldLink RX4 17 (TX4 2).1 (TX4 2).2.1 (TX4 2).2.2.1 ∈ wsX4_keepIfBetter := by decide +kernel
set_option maxRecDepth 20000 in
theorem lk_X4_keepIfBetter_13 : Cond.fieldLink RX4 13 (TX4 1).1 (TX4 1).2.1 (TX4 1).2.2.1 ∈ wsX4_keepIfBetter := by decide +kernel
theorem yd_X2_isAnySeen : yX2_isAnySeen.cls = RX2 ∧ yX2_isAnySeen.cls ≠ "java/lang/invoke/MethodHandle" ∧ yX2_isAnySeen.cls ≠ "java/lang/invoke/VarHandle" ∧ (parseMethodDescriptor yX2_isAnySeen.desc).map (fun d => d.parameters.length) = some 0 := by decide +kernel
set_option maxRecDepth 20000 in
theorem lk_X4_keepIfBetter_7 : Cond.fieldLink RX4 7 (TX4 0).1 (TX4 0).2.1 (TX4 0).2.2.1 ∈ wsX4_keepIfBetter := by decide +kernel
set_option maxRecDepth 20000 in
theorem in_X4_keepIfBetter_X6 : ∀ w ∈ u_ws RX6 TX6 11, w ∈ wsX4_keepIfBetter := by decide +kernel
set_option maxRecDepth 20000 in
theorem lk_X4_keepIfBetter_42 : Cond.fieldLink RX4 42 (TX6 4).1 (TX6 4).2.1 (TX6 4).2.2.1 ∈ wsX4_keepIfBetter := by decide +kernel
set_option maxRecDepth 20000 in
theorem lk_X4_keepIfBetter_59 : Cond.fieldLink RX4 59 (TX4 3).1 (TX4 3).2.1 (TX4 3).2.2.1 ∈ wsX4_keepIfBetter := by decide +kernel
set_option maxRecDepth 20000 in
theorem lk_X4_keepIfBetter_62 : Cond.fieldLink RX4 62 (TX4 4).1 (TX4 4).2.1 (TX4 4).2.2.1 ∈ wsX4_keepIfBetter := by decide +kernel
set_option maxRecDepth 20000 in
theorem in_X4_searchAround_X4 : ∀ w ∈ u_ws RX4 TX4 5, w ∈ wsX4_searchAround := by decide +kernel
set_option maxRecDepth 20000 in
theorem lk_X4_searchAround_17 : Cond.fieldLink RX4 17 (TX4 2).1 (TX4 2).2.1 (TX4 2).2.2.1 ∈ wsX4_searchAround := by decide +kernel
set_option maxRecDepth 20000 in
theorem lk_X4_searchAround_13 : Cond.fieldLink RX4 13 (TX4 1).1 (TX4 1).2.1 (TX4 1).2.2.1 ∈ wsX4_searchAround := by decide +kernel
set_option maxRecDepth 20000 in
theorem lk_X4_searchAround_7 : Cond.fieldLink RX4 7 (TX4 0).1 (TX4 0).2.1 (TX4 0).2.2.1 ∈ wsX4_searchAround := by decide +kernel
theorem yd_X6_rowOf : yX6_rowOf.cls = RX6 ∧ yX6_rowOf.cls ≠ "java/lang/invoke/MethodHandle" ∧ yX6_rowOf.cls ≠ "java/lang/invoke/VarHandle" ∧ (parseMethodDescriptor yX6_rowOf.desc).map (fun d => d.parameters.length) = some 1 := by decide +kernel
set_option maxRecDepth 20000 in
theorem in_X4_searchAround_X6 : ∀ w ∈ u_ws RX6 TX6 11, w ∈ wsX4_searchAround := by decide +kernel
set_option maxRecDepth 20000 in
theorem lk_X4_searchAround_39 : Cond.fieldLink RX4 39 (TX6 3).1 (TX6 3).2.1 (TX6 3).2.2.1 ∈ wsX4_searchAround := by decide +kernel
set_option maxRecDepth 20000 in
theorem lk_X4_searchAround_42 : Cond.fieldLink RX4 42 (TX6 4).1 (TX6 4).2.1 (TX6 4).2.2.1 ∈ wsX4_searchAround := by decide +kernel
theorem yd_X4_keepIfBetter : yX4_keepIfBetter.cls = RX4 ∧ yX4_keepIfBetter.cls ≠ "java/lang/invoke/MethodHandle" ∧ yX4_keepIfBetter.cls ≠ "java/lang/invoke/VarHandle" ∧ (parseMethodDescriptor yX4_keepIfBetter.desc).map (fun d => d.parameters.length) = some 4 := by decide +kernel
set_option maxRecDepth 20000 in
theorem in_X7_patch_X7 : ∀ w ∈ u_ws RX7 TX7 7, w ∈ wsX7_patch := by decide +kernel
set_option maxRecDepth 20000 in
theorem lk_X7_patch_20 : Cond.fieldLink RX7 20 (TX7 1).1 (TX7 1).2.1 (TX7 1).2.2.1 ∈ wsX7_patch := by decide +kernel
set_option maxRecDepth 20000 in
theorem lk_X7_patch_45 : Cond.fieldLink RX7 45 (TX7 4).1 (TX7 4).2.1 (TX7 4).2.2.1 ∈ wsX7_patch := by decide +kernel
theorem yd_X4_searchAround : yX4_searchAround.cls = RX4 ∧ yX4_searchAround.cls ≠ "java/lang/invoke/MethodHandle" ∧ yX4_searchAround.cls ≠ "java/lang/invoke/VarHandle" ∧ (parseMethodDescriptor yX4_searchAround.desc).map (fun d => d.parameters.length) = some 2 := by decide +kernel
set_option maxRecDepth 20000 in
theorem in_X7_patch_X4 : ∀ w ∈ u_ws RX4 TX4 5, w ∈ wsX7_patch := by decide +kernel
set_option maxRecDepth 20000 in
theorem lk_X7_patch_222 : Cond.fieldLink RX7 222 (TX4 2).1 (TX4 2).2.1 (TX4 2).2.2.1 ∈ wsX7_patch := by decide +kernel
set_option maxRecDepth 20000 in
theorem lk_X7_patch_228 : Cond.fieldLink RX7 228 (TX4 4).1 (TX4 4).2.1 (TX4 4).2.2.1 ∈ wsX7_patch := by decide +kernel
set_option maxRecDepth 20000 in
theorem lk_X7_patch_225 : Cond.fieldLink RX7 225 (TX4 3).1 (TX4 3).2.1 (TX4 3).2.2.1 ∈ wsX7_patch := by decide +kernel
set_option maxHeartbeats 1000000 in
set_option maxRecDepth 100000 in
theorem kX4_keepIfBetter (c : tv_c) (s r : ts_T) (n0 w0 cc a b k : Nat) (g : Nat → Int32) (p0 p1 p2 p3 : Int32) (hI : iv s) (e_p0 : p0 = nI (a / w0)) (e_p1 : p1 = nI (a % w0)) (e_p2 : p2 = nI (b / w0)) (e_p3 : p3 = nI (b % w0)) (han : a < n0) (hbn0 : b < n0) (en0 : s 9 0 = nI n0) (ew0 : s 3 0 = nI w0) (hn0 : n0 ≤ 24) (hw0 : w0 ≤ 6) (hv1 : a / w0 ≤ cc / w0) (hv2 : a % w0 ≤ cc % w0) (hv3 : cc / w0 ≤ b / w0) (hv4 : cc % w0 ≤ b % w0) (hk6 : k < 6) (hL : r 0 = (lk_f s (lk_a s g (2 * tk (s 8 0)) (tk (s 9 0)) 0) k (2 * tk (s 8 0)))) (hM : pM s w0 n0 cc k 0 (r 9 0) (r 10 0) (r 11 0) (24 * a + b)) : tv_Mv c 60 yX4_keepIfBetter wsX4_keepIfBetter { frames := 4, cells := 0, slots := 0, locals := 91 } [.ref (tv_ad c 15), .int p0, .int p1, .int p2, .int p3] (eX c s r) (fun u_0 => ∃ r_0, u_0 = eX c s r_0 ∧ r_0 0 = r 0 ∧ pM s w0 n0 cc k 0 (r_0 9 0) (r_0 10 0) (r_0 11 0) (24 * a + (b + 1))) := by
  refine tv_metV (by decide +kernel) rfl rfl (Nat.le_of_ble_eq_true rfl) (fun X C hR => ?_)
  show tv_V c 60 X (eX c s r) 0 [(0, .ref (tv_ad c 15)), (1, .int p0), (2, .int p1), (3, .int p2), (4, .int p3)] []
  have hC := iv.hC hI
  obtain ⟨h, w, n, nk, nl, ny, nm, li, e2, e3, e9, hnw, hh, hw, hn, hz, hp, e7, hk, e8, hl, e4, hy, e5, hm, e6, hli, hcel, hkin, hban, hwei, hshe⟩ := id hI
  have ek9 := tk_e e9 (by omega)
  have ek3 := tk_e e3 (by omega)
  have enn : n0 = n := by rw [← tk_e en0 (by omega), ek9]
  have eww : w0 = w := by rw [← ek3]; exact (tk_e ew0 (by omega)).symm
  subst enn eww
  have hw2 := hp (by omega)
  have hr1 := Nat.le_trans hv1 hv3
  have hr2 := Nat.le_trans hv2 hv4
  have hda := Nat.div_le_self a w0
  have hdb := Nat.div_le_self b w0
  have hma := Nat.mod_lt a (show 0 < w0 by omega)
  have hmb := Nat.mod_lt b (show 0 < w0 by omega)
  have hbh : b / w0 < h := Nat.div_lt_of_lt_mul (by rw [Nat.mul_comm, ← hnw]; exact hbn0)
  refine tv_iload_n C dX4_keepIfBetter_0 rfl 3 rfl ?_
  refine tv_iload_n C dX4_keepIfBetter_1 rfl 1 rfl ?_
  refine tv_isub C dX4_keepIfBetter_2 ?_
  refine tv_iconst (v := 1) C dX4_keepIfBetter_3 (by decide) ?_
  refine tv_iadd C dX4_keepIfBetter_4 ?_
  refine tv_iload C dX4_keepIfBetter_5 4 rfl ?_
  refine tv_iload_n C dX4_keepIfBetter_7 rfl 2 rfl ?_
  refine tv_isub C dX4_keepIfBetter_8 ?_
  refine tv_iconst (v := 1) C dX4_keepIfBetter_9 (by decide) ?_
  refine tv_iadd C dX4_keepIfBetter_10 ?_
  refine tv_imul C dX4_keepIfBetter_11 ?_
  rw [pm_x e_p0 e_p1 e_p2 e_p3 (by omega) hr1 hr2]
  refine tv_istore (lv' := [(5, .int (nI (pm w0 (24 * a + b)))), (0, .ref (tv_ad c 15)), (1, .int p0), (2, .int p1), (3, .int p2), (4, .int p3)]) C dX4_keepIfBetter_12 (by decide) rfl ?_
  refine tv_aload_n C dX4_keepIfBetter_14 rfl 1 rfl ?_
  refine tv_get (ci := 4) (Cn := RX4) (T := TX4) (Nf := 5) (v := .int (r 9 0)) C 15 (by decide) rfl rfl in_X4_keepIfBetter_X4 2 (by decide) lk_X4_keepIfBetter_17 rfl dX4_keepIfBetter_15 ?_
  refine tv_if_eq C 31 dX4_keepIfBetter_18 (by decide) (fun c_1 => ?_) (fun c_1 => ?_)
  · skip
    refine tv_aload_n C dX4_keepIfBetter_31 rfl 1 rfl ?_
    refine tv_get (ci := 4) (Cn := RX4) (T := TX4) (Nf := 5) (v := .ref (tv_ad c 6)) C 15 (by decide) rfl rfl in_X4_keepIfBetter_X4 1 (by decide) lk_X4_keepIfBetter_13 rfl dX4_keepIfBetter_32 ?_
    refine tv_callv (As := []) (rest := []) (ci := 2) (cn := RX2) (T := TX2) (Nf := 3) C 6 (kX2_unpaint c s r n0  e9 hn) gX4_keepIfBetter_X2_unpaint rfl yd_X2_unpaint ⟨rfl, rfl⟩ (by decide) (by decide) rfl rfl rfl rfl (Nat.le_of_ble_eq_true rfl) dX4_keepIfBetter_35 (fun u_2 z_2 => ?_)
    subst z_2
    refine tv_iload_n C dX4_keepIfBetter_38 rfl 2 rfl ?_
    refine tv_istore (lv' := [(6, .int p0), (5, .int (nI (pm w0 (24 * a + b)))), (0, .ref (tv_ad c 15)), (1, .int p0), (2, .int p1), (3, .int p2), (4, .int p3)]) C dX4_keepIfBetter_39 (by decide) rfl ?_
    have hL41 : ∀ (k_41 i : Nat) (x_41_6 : Int32) (w_41 : Nat → va_E), i + k_41 = (b / w0 + 1) → (a / w0 ≤ i) → x_41_6 = (nI i) → w_41 = (eX c s (ts_a r 1 (shw (prt w0 a b i (a % w0)) (ts_f (fun c => nI c) (r 1) n0)))) → tv_V c 60 X w_41 41 [(0, .ref (tv_ad c 15)), (1, .int p0), (2, .int p1), (3, .int p2), (4, .int p3), (5, .int (nI (pm w0 (24 * a + b)))), (6, .int x_41_6)] [] := by
      intro k_41
      induction k_41 with
      | zero =>
        intro i x_41_6 w_41 hi41 g1 ex_41_6 ew_41
        subst ex_41_6
        subst ew_41
        have hN41 : i = (b / w0 + 1) := by omega
        refine tv_iload C dX4_keepIfBetter_41 6 rfl ?_
        refine tv_iload_n C dX4_keepIfBetter_43 rfl 3 rfl ?_
        refine tv_icmp_gt C 89 dX4_keepIfBetter_44 (by decide) (fun c_3 => ?_) (fun c_3 => absurd (tn_lt e_p2 (rfl : nI i = nI i) (by omega) (by omega)) c_3)
        refine tv_eqE (E' := (eX c s (ts_a r 1 (shw (rct w0 a b) (ts_f (fun c => nI c) (r 1) n0))))) (by rw [hN41, prt_e hr1]) ?_
        have hv := vw_pn (s := s) (r := (ts_a r 1 (shw (rct w0 a b) (ts_f (fun c => nI c) (r 1) n0)))) (f := g) (k := k) (P := rct w0 a b) hk6 e9 hn e8 hl hL (fun x hx => by show shw (rct w0 a b) (ts_f (fun c => nI c) (r 1) n0) x = _; unfold shw ts_f; rw [if_pos (c := x < n0) hx])
        have hsn := an_sn hv.1 (pnt_sm s k _) e2 e3 e9 hnw hn hh hw2.2.1 hw
        refine tv_aload_n C dX4_keepIfBetter_89 rfl 0 rfl ?_
        refine tv_get (ci := 4) (Cn := RX4) (T := TX4) (Nf := 5) (v := .ref (tv_ad c 6)) C 15 (by decide) rfl rfl in_X4_keepIfBetter_X4 1 (by decide) lk_X4_keepIfBetter_13 rfl dX4_keepIfBetter_90 ?_
        refine tv_calli (As := []) (rest := []) (ci := 2) (cn := RX2) (T := TX2) (Nf := 3) C 6 (kX2_isAnySeen c s (ts_a r 1 (shw (rct w0 a b) (ts_f (fun c => nI c) (r 1) n0)))   hI hv.2) gX4_keepIfBetter_X2_isAnySeen rfl yd_X2_isAnySeen ⟨rfl, rfl⟩ (by decide) (by decide) rfl rfl rfl rfl (Nat.le_of_ble_eq_true rfl) dX4_keepIfBetter_93 (fun q_4 u_4 z_4 => ?_)
        obtain ⟨rfl, rfl⟩ := z_4
        show tv_V c 60 X (eX c s (ts_a r 1 (shw (rct w0 a b) (ts_f (fun c => nI c) (r 1) n0)))) 96 [(0, .ref (tv_ad c 15)), (1, .int p0), (2, .int p1), (3, .int p2), (4, .int p3), (5, .int (nI (pm w0 (24 * a + b)))), (6, .int (nI i))] [.int (sp_an s (ts_a r 1 (shw (rct w0 a b) (ts_f (fun c => nI c) (r 1) n0))))]
        refine tv_if_ne C 136 dX4_keepIfBetter_96 (by decide) (fun c_5 => ?_) (fun c_5 => ?_)
        · skip
          exact hR _ _ _ dX4_keepIfBetter_136 (by exact ⟨_, rfl, rfl, pM_nb hM (by omega) (by unfold sp_pn; rw [ek3]; exact fun z => absurd (hsn.mpr z) (by assumption))⟩)
        · skip
          refine tv_aload_n C dX4_keepIfBetter_99 rfl 0 rfl ?_
          refine tv_iload C dX4_keepIfBetter_100 5 rfl ?_
          refine tv_put (ci := 4) (Cn := RX4) (T := TX4) (Nf := 5) (ty := .int) (E' := (eX c s (ts_s (ts_a r 1 (shw (rct w0 a b) (ts_f (fun c => nI c) (r 1) n0))) 9 (nI (pm w0 (24 * a + b)))))) C 15 (by decide) rfl rfl in_X4_keepIfBetter_X4 tyX4 tyX4_ok nmX4 2 (by decide) lk_X4_keepIfBetter_17 rfl (by decide +kernel) rfl rfl (Nat.le_of_ble_eq_true rfl) (eX_u_size c s (ts_a r 1 (shw (rct w0 a b) (ts_f (fun c => nI c) (r 1) n0))) (nI (pm w0 (24 * a + b)))) dX4_keepIfBetter_102 ?_
          refine tv_aload_n C dX4_keepIfBetter_105 rfl 0 rfl ?_
          refine tv_iload_n C dX4_keepIfBetter_106 rfl 1 rfl ?_
          refine tv_aload_n C dX4_keepIfBetter_107 rfl 0 rfl ?_
          refine tv_get (ci := 4) (Cn := RX4) (T := TX4) (Nf := 5) (v := .ref (tv_ad c 2)) C 15 (by decide) rfl rfl in_X4_keepIfBetter_X4 0 (by decide) lk_X4_keepIfBetter_7 rfl dX4_keepIfBetter_108 ?_
          refine tv_get (ci := 6) (Cn := RX6) (T := TX6) (Nf := 11) (v := .int (s 3 0)) C 2 (by decide) rfl rfl in_X4_keepIfBetter_X6 4 (by decide) lk_X4_keepIfBetter_42 rfl dX4_keepIfBetter_111 ?_
          refine tv_imul C dX4_keepIfBetter_114 ?_
          refine tv_iload_n C dX4_keepIfBetter_115 rfl 2 rfl ?_
          refine tv_iadd C dX4_keepIfBetter_116 ?_
          refine tv_put (ci := 4) (Cn := RX4) (T := TX4) (Nf := 5) (ty := .int) (E' := (eX c s (ts_s (ts_s (ts_a r 1 (shw (rct w0 a b) (ts_f (fun c => nI c) (r 1) n0))) 9 (nI (pm w0 (24 * a + b)))) 10 ((p0 * (s 3 0)) + p1)))) C 15 (by decide) rfl rfl in_X4_keepIfBetter_X4 tyX4 tyX4_ok nmX4 3 (by decide) lk_X4_keepIfBetter_59 rfl (by decide +kernel) rfl rfl (Nat.le_of_ble_eq_true rfl) (eX_u_first c s (ts_s (ts_a r 1 (shw (rct w0 a b) (ts_f (fun c => nI c) (r 1) n0))) 9 (nI (pm w0 (24 * a + b)))) ((p0 * (s 3 0)) + p1)) dX4_keepIfBetter_117 ?_
          refine tv_aload_n C dX4_keepIfBetter_120 rfl 0 rfl ?_
          refine tv_iload_n C dX4_keepIfBetter_121 rfl 3 rfl ?_
          refine tv_aload_n C dX4_keepIfBetter_122 rfl 0 rfl ?_
          refine tv_get (ci := 4) (Cn := RX4) (T := TX4) (Nf := 5) (v := .ref (tv_ad c 2)) C 15 (by decide) rfl rfl in_X4_keepIfBetter_X4 0 (by decide) lk_X4_keepIfBetter_7 rfl dX4_keepIfBetter_123 ?_
          refine tv_get (ci := 6) (Cn := RX6) (T := TX6) (Nf := 11) (v := .int (s 3 0)) C 2 (by decide) rfl rfl in_X4_keepIfBetter_X6 4 (by decide) lk_X4_keepIfBetter_42 rfl dX4_keepIfBetter_126 ?_
          refine tv_imul C dX4_keepIfBetter_129 ?_
          refine tv_iload C dX4_keepIfBetter_130 4 rfl ?_
          refine tv_iadd C dX4_keepIfBetter_132 ?_
          refine tv_put (ci := 4) (Cn := RX4) (T := TX4) (Nf := 5) (ty := .int) (E' := (eX c s (ts_s (ts_s (ts_s (ts_a r 1 (shw (rct w0 a b) (ts_f (fun c => nI c) (r 1) n0))) 9 (nI (pm w0 (24 * a + b)))) 10 ((p0 * (s 3 0)) + p1)) 11 ((p2 * (s 3 0)) + p3)))) C 15 (by decide) rfl rfl in_X4_keepIfBetter_X4 tyX4 tyX4_ok nmX4 4 (by decide) lk_X4_keepIfBetter_62 rfl (by decide +kernel) rfl rfl (Nat.le_of_ble_eq_true rfl) (eX_u_last c s (ts_s (ts_s (ts_a r 1 (shw (rct w0 a b) (ts_f (fun c => nI c) (r 1) n0))) 9 (nI (pm w0 (24 * a + b)))) 10 ((p0 * (s 3 0)) + p1)) ((p2 * (s 3 0)) + p3)) dX4_keepIfBetter_133 ?_
          exact hR _ _ _ dX4_keepIfBetter_136 (by exact ⟨_, rfl, rfl, pM_nn hM hnw hh (by omega) hw z_0 (by omega) ⟨hv1, hv2, hv3, hv4, hbn0⟩ (by unfold sp_pn; rw [ek3]; exact hsn.mp (by assumption)) (by first | exact Or.inl (by assumption) | exact Or.inr (tn_d_lt (by assumption))) (fl_a e_p0 e_p1 e3) (fl_a e_p2 e_p3 e3)⟩)
      | succ k_41 ih41 =>
        intro i x_41_6 w_41 hi41 g1 ex_41_6 ew_41
        subst ex_41_6
        subst ew_41
        have hN41 : i < (b / w0 + 1) := by omega
        have hih : i < h := by omega
        refine tv_iload C dX4_keepIfBetter_41 6 rfl ?_
        refine tv_iload_n C dX4_keepIfBetter_43 rfl 3 rfl ?_
        refine tv_icmp_gt C 89 dX4_keepIfBetter_44 (by decide) (fun c_6 => absurd c_6 (tn_nlt e_p2 (rfl : nI i = nI i) (by omega) (by omega))) (fun c_6 => ?_)
        refine tv_iload_n C dX4_keepIfBetter_47 rfl 2 rfl ?_
        refine tv_istore (lv' := [(7, .int p1), (0, .ref (tv_ad c 15)), (1, .int p0), (2, .int p1), (3, .int p2), (4, .int p3), (5, .int (nI (pm w0 (24 * a + b)))), (6, .int (nI i))]) C dX4_keepIfBetter_48 (by decide) rfl ?_
        have hL50 : ∀ (k_50 m : Nat) (x_50_7 : Int32) (w_50 : Nat → va_E), m + k_50 = (b % w0 + 1) → (a % w0 ≤ m) → x_50_7 = (nI m) → w_50 = (eX c s (ts_a r 1 (shw (prt w0 a b i m) (ts_f (fun c => nI c) (r 1) n0)))) → tv_V c 60 X w_50 50 [(0, .ref (tv_ad c 15)), (1, .int p0), (2, .int p1), (3, .int p2), (4, .int p3), (5, .int (nI (pm w0 (24 * a + b)))), (6, .int (nI i)), (7, .int x_50_7)] [] := by
          intro k_50
          induction k_50 with
          | zero =>
            intro m x_50_7 w_50 hi50 g2 ex_50_7 ew_50
            subst ex_50_7
            subst ew_50
            have hN50 : m = (b % w0 + 1) := by omega
            refine tv_iload C dX4_keepIfBetter_50 7 rfl ?_
            refine tv_iload C dX4_keepIfBetter_52 4 rfl ?_
            refine tv_icmp_gt C 83 dX4_keepIfBetter_54 (by decide) (fun c_7 => ?_) (fun c_7 => absurd (tn_lt e_p3 (rfl : nI m = nI m) (by omega) (by omega)) c_7)
            refine tv_iinc (v := ((nI i) + 1)) (lv' := [(6, .int ((nI i) + 1)), (0, .ref (tv_ad c 15)), (1, .int p0), (2, .int p1), (3, .int p2), (4, .int p3), (5, .int (nI (pm w0 (24 * a + b)))), (7, .int (nI m))]) C dX4_keepIfBetter_83 6 rfl rfl (by decide) rfl ?_
            refine tv_goto C 41 dX4_keepIfBetter_86 (by decide) ?_
            refine tv_lsub [1, 2, 3, 4, 5, 6, 0] rfl ?_
            exact ih41 (i + 1) _ _ (by omega) (by omega) (by first | rfl | exact nI_1 _ | (simp only [eq_true c_1, c_6, c_7, if_true, ↓reduceIte]; done) | (simp [eq_true c_1, c_6, c_7, if_true]; done) | (exfalso; clear hR C; simp_all; done)) (by rw [hN50, (prt_i (w := w0) (a := a) (b := b) (i := i)).resolve_right (by omega)])
          | succ k_50 ih50 =>
            intro m x_50_7 w_50 hi50 g2 ex_50_7 ew_50
            subst ex_50_7
            subst ew_50
            have hN50 : m < (b % w0 + 1) := by omega
            have hmw : m < w0 := by omega
            have hpos : i * w0 + m < n0 := by rw [Nat.mul_comm]; exact pos_lt hnw hih hmw
            refine tv_iload C dX4_keepIfBetter_50 7 rfl ?_
            refine tv_iload C dX4_keepIfBetter_52 4 rfl ?_
            refine tv_icmp_gt C 83 dX4_keepIfBetter_54 (by decide) (fun c_8 => absurd c_8 (tn_nlt e_p3 (rfl : nI m = nI m) (by omega) (by omega))) (fun c_8 => ?_)
            refine tv_aload_n C dX4_keepIfBetter_57 rfl 0 rfl ?_
            refine tv_get (ci := 4) (Cn := RX4) (T := TX4) (Nf := 5) (v := .ref (tv_ad c 6)) C 15 (by decide) rfl rfl in_X4_keepIfBetter_X4 1 (by decide) lk_X4_keepIfBetter_13 rfl dX4_keepIfBetter_58 ?_
            refine tv_iload C dX4_keepIfBetter_61 6 rfl ?_
            refine tv_aload_n C dX4_keepIfBetter_63 rfl 0 rfl ?_
            refine tv_get (ci := 4) (Cn := RX4) (T := TX4) (Nf := 5) (v := .ref (tv_ad c 2)) C 15 (by decide) rfl rfl in_X4_keepIfBetter_X4 0 (by decide) lk_X4_keepIfBetter_7 rfl dX4_keepIfBetter_64 ?_
            refine tv_get (ci := 6) (Cn := RX6) (T := TX6) (Nf := 11) (v := .int (s 3 0)) C 2 (by decide) rfl rfl in_X4_keepIfBetter_X6 4 (by decide) lk_X4_keepIfBetter_42 rfl dX4_keepIfBetter_67 ?_
            refine tv_imul C dX4_keepIfBetter_70 ?_
            refine tv_iload C dX4_keepIfBetter_71 7 rfl ?_
            refine tv_iadd C dX4_keepIfBetter_73 ?_
            refine tv_callv (As := [.int (((nI i) * (s 3 0)) + (nI m))]) (rest := []) (ci := 2) (cn := RX2) (T := TX2) (Nf := 3) C 6 (kX2_paintOne c s (ts_a r 1 (shw (prt w0 a b i m) (ts_f (fun c => nI c) (r 1) n0))) ((i * w0) + m) (((nI i) * (s 3 0)) + (nI m)) (tn_add (tn_mul (rfl : nI i = nI i) e3) (rfl : nI m = nI m)) (by omega)) gX4_keepIfBetter_X2_paintOne rfl yd_X2_paintOne ⟨rfl, rfl⟩ (by decide) (by decide) rfl rfl rfl rfl (Nat.le_of_ble_eq_true rfl) dX4_keepIfBetter_74 (fun u_9 z_9 => ?_)
            subst z_9
            show tv_V c 60 X (eX c s (ts_a (ts_a r 1 (shw (prt w0 a b i m) (ts_f (fun c => nI c) (r 1) n0))) 1 (upd ((shw (prt w0 a b i m) (ts_f (fun c => nI c) (r 1) n0))) ((i * w0) + m) 24))) 77 [(0, .ref (tv_ad c 15)), (1, .int p0), (2, .int p1), (3, .int p2), (4, .int p3), (5, .int (nI (pm w0 (24 * a + b)))), (6, .int (nI i)), (7, .int (nI m))] []
            refine tv_eqE (E' := (eX c s (ts_a r 1 (upd ((shw (prt w0 a b i m) (ts_f (fun c => nI c) (r 1) n0))) ((i * w0) + m) 24)))) (congrArg (fun z => eX c s z) (by funext zz; rcases Classical.em (zz = 1) with hzz | h_1; (subst hzz; rfl); simp only [ts_s, ts_a, h_1, ↓reduceIte])) ?_
            show tv_V c 60 X (eX c s (ts_a r 1 (upd ((shw (prt w0 a b i m) (ts_f (fun c => nI c) (r 1) n0))) ((i * w0) + m) 24))) 77 [(0, .ref (tv_ad c 15)), (1, .int p0), (2, .int p1), (3, .int p2), (4, .int p3), (5, .int (nI (pm w0 (24 * a + b)))), (6, .int (nI i)), (7, .int (nI m))] []
            refine tv_iinc (v := ((nI m) + 1)) (lv' := [(7, .int ((nI m) + 1)), (0, .ref (tv_ad c 15)), (1, .int p0), (2, .int p1), (3, .int p2), (4, .int p3), (5, .int (nI (pm w0 (24 * a + b)))), (6, .int (nI i))]) C dX4_keepIfBetter_77 7 rfl rfl (by decide) rfl ?_
            refine tv_goto C 50 dX4_keepIfBetter_80 (by decide) ?_
            refine tv_lsub [1, 2, 3, 4, 5, 6, 7, 0] rfl ?_
            exact ih50 (m + 1) _ _ (by omega) (by omega) (by first | rfl | exact nI_1 _ | (simp only [eq_true c_1, c_6, c_8, if_true, ↓reduceIte]; done) | (simp [eq_true c_1, c_6, c_8, if_true]; done) | (exfalso; clear hR C; simp_all; done)) (by rw [shw_m (Q := prt w0 a b i (m + 1)) (fun j => by rw [Nat.mul_comm i w0]; exact prt_m (by omega) hmw)])
        refine tv_lsub [1, 2, 3, 4, 5, 6, 7, 0] rfl ?_
        exact hL50 ((b % w0 + 1) - (a % w0)) (a % w0) _ _ (by omega) (by omega) (by exact e_p1) (by first | (simp only [eq_true c_1, c_6, if_true, ↓reduceIte]; done) | rfl | (simp [eq_true c_1, c_6, if_true]; done) | (exfalso; clear hR C; simp_all; done))
    refine tv_lsub [2, 3, 4, 5, 6, 1, 0] rfl ?_
    exact hL41 ((b / w0 + 1) - (a / w0)) (a / w0) _ _ (by omega) (by omega) (by exact e_p0) (by rw [shw_0 (fun j => prt_0)])
  · skip
    refine tv_iload C dX4_keepIfBetter_21 0 rfl ?_
    refine tv_aload_n C dX4_keepIfBetter_23 rfl 1 rfl ?_
    refine tv_get (ci := 4) (Cn := RX4) (T := TX4) (Nf := 5) (v := .int (r 9 0)) C 15 (by decide) rfl rfl in_X4_keepIfBetter_X4 2 (by decide) lk_X4_keepIfBetter_17 rfl dX4_keepIfBetter_24 ?_
    refine tv_icmp_lt C 31 dX4_keepIfBetter_27 (by decide) (fun c_10 => ?_) (fun c_10 => ?_)
    · skip
      refine tv_aload_n C dX4_keepIfBetter_31 rfl 1 rfl ?_
      refine tv_get (ci := 4) (Cn := RX4) (T := TX4) (Nf := 5) (v := .ref (tv_ad c 6)) C 15 (by decide) rfl rfl in_X4_keepIfBetter_X4 1 (by decide) lk_X4_keepIfBetter_13 rfl dX4_keepIfBetter_32 ?_
      refine tv_callv (As := []) (rest := []) (ci := 2) (cn := RX2) (T := TX2) (Nf := 3) C 6 (kX2_unpaint c s r n0  e9 hn) gX4_keepIfBetter_X2_unpaint rfl yd_X2_unpaint ⟨rfl, rfl⟩ (by decide) (by decide) rfl rfl rfl rfl (Nat.le_of_ble_eq_true rfl) dX4_keepIfBetter_35 (fun u_11 z_11 => ?_)
      subst z_11
      refine tv_iload_n C dX4_keepIfBetter_38 rfl 2 rfl ?_
      refine tv_istore (lv' := [(6, .int p0), (5, .int (nI (pm w0 (24 * a + b)))), (0, .ref (tv_ad c 15)), (1, .int p0), (2, .int p1), (3, .int p2), (4, .int p3)]) C dX4_keepIfBetter_39 (by decide) rfl ?_
      have hL41 : ∀ (k_41 i : Nat) (x_41_6 : Int32) (w_41 : Nat → va_E), i + k_41 = (b / w0 + 1) → (a / w0 ≤ i) → x_41_6 = (nI i) → w_41 = (eX c s (ts_a r 1 (shw (prt w0 a b i (a % w0)) (ts_f (fun c => nI c) (r 1) n0)))) → tv_V c 60 X w_41 41 [(0, .ref (tv_ad c 15)), (1, .int p0), (2, .int p1), (3, .int p2), (4, .int p3), (5, .int (nI (pm w0 (24 * a + b)))), (6, .int x_41_6)] [] := by
        intro k_41
        induction k_41 with
        | zero =>
          intro i x_41_6 w_41 hi41 g1 ex_41_6 ew_41
          subst ex_41_6
          subst ew_41
          have hN41 : i = (b / w0 + 1) := by omega
          refine tv_iload C dX4_keepIfBetter_41 6 rfl ?_
          refine tv_iload_n C dX4_keepIfBetter_43 rfl 3 rfl ?_
          refine tv_icmp_gt C 89 dX4_keepIfBetter_44 (by decide) (fun c_12 => ?_) (fun c_12 => absurd (tn_lt e_p2 (rfl : nI i = nI i) (by omega) (by omega)) c_12)
          refine tv_eqE (E' := (eX c s (ts_a r 1 (shw (rct w0 a b) (ts_f (fun c => nI c) (r 1) n0))))) (by rw [hN41, prt_e hr1]) ?_
          have hv := vw_pn (s := s) (r := (ts_a r 1 (shw (rct w0 a b) (ts_f (fun c => nI c) (r 1) n0)))) (f := g) (k := k) (P := rct w0 a b) hk6 e9 hn e8 hl hL (fun x hx => by show shw (rct w0 a b) (ts_f (fun c => nI c) (r 1) n0) x = _; unfold shw ts_f; rw [if_pos (c := x < n0) hx])
          have hsn := an_sn hv.1 (pnt_sm s k _) e2 e3 e9 hnw hn hh hw2.2.1 hw
          refine tv_aload_n C dX4_keepIfBetter_89 rfl 0 rfl ?_
          refine tv_get (ci := 4) (Cn := RX4) (T := TX4) (Nf := 5) (v := .ref (tv_ad c 6)) C 15 (by decide) rfl rfl in_X4_keepIfBetter_X4 1 (by decide) lk_X4_keepIfBetter_13 rfl dX4_keepIfBetter_90 ?_
          refine tv_calli (As := []) (rest := []) (ci := 2) (cn := RX2) (T := TX2) (Nf := 3) C 6 (kX2_isAnySeen c s (ts_a r 1 (shw (rct w0 a b) (ts_f (fun c => nI c) (r 1) n0)))   hI hv.2) gX4_keepIfBetter_X2_isAnySeen rfl yd_X2_isAnySeen ⟨rfl, rfl⟩ (by decide) (by decide) rfl rfl rfl rfl (Nat.le_of_ble_eq_true rfl) dX4_keepIfBetter_93 (fun q_13 u_13 z_13 => ?_)
          obtain ⟨rfl, rfl⟩ := z_13
          show tv_V c 60 X (eX c s (ts_a r 1 (shw (rct w0 a b) (ts_f (fun c => nI c) (r 1) n0)))) 96 [(0, .ref (tv_ad c 15)), (1, .int p0), (2, .int p1), (3, .int p2), (4, .int p3), (5, .int (nI (pm w0 (24 * a + b)))), (6, .int (nI i))] [.int (sp_an s (ts_a r 1 (shw (rct w0 a b) (ts_f (fun c => nI c) (r 1) n0))))]
          refine tv_if_ne C 136 dX4_keepIfBetter_96 (by decide) (fun c_14 => ?_) (fun c_14 => ?_)
          · skip
            exact hR _ _ _ dX4_keepIfBetter_136 (by exact ⟨_, rfl, rfl, pM_nb hM (by omega) (by unfold sp_pn; rw [ek3]; exact fun z => absurd (hsn.mpr z) (by assumption))⟩)
          · skip
            refine tv_aload_n C dX4_keepIfBetter_99 rfl 0 rfl ?_
            refine tv_iload C dX4_keepIfBetter_100 5 rfl ?_
            refine tv_put (ci := 4) (Cn := RX4) (T := TX4) (Nf := 5) (ty := .int) (E' := (eX c s (ts_s (ts_a r 1 (shw (rct w0 a b) (ts_f (fun c => nI c) (r 1) n0))) 9 (nI (pm w0 (24 * a + b)))))) C 15 (by decide) rfl rfl in_X4_keepIfBetter_X4 tyX4 tyX4_ok nmX4 2 (by decide) lk_X4_keepIfBetter_17 rfl (by decide +kernel) rfl rfl (Nat.le_of_ble_eq_true rfl) (eX_u_size c s (ts_a r 1 (shw (rct w0 a b) (ts_f (fun c => nI c) (r 1) n0))) (nI (pm w0 (24 * a + b)))) dX4_keepIfBetter_102 ?_
            refine tv_aload_n C dX4_keepIfBetter_105 rfl 0 rfl ?_
            refine tv_iload_n C dX4_keepIfBetter_106 rfl 1 rfl ?_
            refine tv_aload_n C dX4_keepIfBetter_107 rfl 0 rfl ?_
            refine tv_get (ci := 4) (Cn := RX4) (T := TX4) (Nf := 5) (v := .ref (tv_ad c 2)) C 15 (by decide) rfl rfl in_X4_keepIfBetter_X4 0 (by decide) lk_X4_keepIfBetter_7 rfl dX4_keepIfBetter_108 ?_
            refine tv_get (ci := 6) (Cn := RX6) (T := TX6) (Nf := 11) (v := .int (s 3 0)) C 2 (by decide) rfl rfl in_X4_keepIfBetter_X6 4 (by decide) lk_X4_keepIfBetter_42 rfl dX4_keepIfBetter_111 ?_
            refine tv_imul C dX4_keepIfBetter_114 ?_
            refine tv_iload_n C dX4_keepIfBetter_115 rfl 2 rfl ?_
            refine tv_iadd C dX4_keepIfBetter_116 ?_
            refine tv_put (ci := 4) (Cn := RX4) (T := TX4) (Nf := 5) (ty := .int) (E' := (eX c s (ts_s (ts_s (ts_a r 1 (shw (rct w0 a b) (ts_f (fun c => nI c) (r 1) n0))) 9 (nI (pm w0 (24 * a + b)))) 10 ((p0 * (s 3 0)) + p1)))) C 15 (by decide) rfl rfl in_X4_keepIfBetter_X4 tyX4 tyX4_ok nmX4 3 (by decide) lk_X4_keepIfBetter_59 rfl (by decide +kernel) rfl rfl (Nat.le_of_ble_eq_true rfl) (eX_u_first c s (ts_s (ts_a r 1 (shw (rct w0 a b) (ts_f (fun c => nI c) (r 1) n0))) 9 (nI (pm w0 (24 * a + b)))) ((p0 * (s 3 0)) + p1)) dX4_keepIfBetter_117 ?_
            refine tv_aload_n C dX4_keepIfBetter_120 rfl 0 rfl ?_
            refine tv_iload_n C dX4_keepIfBetter_121 rfl 3 rfl ?_
            refine tv_aload_n C dX4_keepIfBetter_122 rfl 0 rfl ?_
            refine tv_get (ci := 4) (Cn := RX4) (T := TX4) (Nf := 5) (v := .ref (tv_ad c 2)) C 15 (by decide) rfl rfl in_X4_keepIfBetter_X4 0 (by decide) lk_X4_keepIfBetter_7 rfl dX4_keepIfBetter_123 ?_
            refine tv_get (ci := 6) (Cn := RX6) (T := TX6) (Nf := 11) (v := .int (s 3 0)) C 2 (by decide) rfl rfl in_X4_keepIfBetter_X6 4 (by decide) lk_X4_keepIfBetter_42 rfl dX4_keepIfBetter_126 ?_
            refine tv_imul C dX4_keepIfBetter_129 ?_
            refine tv_iload C dX4_keepIfBetter_130 4 rfl ?_
            refine tv_iadd C dX4_keepIfBetter_132 ?_
            refine tv_put (ci := 4) (Cn := RX4) (T := TX4) (Nf := 5) (ty := .int) (E' := (eX c s (ts_s (ts_s (ts_s (ts_a r 1 (shw (rct w0 a b) (ts_f (fun c => nI c) (r 1) n0))) 9 (nI (pm w0 (24 * a + b)))) 10 ((p0 * (s 3 0)) + p1)) 11 ((p2 * (s 3 0)) + p3)))) C 15 (by decide) rfl rfl in_X4_keepIfBetter_X4 tyX4 tyX4_ok nmX4 4 (by decide) lk_X4_keepIfBetter_62 rfl (by decide +kernel) rfl rfl (Nat.le_of_ble_eq_true rfl) (eX_u_last c s (ts_s (ts_s (ts_a r 1 (shw (rct w0 a b) (ts_f (fun c => nI c) (r 1) n0))) 9 (nI (pm w0 (24 * a + b)))) 10 ((p0 * (s 3 0)) + p1)) ((p2 * (s 3 0)) + p3)) dX4_keepIfBetter_133 ?_
            exact hR _ _ _ dX4_keepIfBetter_136 (by exact ⟨_, rfl, rfl, pM_nn hM hnw hh (by omega) hw z_0 (by omega) ⟨hv1, hv2, hv3, hv4, hbn0⟩ (by unfold sp_pn; rw [ek3]; exact hsn.mp (by assumption)) (by first | exact Or.inl (by assumption) | exact Or.inr (tn_d_lt (by assumption))) (fl_a e_p0 e_p1 e3) (fl_a e_p2 e_p3 e3)⟩)
        | succ k_41 ih41 =>
          intro i x_41_6 w_41 hi41 g1 ex_41_6 ew_41
          subst ex_41_6
          subst ew_41
          have hN41 : i < (b / w0 + 1) := by omega
          have hih : i < h := by omega
          refine tv_iload C dX4_keepIfBetter_41 6 rfl ?_
          refine tv_iload_n C dX4_keepIfBetter_43 rfl 3 rfl ?_
          refine tv_icmp_gt C 89 dX4_keepIfBetter_44 (by decide) (fun c_15 => absurd c_15 (tn_nlt e_p2 (rfl : nI i = nI i) (by omega) (by omega))) (fun c_15 => ?_)
          refine tv_iload_n C dX4_keepIfBetter_47 rfl 2 rfl ?_
          refine tv_istore (lv' := [(7, .int p1), (0, .ref (tv_ad c 15)), (1, .int p0), (2, .int p1), (3, .int p2), (4, .int p3), (5, .int (nI (pm w0 (24 * a + b)))), (6, .int (nI i))]) C dX4_keepIfBetter_48 (by decide) rfl ?_
          have hL50 : ∀ (k_50 m : Nat) (x_50_7 : Int32) (w_50 : Nat → va_E), m + k_50 = (b % w0 + 1) → (a % w0 ≤ m) → x_50_7 = (nI m) → w_50 = (eX c s (ts_a r 1 (shw (prt w0 a b i m) (ts_f (fun c => nI c) (r 1) n0)))) → tv_V c 60 X w_50 50 [(0, .ref (tv_ad c 15)), (1, .int p0), (2, .int p1), (3, .int p2), (4, .int p3), (5, .int (nI (pm w0 (24 * a + b)))), (6, .int (nI i)), (7, .int x_50_7)] [] := by
            intro k_50
            induction k_50 with
            | zero =>
              intro m x_50_7 w_50 hi50 g2 ex_50_7 ew_50
              subst ex_50_7
              subst ew_50
              have hN50 : m = (b % w0 + 1) := by omega
              refine tv_iload C dX4_keepIfBetter_50 7 rfl ?_
              refine tv_iload C dX4_keepIfBetter_52 4 rfl ?_
              refine tv_icmp_gt C 83 dX4_keepIfBetter_54 (by decide) (fun c_16 => ?_) (fun c_16 => absurd (tn_lt e_p3 (rfl : nI m = nI m) (by omega) (by omega)) c_16)
              refine tv_iinc (v := ((nI i) + 1)) (lv' := [(6, .int ((nI i) + 1)), (0, .ref (tv_ad c 15)), (1, .int p0), (2, .int p1), (3, .int p2), (4, .int p3), (5, .int (nI (pm w0 (24 * a + b)))), (7, .int (nI m))]) C dX4_keepIfBetter_83 6 rfl rfl (by decide) rfl ?_
              refine tv_goto C 41 dX4_keepIfBetter_86 (by decide) ?_
              refine tv_lsub [1, 2, 3, 4, 5, 6, 0] rfl ?_
              exact ih41 (i + 1) _ _ (by omega) (by omega) (by first | rfl | exact nI_1 _ | (simp only [c_1, c_10, tn_d_lt c_10, c_15, c_16, if_true, ↓reduceIte]; done) | (simp [c_1, c_10, tn_d_lt c_10, c_15, c_16, if_true]; done) | (exfalso; clear hR C; simp_all; done)) (by rw [hN50, (prt_i (w := w0) (a := a) (b := b) (i := i)).resolve_right (by omega)])
            | succ k_50 ih50 =>
              intro m x_50_7 w_50 hi50 g2 ex_50_7 ew_50
              subst ex_50_7
              subst ew_50
              have hN50 : m < (b % w0 + 1) := by omega
              have hmw : m < w0 := by omega
              have hpos : i * w0 + m < n0 := by rw [Nat.mul_comm]; exact pos_lt hnw hih hmw
              refine tv_iload C dX4_keepIfBetter_50 7 rfl ?_
              refine tv_iload C dX4_keepIfBetter_52 4 rfl ?_
              refine tv_icmp_gt C 83 dX4_keepIfBetter_54 (by decide) (fun c_17 => absurd c_17 (tn_nlt e_p3 (rfl : nI m = nI m) (by omega) (by omega))) (fun c_17 => ?_)
              refine tv_aload_n C dX4_keepIfBetter_57 rfl 0 rfl ?_
              refine tv_get (ci := 4) (Cn := RX4) (T := TX4) (Nf := 5) (v := .ref (tv_ad c 6)) C 15 (by decide) rfl rfl in_X4_keepIfBetter_X4 1 (by decide) lk_X4_keepIfBetter_13 rfl dX4_keepIfBetter_58 ?_
              refine tv_iload C dX4_keepIfBetter_61 6 rfl ?_
              refine tv_aload_n C dX4_keepIfBetter_63 rfl 0 rfl ?_
              refine tv_get (ci := 4) (Cn := RX4) (T := TX4) (Nf := 5) (v := .ref (tv_ad c 2)) C 15 (by decide) rfl rfl in_X4_keepIfBetter_X4 0 (by decide) lk_X4_keepIfBetter_7 rfl dX4_keepIfBetter_64 ?_
              refine tv_get (ci := 6) (Cn := RX6) (T := TX6) (Nf := 11) (v := .int (s 3 0)) C 2 (by decide) rfl rfl in_X4_keepIfBetter_X6 4 (by decide) lk_X4_keepIfBetter_42 rfl dX4_keepIfBetter_67 ?_
              refine tv_imul C dX4_keepIfBetter_70 ?_
              refine tv_iload C dX4_keepIfBetter_71 7 rfl ?_
              refine tv_iadd C dX4_keepIfBetter_73 ?_
              refine tv_callv (As := [.int (((nI i) * (s 3 0)) + (nI m))]) (rest := []) (ci := 2) (cn := RX2) (T := TX2) (Nf := 3) C 6 (kX2_paintOne c s (ts_a r 1 (shw (prt w0 a b i m) (ts_f (fun c => nI c) (r 1) n0))) ((i * w0) + m) (((nI i) * (s 3 0)) + (nI m)) (tn_add (tn_mul (rfl : nI i = nI i) e3) (rfl : nI m = nI m)) (by omega)) gX4_keepIfBetter_X2_paintOne rfl yd_X2_paintOne ⟨rfl, rfl⟩ (by decide) (by decide) rfl rfl rfl rfl (Nat.le_of_ble_eq_true rfl) dX4_keepIfBetter_74 (fun u_18 z_18 => ?_)
              subst z_18
              show tv_V c 60 X (eX c s (ts_a (ts_a r 1 (shw (prt w0 a b i m) (ts_f (fun c => nI c) (r 1) n0))) 1 (upd ((shw (prt w0 a b i m) (ts_f (fun c => nI c) (r 1) n0))) ((i * w0) + m) 24))) 77 [(0, .ref (tv_ad c 15)), (1, .int p0), (2, .int p1), (3, .int p2), (4, .int p3), (5, .int (nI (pm w0 (24 * a + b)))), (6, .int (nI i)), (7, .int (nI m))] []
              refine tv_eqE (E' := (eX c s (ts_a r 1 (upd ((shw (prt w0 a b i m) (ts_f (fun c => nI c) (r 1) n0))) ((i * w0) + m) 24)))) (congrArg (fun z => eX c s z) (by funext zz; rcases Classical.em (zz = 1) with hzz | h_1; (subst hzz; rfl); simp only [ts_s, ts_a, h_1, ↓reduceIte])) ?_
              show tv_V c 60 X (eX c s (ts_a r 1 (upd ((shw (prt w0 a b i m) (ts_f (fun c => nI c) (r 1) n0))) ((i * w0) + m) 24))) 77 [(0, .ref (tv_ad c 15)), (1, .int p0), (2, .int p1), (3, .int p2), (4, .int p3), (5, .int (nI (pm w0 (24 * a + b)))), (6, .int (nI i)), (7, .int (nI m))] []
              refine tv_iinc (v := ((nI m) + 1)) (lv' := [(7, .int ((nI m) + 1)), (0, .ref (tv_ad c 15)), (1, .int p0), (2, .int p1), (3, .int p2), (4, .int p3), (5, .int (nI (pm w0 (24 * a + b)))), (6, .int (nI i))]) C dX4_keepIfBetter_77 7 rfl rfl (by decide) rfl ?_
              refine tv_goto C 50 dX4_keepIfBetter_80 (by decide) ?_
              refine tv_lsub [1, 2, 3, 4, 5, 6, 7, 0] rfl ?_
              exact ih50 (m + 1) _ _ (by omega) (by omega) (by first | rfl | exact nI_1 _ | (simp only [c_1, c_10, tn_d_lt c_10, c_15, c_17, if_true, ↓reduceIte]; done) | (simp [c_1, c_10, tn_d_lt c_10, c_15, c_17, if_true]; done) | (exfalso; clear hR C; simp_all; done)) (by rw [shw_m (Q := prt w0 a b i (m + 1)) (fun j => by rw [Nat.mul_comm i w0]; exact prt_m (by omega) hmw)])
          refine tv_lsub [1, 2, 3, 4, 5, 6, 7, 0] rfl ?_
          exact hL50 ((b % w0 + 1) - (a % w0)) (a % w0) _ _ (by omega) (by omega) (by exact e_p1) (by first | (simp only [c_1, c_10, tn_d_lt c_10, c_15, if_true, ↓reduceIte]; done) | rfl | (simp [c_1, c_10, tn_d_lt c_10, c_15, if_true]; done) | (exfalso; clear hR C; simp_all; done))
      refine tv_lsub [2, 3, 4, 5, 6, 1, 0] rfl ?_
      exact hL41 ((b / w0 + 1) - (a / w0)) (a / w0) _ _ (by omega) (by omega) (by exact e_p0) (by rw [shw_0 (fun j => prt_0)])
    · skip
      exact hR _ _ _ dX4_keepIfBetter_30 (by exact ⟨_, rfl, rfl, pM_nk hM hnw hh (by omega) hw (by omega) hbn0 (by assumption) (tn_d_nlt (by assumption))⟩)
set_option maxHeartbeats 1000000 in
set_option maxRecDepth 100000 in
theorem kX4_searchAround (c : tv_c) (s r : ts_T)  (cc : Nat) (k : Nat) (p0 p1 : Int32) (e_p0 : p0 = nI cc) (h_p0 : cc < 24) (e_p1 : p1 = nI k) (h_p1 : k < 6) (hI : iv s) (hcn0 : cc < tk (s 9 0)) (hkn0 : k < tk (s 7 0)) : tv_Mv c 60 yX4_searchAround wsX4_searchAround { frames := 5, cells := 0, slots := 0, locals := 124 } [.ref (tv_ad c 15), .int p0, .int p1] (eX c s r) (fun u_0 => ∃ r_0, u_0 = eX c s r_0 ∧ pM s (tk (s 3 0)) (tk (s 9 0)) cc k 0 (r_0 9 0) (r_0 10 0) (r_0 11 0) (24 * ((cc / tk (s 3 0) + 1) * tk (s 3 0)))) := by
  refine tv_metV (by decide +kernel) rfl rfl (Nat.le_of_ble_eq_true rfl) (fun X C hR => ?_)
  show tv_V c 60 X (eX c s r) 0 [(0, .ref (tv_ad c 15)), (1, .int p0), (2, .int p1)] []
  have hC := iv.hC hI
  obtain ⟨h, w, n, nk, nl, ny, nm, li, e2, e3, e9, hnw, hh, hw, hn, hz, hp, e7, hk, e8, hl, e4, hy, e5, hm, e6, hli, hcel, hkin, hban, hwei, hshe⟩ := id hI
  have ek9 := tk_e e9 (by omega)
  have ek7 := tk_e e7 (by omega)
  have ek3 := tk_e e3 (by omega)
  have hcn := hcn0
  have hkn := hkn0
  rw [ek9] at hcn
  rw [ek7] at hkn
  have hw2 := hp (by omega)
  have hdc := Nat.div_le_self cc w
  have hd0 : 0 ≤ cc / w := Nat.zero_le _
  have hm0 : 0 ≤ cc % w := Nat.zero_le _
  have hmc := Nat.mod_lt cc (show 0 < w by omega)
  have hch : cc / w < h := Nat.div_lt_of_lt_mul (by rw [Nat.mul_comm, ← hnw]; exact hcn)
  refine tv_aload_n C dX4_searchAround_0 rfl 0 rfl ?_
  refine tv_iconst (v := 0) C dX4_searchAround_1 (by decide) ?_
  refine tv_put (ci := 4) (Cn := RX4) (T := TX4) (Nf := 5) (ty := .int) (E' := (eX c s (ts_s r 9 0))) C 15 (by decide) rfl rfl in_X4_searchAround_X4 tyX4 tyX4_ok nmX4 2 (by decide) lk_X4_searchAround_17 rfl (by decide +kernel) rfl rfl (Nat.le_of_ble_eq_true rfl) (eX_u_size c s r 0) dX4_searchAround_2 ?_
  refine tv_aload_n C dX4_searchAround_5 rfl 0 rfl ?_
  refine tv_get (ci := 4) (Cn := RX4) (T := TX4) (Nf := 5) (v := .ref (tv_ad c 6)) C 15 (by decide) rfl rfl in_X4_searchAround_X4 1 (by decide) lk_X4_searchAround_13 rfl dX4_searchAround_6 ?_
  refine tv_callv (As := []) (rest := []) (ci := 2) (cn := RX2) (T := TX2) (Nf := 3) C 6 (kX2_takeAsItIs c s (ts_s r 9 0)   hI) gX4_searchAround_X2_takeAsItIs rfl yd_X2_takeAsItIs ⟨rfl, rfl⟩ (by decide) (by decide) rfl rfl rfl rfl (Nat.le_of_ble_eq_true rfl) dX4_searchAround_9 (fun u_1 z_1 => ?_)
  subst z_1
  show tv_V c 60 X (eX c s (ts_a (ts_a (ts_s r 9 0) 0 (lk_a s (r 0) (2 * tk (s 8 0)) (tk (s 9 0)) 0)) 1 (ts_f (fun c => nI c) (r 1) (tk (s 9 0))))) 12 [(0, .ref (tv_ad c 15)), (1, .int p0), (2, .int p1)] []
  refine tv_aload_n C dX4_searchAround_12 rfl 0 rfl ?_
  refine tv_get (ci := 4) (Cn := RX4) (T := TX4) (Nf := 5) (v := .ref (tv_ad c 6)) C 15 (by decide) rfl rfl in_X4_searchAround_X4 1 (by decide) lk_X4_searchAround_13 rfl dX4_searchAround_13 ?_
  refine tv_iload_n C dX4_searchAround_16 rfl 2 rfl ?_
  refine tv_callv (As := [.int p1]) (rest := []) (ci := 2) (cn := RX2) (T := TX2) (Nf := 3) C 6 (kX2_takeFresh c s (ts_a (ts_a (ts_s r 9 0) 0 (lk_a s (r 0) (2 * tk (s 8 0)) (tk (s 9 0)) 0)) 1 (ts_f (fun c => nI c) (r 1) (tk (s 9 0)))) k p1 e_p1 (by omega) hI) gX4_searchAround_X2_takeFresh rfl yd_X2_takeFresh ⟨rfl, rfl⟩ (by decide) (by decide) rfl rfl rfl rfl (Nat.le_of_ble_eq_true rfl) dX4_searchAround_17 (fun u_2 z_2 => ?_)
  subst z_2
  show tv_V c 60 X (eX c s (ts_a (ts_a (ts_a (ts_s r 9 0) 0 (lk_a s (r 0) (2 * tk (s 8 0)) (tk (s 9 0)) 0)) 1 (ts_f (fun c => nI c) (r 1) (tk (s 9 0)))) 0 (lk_f s ((lk_a s (r 0) (2 * tk (s 8 0)) (tk (s 9 0)) 0)) k (2 * tk (s 8 0))))) 20 [(0, .ref (tv_ad c 15)), (1, .int p0), (2, .int p1)] []
  refine tv_eqE (E' := (eX c s (ts_a (ts_a (ts_s r 9 0) 0 (lk_f s ((lk_a s (r 0) (2 * tk (s 8 0)) (tk (s 9 0)) 0)) k (2 * tk (s 8 0)))) 1 (ts_f (fun c => nI c) (r 1) (tk (s 9 0)))))) (congrArg (fun z => eX c s z) (by funext zz; rcases Classical.em (zz = 9) with hzz | h_9; (subst hzz; rfl); rcases Classical.em (zz = 0) with hzz | h_0; (subst hzz; rfl); rcases Classical.em (zz = 1) with hzz | h_1; (subst hzz; rfl); simp only [ts_s, ts_a, h_9, h_0, h_1, ↓reduceIte])) ?_
  show tv_V c 60 X (eX c s (ts_a (ts_a (ts_s r 9 0) 0 (lk_f s ((lk_a s (r 0) (2 * tk (s 8 0)) (tk (s 9 0)) 0)) k (2 * tk (s 8 0)))) 1 (ts_f (fun c => nI c) (r 1) (tk (s 9 0))))) 20 [(0, .ref (tv_ad c 15)), (1, .int p0), (2, .int p1)] []
  refine tv_aload_n C dX4_searchAround_20 rfl 0 rfl ?_
  refine tv_get (ci := 4) (Cn := RX4) (T := TX4) (Nf := 5) (v := .ref (tv_ad c 2)) C 15 (by decide) rfl rfl in_X4_searchAround_X4 0 (by decide) lk_X4_searchAround_7 rfl dX4_searchAround_21 ?_
  refine tv_iload_n C dX4_searchAround_24 rfl 1 rfl ?_
  refine tv_calli (As := [.int p0]) (rest := []) (ci := 6) (cn := RX6) (T := TX6) (Nf := 11) C 2 (kX6_rowOf c s (ts_a (ts_a (ts_s r 9 0) 0 (lk_f s ((lk_a s (r 0) (2 * tk (s 8 0)) (tk (s 9 0)) 0)) k (2 * tk (s 8 0)))) 1 (ts_f (fun c => nI c) (r 1) (tk (s 9 0)))) w cc p0 e_p0 (by omega) e3 (by omega) hw) gX4_searchAround_X6_rowOf rfl yd_X6_rowOf ⟨rfl, rfl⟩ (by decide) (by decide) rfl rfl rfl rfl (Nat.le_of_ble_eq_true rfl) dX4_searchAround_25 (fun q_3 u_3 z_3 => ?_)
  obtain ⟨rfl, rfl⟩ := z_3
  show tv_V c 60 X (eX c s (ts_a (ts_a (ts_s r 9 0) 0 (lk_f s ((lk_a s (r 0) (2 * tk (s 8 0)) (tk (s 9 0)) 0)) k (2 * tk (s 8 0)))) 1 (ts_f (fun c => nI c) (r 1) (tk (s 9 0))))) 28 [(0, .ref (tv_ad c 15)), (1, .int p0), (2, .int p1)] [.int (nI (cc / w))]
  refine tv_istore_n (lv' := [(3, .int (nI (cc / w))), (0, .ref (tv_ad c 15)), (1, .int p0), (2, .int p1)]) C dX4_searchAround_28 rfl (by decide) rfl ?_
  refine tv_aload_n C dX4_searchAround_29 rfl 1 rfl ?_
  refine tv_get (ci := 4) (Cn := RX4) (T := TX4) (Nf := 5) (v := .ref (tv_ad c 2)) C 15 (by decide) rfl rfl in_X4_searchAround_X4 0 (by decide) lk_X4_searchAround_7 rfl dX4_searchAround_30 ?_
  refine tv_iload_n C dX4_searchAround_33 rfl 2 rfl ?_
  refine tv_calli (As := [.int p0]) (rest := []) (ci := 6) (cn := RX6) (T := TX6) (Nf := 11) C 2 (kX6_columnOf c s (ts_a (ts_a (ts_s r 9 0) 0 (lk_f s ((lk_a s (r 0) (2 * tk (s 8 0)) (tk (s 9 0)) 0)) k (2 * tk (s 8 0)))) 1 (ts_f (fun c => nI c) (r 1) (tk (s 9 0)))) w cc p0 e_p0 (by omega) e3 (by omega) hw) gX4_searchAround_X6_columnOf rfl yd_X6_columnOf ⟨rfl, rfl⟩ (by decide) (by decide) rfl rfl rfl rfl (Nat.le_of_ble_eq_true rfl) dX4_searchAround_34 (fun q_4 u_4 z_4 => ?_)
  obtain ⟨rfl, rfl⟩ := z_4
  show tv_V c 60 X (eX c s (ts_a (ts_a (ts_s r 9 0) 0 (lk_f s ((lk_a s (r 0) (2 * tk (s 8 0)) (tk (s 9 0)) 0)) k (2 * tk (s 8 0)))) 1 (ts_f (fun c => nI c) (r 1) (tk (s 9 0))))) 37 [(3, .int (nI (cc / w))), (0, .ref (tv_ad c 15)), (1, .int p0), (2, .int p1)] [.int (nI (cc % w))]
  refine tv_istore (lv' := [(4, .int (nI (cc % w))), (3, .int (nI (cc / w))), (0, .ref (tv_ad c 15)), (1, .int p0), (2, .int p1)]) C dX4_searchAround_37 (by decide) rfl ?_
  refine tv_iconst (v := 0) C dX4_searchAround_39 (by decide) ?_
  refine tv_istore (lv' := [(5, .int 0), (4, .int (nI (cc % w))), (3, .int (nI (cc / w))), (0, .ref (tv_ad c 15)), (1, .int p0), (2, .int p1)]) C dX4_searchAround_40 (by decide) rfl ?_
  have hL42 : ∀ (k_42 i : Nat) (x_42_5 : Int32) (ra : ts_T), i + k_42 = (cc / w + 1) → (ra 0 = (lk_f s (lk_a s (r 0) (2 * tk (s 8 0)) (tk (s 9 0)) 0) k (2 * tk (s 8 0)))) → (pM s w n cc k 0 (ra 9 0) (ra 10 0) (ra 11 0) (24 * (i * w))) → x_42_5 = (nI i) → tv_V c 60 X (eX c s ra) 42 [(0, .ref (tv_ad c 15)), (1, .int p0), (2, .int p1), (3, .int (nI (cc / w))), (4, .int (nI (cc % w))), (5, .int x_42_5)] [] := by
    intro k_42
    induction k_42 with
    | zero =>
      intro i x_42_5 ra hi42 la ha ex_42_5
      subst ex_42_5
      have hN42 : i = (cc / w + 1) := by omega
      refine tv_iload C dX4_searchAround_42 5 rfl ?_
      refine tv_iload_n C dX4_searchAround_44 rfl 3 rfl ?_
      refine tv_icmp_gt C 125 dX4_searchAround_45 (by decide) (fun c_5 => ?_) (fun c_5 => absurd (tn_lt (rfl : nI (cc / w) = nI (cc / w)) (rfl : nI i = nI i) (by omega) (by omega)) c_5)
      exact hR _ _ _ dX4_searchAround_125 (by rw [hN42] at ha; rw [ek3, ek9]; exact ⟨ra, rfl, ha⟩)
    | succ k_42 ih42 =>
      intro i x_42_5 ra hi42 la ha ex_42_5
      subst ex_42_5
      have hN42 : i < (cc / w + 1) := by omega
      refine tv_iload C dX4_searchAround_42 5 rfl ?_
      refine tv_iload_n C dX4_searchAround_44 rfl 3 rfl ?_
      refine tv_icmp_gt C 125 dX4_searchAround_45 (by decide) (fun c_6 => absurd c_6 (tn_nlt (rfl : nI (cc / w) = nI (cc / w)) (rfl : nI i = nI i) (by omega) (by omega))) (fun c_6 => ?_)
      refine tv_iconst (v := 0) C dX4_searchAround_48 (by decide) ?_
      refine tv_istore (lv' := [(6, .int 0), (0, .ref (tv_ad c 15)), (1, .int p0), (2, .int p1), (3, .int (nI (cc / w))), (4, .int (nI (cc % w))), (5, .int (nI i))]) C dX4_searchAround_49 (by decide) rfl ?_
      have hL51 : ∀ (k_51 l : Nat) (x_51_6 : Int32) (rb : ts_T), l + k_51 = (cc % w + 1) → (rb 0 = (lk_f s (lk_a s (r 0) (2 * tk (s 8 0)) (tk (s 9 0)) 0) k (2 * tk (s 8 0)))) → (pM s w n cc k 0 (rb 9 0) (rb 10 0) (rb 11 0) (24 * (i * w + l))) → x_51_6 = (nI l) → tv_V c 60 X (eX c s rb) 51 [(0, .ref (tv_ad c 15)), (1, .int p0), (2, .int p1), (3, .int (nI (cc / w))), (4, .int (nI (cc % w))), (5, .int (nI i)), (6, .int x_51_6)] [] := by
        intro k_51
        induction k_51 with
        | zero =>
          intro l x_51_6 rb hi51 lb hb ex_51_6
          subst ex_51_6
          have hN51 : l = (cc % w + 1) := by omega
          refine tv_iload C dX4_searchAround_51 6 rfl ?_
          refine tv_iload C dX4_searchAround_53 4 rfl ?_
          refine tv_icmp_gt C 119 dX4_searchAround_55 (by decide) (fun c_7 => ?_) (fun c_7 => absurd (tn_lt (rfl : nI (cc % w) = nI (cc % w)) (rfl : nI l = nI l) (by omega) (by omega)) c_7)
          refine tv_iinc (v := ((nI i) + 1)) (lv' := [(5, .int ((nI i) + 1)), (0, .ref (tv_ad c 15)), (1, .int p0), (2, .int p1), (3, .int (nI (cc / w))), (4, .int (nI (cc % w))), (6, .int (nI l))]) C dX4_searchAround_119 5 rfl rfl (by decide) rfl ?_
          refine tv_goto C 42 dX4_searchAround_122 (by decide) ?_
          refine tv_lsub [1, 2, 3, 4, 5, 0] rfl ?_
          exact ih42 (i + 1) _ rb (by omega) (by exact lb) (by rw [hN51] at hb; exact pM_skip hb (fun x hx => pS_4 hw2.2.1 hw hx)) (by first | rfl | exact nI_1 _ | (simp only [c_6, c_7, if_true, ↓reduceIte]; done) | (simp [c_6, c_7, if_true]; done) | (exfalso; clear hR C; simp_all; done))
        | succ k_51 ih51 =>
          intro l x_51_6 rb hi51 lb hb ex_51_6
          subst ex_51_6
          have hN51 : l < (cc % w + 1) := by omega
          have hlw : l < w := by omega
          have hA : i * w + l < n := by rw [Nat.mul_comm]; exact pos_lt hnw (show i < h by omega) hlw
          refine tv_iload C dX4_searchAround_51 6 rfl ?_
          refine tv_iload C dX4_searchAround_53 4 rfl ?_
          refine tv_icmp_gt C 119 dX4_searchAround_55 (by decide) (fun c_8 => absurd c_8 (tn_nlt (rfl : nI (cc % w) = nI (cc % w)) (rfl : nI l = nI l) (by omega) (by omega))) (fun c_8 => ?_)
          refine tv_iload_n C dX4_searchAround_58 rfl 3 rfl ?_
          refine tv_istore (lv' := [(7, .int (nI (cc / w))), (0, .ref (tv_ad c 15)), (1, .int p0), (2, .int p1), (3, .int (nI (cc / w))), (4, .int (nI (cc % w))), (5, .int (nI i)), (6, .int (nI l))]) C dX4_searchAround_59 (by decide) rfl ?_
          have hL61 : ∀ (k_61 bo : Nat) (x_61_7 : Int32) (rc : ts_T), bo + k_61 = h → (rc 0 = (lk_f s (lk_a s (r 0) (2 * tk (s 8 0)) (tk (s 9 0)) 0) k (2 * tk (s 8 0)))) → (pM s w n cc k 0 (rc 9 0) (rc 10 0) (rc 11 0) (24 * (i * w + l) + bo * w)) → (cc / w ≤ bo) → x_61_7 = (nI bo) → tv_V c 60 X (eX c s rc) 61 [(0, .ref (tv_ad c 15)), (1, .int p0), (2, .int p1), (3, .int (nI (cc / w))), (4, .int (nI (cc % w))), (5, .int (nI i)), (6, .int (nI l)), (7, .int x_61_7)] [] := by
            intro k_61
            induction k_61 with
            | zero =>
              intro bo x_61_7 rc hi61 lc hc gb ex_61_7
              subst ex_61_7
              have hN61 : bo = h := by omega
              refine tv_iload C dX4_searchAround_61 7 rfl ?_
              refine tv_aload_n C dX4_searchAround_63 rfl 0 rfl ?_
              refine tv_get (ci := 4) (Cn := RX4) (T := TX4) (Nf := 5) (v := .ref (tv_ad c 2)) C 15 (by decide) rfl rfl in_X4_searchAround_X4 0 (by decide) lk_X4_searchAround_7 rfl dX4_searchAround_64 ?_
              refine tv_get (ci := 6) (Cn := RX6) (T := TX6) (Nf := 11) (v := .int (s 2 0)) C 2 (by decide) rfl rfl in_X4_searchAround_X6 3 (by decide) lk_X4_searchAround_39 rfl dX4_searchAround_67 ?_
              refine tv_icmp_ge C 113 dX4_searchAround_70 (by decide) (fun c_9 => ?_) (fun c_9 => absurd (tn_le e2 (rfl : nI bo = nI bo) (by omega) (by omega)) c_9)
              refine tv_iinc (v := ((nI l) + 1)) (lv' := [(6, .int ((nI l) + 1)), (0, .ref (tv_ad c 15)), (1, .int p0), (2, .int p1), (3, .int (nI (cc / w))), (4, .int (nI (cc % w))), (5, .int (nI i)), (7, .int (nI bo))]) C dX4_searchAround_113 6 rfl rfl (by decide) rfl ?_
              refine tv_goto C 51 dX4_searchAround_116 (by decide) ?_
              refine tv_lsub [1, 2, 3, 4, 5, 6, 0] rfl ?_
              exact ih51 (l + 1) _ rc (by omega) (by exact lc) (by rw [hN61, ← hnw] at hc; exact pM_skip hc (fun x hx => pS_3 hn hx)) (by first | rfl | exact nI_1 _ | (simp only [c_6, c_8, c_9, if_true, ↓reduceIte]; done) | (simp [c_6, c_8, c_9, if_true]; done) | (exfalso; clear hR C; simp_all; done))
            | succ k_61 ih61 =>
              intro bo x_61_7 rc hi61 lc hc gb ex_61_7
              subst ex_61_7
              have hN61 : bo < h := by omega
              have hbw : bo * w + w ≤ 24 := by rw [← Nat.succ_mul]; exact Nat.le_trans (Nat.mul_le_mul_right w hN61) (by omega)
              refine tv_iload C dX4_searchAround_61 7 rfl ?_
              refine tv_aload_n C dX4_searchAround_63 rfl 0 rfl ?_
              refine tv_get (ci := 4) (Cn := RX4) (T := TX4) (Nf := 5) (v := .ref (tv_ad c 2)) C 15 (by decide) rfl rfl in_X4_searchAround_X4 0 (by decide) lk_X4_searchAround_7 rfl dX4_searchAround_64 ?_
              refine tv_get (ci := 6) (Cn := RX6) (T := TX6) (Nf := 11) (v := .int (s 2 0)) C 2 (by decide) rfl rfl in_X4_searchAround_X6 3 (by decide) lk_X4_searchAround_39 rfl dX4_searchAround_67 ?_
              refine tv_icmp_ge C 113 dX4_searchAround_70 (by decide) (fun c_10 => absurd c_10 (tn_nle e2 (rfl : nI bo = nI bo) (by omega) (by omega))) (fun c_10 => ?_)
              refine tv_iload C dX4_searchAround_73 4 rfl ?_
              refine tv_istore (lv' := [(8, .int (nI (cc % w))), (0, .ref (tv_ad c 15)), (1, .int p0), (2, .int p1), (3, .int (nI (cc / w))), (4, .int (nI (cc % w))), (5, .int (nI i)), (6, .int (nI l)), (7, .int (nI bo))]) C dX4_searchAround_75 (by decide) rfl ?_
              have hL77 : ∀ (k_77 ri : Nat) (x_77_8 : Int32) (rd : ts_T), ri + k_77 = w → (rd 0 = (lk_f s (lk_a s (r 0) (2 * tk (s 8 0)) (tk (s 9 0)) 0) k (2 * tk (s 8 0)))) → (pM s w n cc k 0 (rd 9 0) (rd 10 0) (rd 11 0) (24 * (i * w + l) + (bo * w + ri))) → (cc % w ≤ ri) → x_77_8 = (nI ri) → tv_V c 60 X (eX c s rd) 77 [(0, .ref (tv_ad c 15)), (1, .int p0), (2, .int p1), (3, .int (nI (cc / w))), (4, .int (nI (cc % w))), (5, .int (nI i)), (6, .int (nI l)), (7, .int (nI bo)), (8, .int x_77_8)] [] := by
                intro k_77
                induction k_77 with
                | zero =>
                  intro ri x_77_8 rd hi77 ld hd gr ex_77_8
                  subst ex_77_8
                  have hN77 : ri = w := by omega
                  refine tv_iload C dX4_searchAround_77 8 rfl ?_
                  refine tv_aload_n C dX4_searchAround_79 rfl 0 rfl ?_
                  refine tv_get (ci := 4) (Cn := RX4) (T := TX4) (Nf := 5) (v := .ref (tv_ad c 2)) C 15 (by decide) rfl rfl in_X4_searchAround_X4 0 (by decide) lk_X4_searchAround_7 rfl dX4_searchAround_80 ?_
                  refine tv_get (ci := 6) (Cn := RX6) (T := TX6) (Nf := 11) (v := .int (s 3 0)) C 2 (by decide) rfl rfl in_X4_searchAround_X6 4 (by decide) lk_X4_searchAround_42 rfl dX4_searchAround_83 ?_
                  refine tv_icmp_ge C 107 dX4_searchAround_86 (by decide) (fun c_11 => ?_) (fun c_11 => absurd (tn_le e3 (rfl : nI ri = nI ri) (by omega) (by omega)) c_11)
                  refine tv_iinc (v := ((nI bo) + 1)) (lv' := [(7, .int ((nI bo) + 1)), (0, .ref (tv_ad c 15)), (1, .int p0), (2, .int p1), (3, .int (nI (cc / w))), (4, .int (nI (cc % w))), (5, .int (nI i)), (6, .int (nI l)), (8, .int (nI ri))]) C dX4_searchAround_107 7 rfl rfl (by decide) rfl ?_
                  refine tv_goto C 61 dX4_searchAround_110 (by decide) ?_
                  refine tv_lsub [1, 2, 3, 4, 5, 6, 7, 0] rfl ?_
                  exact ih61 (bo + 1) _ rd (by omega) (by exact ld) (by rw [hN77] at hd; rw [Nat.succ_mul bo w]; exact hd) (by omega) (by first | rfl | exact nI_1 _ | (simp only [c_6, c_8, c_10, c_11, if_true, ↓reduceIte]; done) | (simp [c_6, c_8, c_10, c_11, if_true]; done) | (exfalso; clear hR C; simp_all; done))
                | succ k_77 ih77 =>
                  intro ri x_77_8 rd hi77 ld hd gr ex_77_8
                  subst ex_77_8
                  have hN77 : ri < w := by omega
                  have hB : bo * w + ri < n := by rw [Nat.mul_comm]; exact pos_lt hnw hN61 hN77
                  refine tv_iload C dX4_searchAround_77 8 rfl ?_
                  refine tv_aload_n C dX4_searchAround_79 rfl 0 rfl ?_
                  refine tv_get (ci := 4) (Cn := RX4) (T := TX4) (Nf := 5) (v := .ref (tv_ad c 2)) C 15 (by decide) rfl rfl in_X4_searchAround_X4 0 (by decide) lk_X4_searchAround_7 rfl dX4_searchAround_80 ?_
                  refine tv_get (ci := 6) (Cn := RX6) (T := TX6) (Nf := 11) (v := .int (s 3 0)) C 2 (by decide) rfl rfl in_X4_searchAround_X6 4 (by decide) lk_X4_searchAround_42 rfl dX4_searchAround_83 ?_
                  refine tv_icmp_ge C 107 dX4_searchAround_86 (by decide) (fun c_12 => absurd c_12 (tn_nle e3 (rfl : nI ri = nI ri) (by omega) (by omega))) (fun c_12 => ?_)
                  refine tv_aload_n C dX4_searchAround_89 rfl 0 rfl ?_
                  refine tv_iload C dX4_searchAround_90 5 rfl ?_
                  refine tv_iload C dX4_searchAround_92 6 rfl ?_
                  refine tv_iload C dX4_searchAround_94 7 rfl ?_
                  refine tv_iload C dX4_searchAround_96 8 rfl ?_
                  refine tv_callv (As := [.int (nI i), .int (nI l), .int (nI bo), .int (nI ri)]) (rest := []) (ci := 4) (cn := RX4) (T := TX4) (Nf := 5) C 15 (kX4_keepIfBetter c s rd n w cc (i * w + l) (bo * w + ri) k (r 0) (nI i) (nI l) (nI bo) (nI ri) hI (by rw [dv_a hlw]) (by rw [md_a hlw]) (by rw [dv_a hN77]) (by rw [md_a hN77]) hA hB e9 e3 hn hw (by rw [dv_a hlw]; omega) (by rw [md_a hlw]; omega) (by rw [dv_a hN77]; omega) (by rw [md_a hN77]; omega) h_p1 ld hd) gX4_searchAround_X4_keepIfBetter rfl yd_X4_keepIfBetter ⟨rfl, rfl⟩ (by decide) (by decide) rfl rfl rfl rfl (Nat.le_of_ble_eq_true rfl) dX4_searchAround_98 (fun u_13 z_13 => ?_)
                  obtain ⟨r3, rfl, l3, h3⟩ := z_13
                  show tv_V c 60 X (eX c s r3) 101 [(0, .ref (tv_ad c 15)), (1, .int p0), (2, .int p1), (3, .int (nI (cc / w))), (4, .int (nI (cc % w))), (5, .int (nI i)), (6, .int (nI l)), (7, .int (nI bo)), (8, .int (nI ri))] []
                  refine tv_iinc (v := ((nI ri) + 1)) (lv' := [(8, .int ((nI ri) + 1)), (0, .ref (tv_ad c 15)), (1, .int p0), (2, .int p1), (3, .int (nI (cc / w))), (4, .int (nI (cc % w))), (5, .int (nI i)), (6, .int (nI l)), (7, .int (nI bo))]) C dX4_searchAround_101 8 rfl rfl (by decide) rfl ?_
                  refine tv_goto C 77 dX4_searchAround_104 (by decide) ?_
                  refine tv_lsub [1, 2, 3, 4, 5, 6, 7, 8, 0] rfl ?_
                  exact ih77 (ri + 1) _ r3 (by omega) (by exact l3.trans ld) (by exact h3) (by omega) (by first | rfl | exact nI_1 _ | (simp only [c_6, c_8, c_10, c_12, if_true, ↓reduceIte]; done) | (simp [c_6, c_8, c_10, c_12, if_true]; done) | (exfalso; clear hR C; simp_all; done))
              refine tv_lsub [1, 2, 3, 4, 5, 6, 7, 8, 0] rfl ?_
              exact hL77 (w - (cc % w)) (cc % w) _ rc (by omega) (by exact lc) (by exact pM_skip hc (fun x hx => pS_2 hw2.2.1 hw hbw hx)) (by omega) (by first | (simp only [c_6, c_8, c_10, if_true, ↓reduceIte]; done) | rfl | (simp [c_6, c_8, c_10, if_true]; done) | (exfalso; clear hR C; simp_all; done))
          refine tv_lsub [1, 2, 3, 4, 5, 6, 7, 0] rfl ?_
          exact hL61 (h - (cc / w)) (cc / w) _ rb (by omega) (by exact lb) (by exact pM_skip hb (fun x hx => pS_1 hw2.2.1 hw h_p0 hx)) (by omega) (by first | (simp only [c_6, c_8, if_true, ↓reduceIte]; done) | rfl | (simp [c_6, c_8, if_true]; done) | (exfalso; clear hR C; simp_all; done))
      refine tv_lsub [1, 2, 3, 4, 5, 6, 0] rfl ?_
      exact hL51 ((cc % w + 1) - 0) 0 _ ra (by omega) (by exact la) (by exact ha) (by first | (simp only [c_6, if_true, ↓reduceIte]; done) | rfl | (simp [c_6, if_true]; done) | (exfalso; clear hR C; simp_all; done))
  refine tv_lsub [3, 4, 5, 2, 1, 0] rfl ?_
  exact hL42 ((cc / w + 1) - 0) 0 _ (ts_a (ts_a (ts_s r 9 0) 0 (lk_f s ((lk_a s (r 0) (2 * tk (s 8 0)) (tk (s 9 0)) 0)) k (2 * tk (s 8 0)))) 1 (ts_f (fun c => nI c) (r 1) (tk (s 9 0)))) (by omega) (by rfl) (by rw [Nat.zero_mul]; exact Or.inl ⟨rfl, fun x _ => Nat.not_lt_zero x⟩) (by first | (simp only [if_true, ↓reduceIte]; done) | rfl | (simp [if_true]; done) | (exfalso; clear hR C; simp_all; done))
set_option maxHeartbeats 1000000 in
set_option maxRecDepth 100000 in
theorem kX7_patch (c : tv_c) (s r : ts_T)  (p0 p1 p2 : Int32) (hI : iv s) : tv_Mi c 60 yX7_patch wsX7_patch { frames := 6, cells := 0, slots := 0, locals := 152 } [.ref (tv_ad c 0), .int p0, .int p1, .int p2] (eX c s r) (fun q_0 u_0 => q_0 = sp_patch s p0 p1 p2 ∧ ∃ r_0, u_0 = eX c s r_0) := by
  refine tv_metI (by decide +kernel) rfl rfl (Nat.le_of_ble_eq_true rfl) (fun X C hR => ?_)
  show tv_V c 60 X (eX c s r) 0 [(0, .ref (tv_ad c 0)), (1, .int p0), (2, .int p1), (3, .int p2)] []
  have hC := iv.hC hI
  obtain ⟨h, w, n, nk, nl, ny, nm, li, e2, e3, e9, hnw, hh, hw, hn, hz, hp, e7, hk, e8, hl, e4, hy, e5, hm, e6, hli, hcel, hkin, hban, hwei, hshe⟩ := id hI
  refine tv_aload_n C dX7_patch_0 rfl 0 rfl ?_
  refine tv_get (ci := 7) (Cn := RX7) (T := TX7) (Nf := 7) (v := .ref (tv_ad c 2)) C 0 (by decide) rfl rfl in_X7_patch_X7 1 (by decide) lk_X7_patch_20 rfl dX7_patch_1 ?_
  refine tv_iload_n C dX7_patch_4 rfl 1 rfl ?_
  refine tv_calli (As := [.int p0]) (rest := []) (ci := 6) (cn := RX6) (T := TX6) (Nf := 11) C 2 (kX6_hasCell c s r  p0 ) gX7_patch_X6_hasCell rfl yd_X6_hasCell ⟨rfl, rfl⟩ (by decide) (by decide) rfl rfl rfl rfl (Nat.le_of_ble_eq_true rfl) dX7_patch_5 (fun q_1 u_1 z_1 => ?_)
  obtain ⟨rfl, rfl⟩ := z_1
  refine tv_if_eq C 22 dX7_patch_8 (by decide) (fun c_2 => ?_) (fun c_2 => ?_)
  · skip
    refine tv_iconst (v := (-1)) C dX7_patch_22 (by decide) ?_
    exact hR _ _ _ _ dX7_patch_23 ⟨by simp only [sp_patch, eq_true c_2, ↓reduceIte], r, by first | (simp only [eq_true c_2, if_true, ts_ss, ts_aa, ↓reduceIte]; done) | rfl | (simp [eq_true c_2, if_true, ts_ss, ts_aa]; done) | (exfalso; clear hR C; simp_all; done)⟩
  · skip
    obtain ⟨j_p0, hj_p0, ej_p0, ek_p0⟩ := in_ix e9 (by omega) c_2
    obtain ⟨fs_p0, ⟨b_p0, hb_p0, eb_p0⟩, fh_p0, fa_p0, fz_p0⟩ := hcel j_p0 hj_p0
    refine tv_aload_n C dX7_patch_11 rfl 0 rfl ?_
    refine tv_get (ci := 7) (Cn := RX7) (T := TX7) (Nf := 7) (v := .ref (tv_ad c 2)) C 0 (by decide) rfl rfl in_X7_patch_X7 1 (by decide) lk_X7_patch_20 rfl dX7_patch_12 ?_
    refine tv_iload_n C dX7_patch_15 rfl 2 rfl ?_
    refine tv_calli (As := [.int p1]) (rest := []) (ci := 6) (cn := RX6) (T := TX6) (Nf := 11) C 2 (kX6_hasCoat c s r  p1 ) gX7_patch_X6_hasCoat rfl yd_X6_hasCoat ⟨rfl, rfl⟩ (by decide) (by decide) rfl rfl rfl rfl (Nat.le_of_ble_eq_true rfl) dX7_patch_16 (fun q_3 u_3 z_3 => ?_)
    obtain ⟨rfl, rfl⟩ := z_3
    refine tv_if_ne C 24 dX7_patch_19 (by decide) (fun c_4 => ?_) (fun c_4 => ?_)
    · skip
      obtain ⟨j_p1, hj_p1, ej_p1, ek_p1⟩ := in_ix e7 (by omega) c_4
      refine tv_iload_n C dX7_patch_24 rfl 3 rfl ?_
      refine tv_iconst (v := 0) C dX7_patch_25 (by decide) ?_
      refine tv_iconst (v := 2) C dX7_patch_26 (by decide) ?_
      refine tv_callis (As := [.int p2, .int 0, .int 2]) (rest := []) C (kX7_isWithin c s r  p2 0 2 ) gX7_patch_X7_isWithin rfl yd_X7_isWithin ⟨rfl, rfl⟩ (by decide) rfl rfl (Nat.le_of_ble_eq_true rfl) dX7_patch_27 (fun q_5 u_5 z_5 => ?_)
      obtain ⟨rfl, rfl⟩ := z_5
      refine tv_if_ne C 36 dX7_patch_30 (by decide) (fun c_6 => ?_) (fun c_6 => ?_)
      · skip
        obtain ⟨j_p2, hj_p2, ej_p2, ek_p2⟩ := in_in (b := 2) (by decide) c_6
        refine tv_aload_n C dX7_patch_36 rfl 0 rfl ?_
        refine tv_get (ci := 7) (Cn := RX7) (T := TX7) (Nf := 7) (v := .ref (tv_ad c 15)) C 0 (by decide) rfl rfl in_X7_patch_X7 4 (by decide) lk_X7_patch_45 rfl dX7_patch_37 ?_
        refine tv_iload_n C dX7_patch_40 rfl 1 rfl ?_
        refine tv_iload_n C dX7_patch_41 rfl 2 rfl ?_
        refine tv_callv (As := [.int p0, .int p1]) (rest := []) (ci := 4) (cn := RX4) (T := TX4) (Nf := 5) C 15 (kX4_searchAround c s r j_p0 j_p1 p0 p1 ej_p0 (by omega) ej_p1 (by omega) hI (by rw [tk_e e9 (by omega)]; exact hj_p0) (by rw [tk_e e7 (by omega)]; exact hj_p1)) gX7_patch_X4_searchAround rfl yd_X4_searchAround ⟨rfl, rfl⟩ (by decide) (by decide) rfl rfl rfl rfl (Nat.le_of_ble_eq_true rfl) dX7_patch_42 (fun u_7 z_7 => ?_)
        obtain ⟨r2, rfl, hM⟩ := z_7
        show tv_V c 60 X (eX c s r2) 45 [(0, .ref (tv_ad c 0)), (1, .int p0), (2, .int p1), (3, .int p2)] []
        have ek9 := tk_e e9 (by omega)
        have ek3 := tk_e e3 (by omega)
        have hw2 := hp (by omega)
        have he := pM_end hM (by rw [ek9, ek3]; exact hnw) hh (by rw [ek3]; omega) (by rw [ek3]; exact hw) z_0 (fun x hx => pS_5 (by rw [ek3]; exact hw2.2.1) (by rw [ek3]; exact hw) hx)
        refine tv_aload_n C dX7_patch_45 rfl 0 rfl ?_
        refine tv_get (ci := 7) (Cn := RX7) (T := TX7) (Nf := 7) (v := .ref (tv_ad c 15)) C 0 (by decide) rfl rfl in_X7_patch_X7 4 (by decide) lk_X7_patch_45 rfl dX7_patch_46 ?_
        refine tv_get (ci := 4) (Cn := RX4) (T := TX4) (Nf := 5) (v := .int (r2 9 0)) C 15 (by decide) rfl rfl in_X7_patch_X4 2 (by decide) lk_X7_patch_222 rfl dX7_patch_49 ?_
        refine tv_if_ne C 58 dX7_patch_52 (by decide) (fun c_8 => ?_) (fun c_8 => ?_)
        · skip
          refine tv_iload_n C dX7_patch_58 rfl 3 rfl ?_
          refine tv_if_ne C 70 dX7_patch_59 (by decide) (fun c_9 => ?_) (fun c_9 => ?_)
          · skip
            refine tv_iload_n C dX7_patch_70 rfl 3 rfl ?_
            refine tv_iconst (v := 1) C dX7_patch_71 (by decide) ?_
            refine tv_icmp_ne C 85 dX7_patch_72 (by decide) (fun c_10 => ?_) (fun c_10 => ?_)
            · skip
              refine tv_aload_n C dX7_patch_85 rfl 0 rfl ?_
              refine tv_get (ci := 7) (Cn := RX7) (T := TX7) (Nf := 7) (v := .ref (tv_ad c 15)) C 0 (by decide) rfl rfl in_X7_patch_X7 4 (by decide) lk_X7_patch_45 rfl dX7_patch_86 ?_
              refine tv_get (ci := 4) (Cn := RX4) (T := TX4) (Nf := 5) (v := .int (r2 11 0)) C 15 (by decide) rfl rfl in_X7_patch_X4 4 (by decide) lk_X7_patch_228 rfl dX7_patch_89 ?_
              exact hR _ _ _ _ dX7_patch_92 ⟨by rcases he with ⟨v1, q1⟩ | ⟨p, v1, q1, q2, q3, q4⟩ <;> first | exact absurd (by assumption) v1 | exact absurd v1 (by assumption) | (simp only [sp_patch, c_2, ek_p0, c_4, ek_p1, c_6, ek_p2, c_8, c_9, c_10, q1, ↓reduceIte]; done) | (rw [q2]; simp only [sp_patch, c_2, ek_p0, c_4, ek_p1, c_6, ek_p2, c_8, c_9, c_10, q1, ↓reduceIte]; done) | (rw [q3]; simp only [sp_patch, c_2, ek_p0, c_4, ek_p1, c_6, ek_p2, c_8, c_9, c_10, q1, ↓reduceIte]; done) | (rw [q4]; simp only [sp_patch, c_2, ek_p0, c_4, ek_p1, c_6, ek_p2, c_8, c_9, c_10, q1, ↓reduceIte]; done), r2, by first | (simp only [c_2, ek_p0, c_4, ek_p1, c_6, ek_p2, c_8, c_9, c_10, if_true, ts_ss, ts_aa, ↓reduceIte]; done) | rfl | (simp [c_2, ek_p0, c_4, ek_p1, c_6, ek_p2, c_8, c_9, c_10, if_true, ts_ss, ts_aa]; done) | (exfalso; clear hR C; simp_all; done)⟩
            · skip
              refine tv_aload_n C dX7_patch_75 rfl 0 rfl ?_
              refine tv_get (ci := 7) (Cn := RX7) (T := TX7) (Nf := 7) (v := .ref (tv_ad c 15)) C 0 (by decide) rfl rfl in_X7_patch_X7 4 (by decide) lk_X7_patch_45 rfl dX7_patch_76 ?_
              refine tv_get (ci := 4) (Cn := RX4) (T := TX4) (Nf := 5) (v := .int (r2 10 0)) C 15 (by decide) rfl rfl in_X7_patch_X4 3 (by decide) lk_X7_patch_225 rfl dX7_patch_79 ?_
              refine tv_goto C 92 dX7_patch_82 (by decide) ?_
              exact hR _ _ _ _ dX7_patch_92 ⟨by rcases he with ⟨v1, q1⟩ | ⟨p, v1, q1, q2, q3, q4⟩ <;> first | exact absurd (by assumption) v1 | exact absurd v1 (by assumption) | (simp only [sp_patch, c_2, ek_p0, c_4, ek_p1, c_6, ek_p2, c_8, c_9, eq_true c_10, q1, ↓reduceIte]; done) | (rw [q2]; simp only [sp_patch, c_2, ek_p0, c_4, ek_p1, c_6, ek_p2, c_8, c_9, eq_true c_10, q1, ↓reduceIte]; done) | (rw [q3]; simp only [sp_patch, c_2, ek_p0, c_4, ek_p1, c_6, ek_p2, c_8, c_9, eq_true c_10, q1, ↓reduceIte]; done) | (rw [q4]; simp only [sp_patch, c_2, ek_p0, c_4, ek_p1, c_6, ek_p2, c_8, c_9, eq_true c_10, q1, ↓reduceIte]; done), r2, by first | (simp only [c_2, ek_p0, c_4, ek_p1, c_6, ek_p2, c_8, c_9, eq_true c_10, if_true, ts_ss, ts_aa, ↓reduceIte]; done) | rfl | (simp [c_2, ek_p0, c_4, ek_p1, c_6, ek_p2, c_8, c_9, eq_true c_10, if_true, ts_ss, ts_aa]; done) | (exfalso; clear hR C; simp_all; done)⟩
          · skip
            refine tv_aload_n C dX7_patch_62 rfl 0 rfl ?_
            refine tv_get (ci := 7) (Cn := RX7) (T := TX7) (Nf := 7) (v := .ref (tv_ad c 15)) C 0 (by decide) rfl rfl in_X7_patch_X7 4 (by decide) lk_X7_patch_45 rfl dX7_patch_63 ?_
            refine tv_get (ci := 4) (Cn := RX4) (T := TX4) (Nf := 5) (v := .int (r2 9 0)) C 15 (by decide) rfl rfl in_X7_patch_X4 2 (by decide) lk_X7_patch_222 rfl dX7_patch_66 ?_
            exact hR _ _ _ _ dX7_patch_69 ⟨by rcases he with ⟨v1, q1⟩ | ⟨p, v1, q1, q2, q3, q4⟩ <;> first | exact absurd (by assumption) v1 | exact absurd v1 (by assumption) | (simp only [sp_patch, c_2, ek_p0, c_4, ek_p1, c_6, ek_p2, c_8, eq_true c_9, q1, ↓reduceIte]; done) | (rw [q2]; simp only [sp_patch, c_2, ek_p0, c_4, ek_p1, c_6, ek_p2, c_8, eq_true c_9, q1, ↓reduceIte]; done) | (rw [q3]; simp only [sp_patch, c_2, ek_p0, c_4, ek_p1, c_6, ek_p2, c_8, eq_true c_9, q1, ↓reduceIte]; done) | (rw [q4]; simp only [sp_patch, c_2, ek_p0, c_4, ek_p1, c_6, ek_p2, c_8, eq_true c_9, q1, ↓reduceIte]; done), r2, by first | (simp only [c_2, ek_p0, c_4, ek_p1, c_6, ek_p2, c_8, eq_true c_9, if_true, ts_ss, ts_aa, ↓reduceIte]; done) | rfl | (simp [c_2, ek_p0, c_4, ek_p1, c_6, ek_p2, c_8, eq_true c_9, if_true, ts_ss, ts_aa]; done) | (exfalso; clear hR C; simp_all; done)⟩
        · skip
          refine tv_bipush (v := (-9)) C dX7_patch_55 (by decide) ?_
          exact hR _ _ _ _ dX7_patch_57 ⟨by rcases he with ⟨v1, q1⟩ | ⟨p, v1, q1, q2, q3, q4⟩ <;> first | exact absurd (by assumption) v1 | exact absurd v1 (by assumption) | (simp only [sp_patch, c_2, ek_p0, c_4, ek_p1, c_6, ek_p2, eq_true c_8, q1, ↓reduceIte]; done) | (rw [q2]; simp only [sp_patch, c_2, ek_p0, c_4, ek_p1, c_6, ek_p2, eq_true c_8, q1, ↓reduceIte]; done) | (rw [q3]; simp only [sp_patch, c_2, ek_p0, c_4, ek_p1, c_6, ek_p2, eq_true c_8, q1, ↓reduceIte]; done) | (rw [q4]; simp only [sp_patch, c_2, ek_p0, c_4, ek_p1, c_6, ek_p2, eq_true c_8, q1, ↓reduceIte]; done), r2, by first | (simp only [c_2, ek_p0, c_4, ek_p1, c_6, ek_p2, eq_true c_8, if_true, ts_ss, ts_aa, ↓reduceIte]; done) | rfl | (simp [c_2, ek_p0, c_4, ek_p1, c_6, ek_p2, eq_true c_8, if_true, ts_ss, ts_aa]; done) | (exfalso; clear hR C; simp_all; done)⟩
      · skip
        refine tv_bipush (v := (-2)) C dX7_patch_33 (by decide) ?_
        exact hR _ _ _ _ dX7_patch_35 ⟨by simp only [sp_patch, c_2, ek_p0, c_4, ek_p1, eq_true c_6, ↓reduceIte], r, by first | (simp only [c_2, ek_p0, c_4, ek_p1, eq_true c_6, if_true, ts_ss, ts_aa, ↓reduceIte]; done) | rfl | (simp [c_2, ek_p0, c_4, ek_p1, eq_true c_6, if_true, ts_ss, ts_aa]; done) | (exfalso; clear hR C; simp_all; done)⟩
    · skip
      refine tv_iconst (v := (-1)) C dX7_patch_22 (by decide) ?_
      exact hR _ _ _ _ dX7_patch_23 ⟨by simp only [sp_patch, c_2, ek_p0, eq_true c_4, ↓reduceIte], r, by first | (simp only [c_2, ek_p0, eq_true c_4, if_true, ts_ss, ts_aa, ↓reduceIte]; done) | rfl | (simp [c_2, ek_p0, eq_true c_4, if_true, ts_ss, ts_aa]; done) | (exfalso; clear hR C; simp_all; done)⟩
