def lv_r (s r : ts_T) (c k : Int32) : ts_T := if sp_ix c (s 9 0) = 0 then r else if sp_ix k (s 7 0) = 0 then r else ts_a (ts_a (ts_a r 9 (ts_f (s 11) (r 9) (tk (s 9 0)))) 10 (ts_f (s 12) (r 10) (tk (s 9 0)))) 11 (ts_f (s 13) (r 11) (tk (s 9 0)))
theorem yd_X8_keepAll : yX8_keepAll.cls = RX8 ∧ yX8_keepAll.cls ≠ "java/lang/invoke/MethodHandle" ∧ yX8_keepAll.cls ≠ "java/lang/invoke/VarHandle" ∧ (parseMethodDescriptor yX8_keepAll.desc).map (fun d => d.parameters.length) = some 0 := by decide +kernel
set_option maxRecDepth 20000 in
theorem in_X8_seenWith_X8 : ∀ w ∈ u_ws RX8 TX8 35, w ∈ wsX8_seenWith := by decide +kernel
set_option maxRecDepth 20000 in
theorem lk_X8_seenWith_78 : Cond.fieldLink RX8 78 (TX8 6).1 (TX8 6).2.1 (TX8 6).2.2.1 ∈ wsX8_seenWith := by decide +kernel
theorem yd_X8_takeAll : yX8_takeAll.cls = RX8 ∧ yX8_takeAll.cls ≠ "java/lang/invoke/MethodHandle" ∧ yX8_takeAll.cls ≠ "java/lang/invoke/VarHandle" ∧ (parseMethodDescriptor yX8_takeAll.desc).map (fun d => d.parameters.length) = some 0 := by decide +kernel
theorem yd_X8_paint : yX8_paint.cls = RX8 ∧ yX8_paint.cls ≠ "java/lang/invoke/MethodHandle" ∧ yX8_paint.cls ≠ "java/lang/invoke/VarHandle" ∧ (parseMethodDescriptor yX8_paint.desc).map (fun d => d.parameters.length) = some 2 := by decide +kernel
theorem yd_X8_seenWith : yX8_seenWith.cls = RX8 ∧ yX8_seenWith.cls ≠ "java/lang/invoke/MethodHandle" ∧ yX8_seenWith.cls ≠ "java/lang/invoke/VarHandle" ∧ (parseMethodDescriptor yX8_seenWith.desc).map (fun d => d.parameters.length) = some 3 := by decide +kernel
set_option maxHeartbeats 4000000 in
set_option maxRecDepth 100000 in
theorem kX8_seenWith (c : tv_c) (s r : ts_T) (n0 w0 nk0 : Nat) (a : Nat) (b : Nat) (k : Nat) (p0 p1 p2 : Int32) (e_p0 : p0 = nI a) (h_p0 : a < 24) (e_p1 : p1 = nI b) (h_p1 : b < 24) (e_p2 : p2 = nI k) (h_p2 : k < 6) (hI : iv s) (han : a < n0) (hbn0 : b < n0) (en0 : s 9 0 = nI n0) (hr1 : a / w0 ≤ b / w0) (hr2 : a % w0 ≤ b % w0) (ew0 : s 3 0 = nI w0) (hkn0 : k < nk0) (ek0 : s 7 0 = nI nk0) (hn0 : n0 ≤ 24) (hw0 : w0 ≤ 6) (hnk0 : nk0 ≤ 6) : tv_Fi c 19 yX8_seenWith wsX8_seenWith { frames := 6, cells := 0, slots := 0, locals := 152 } [.ref (tv_ad c 0), .int p0, .int p1, .int p2] (eM c s r) (sp_sn (sp_pn s k a b) (-9) (tk (s 9 0))) (eM c s (ts_a (ts_a (ts_a r 9 (ts_f (s 11) (r 9) (tk (s 9 0)))) 10 (ts_f (s 12) (r 10) (tk (s 9 0)))) 11 (ts_f (s 13) (r 11) (tk (s 9 0))))) := by
  refine tv_metI (by decide +kernel) rfl rfl (Nat.le_of_ble_eq_true rfl) (fun X C hR => ?_)
  show tv_V c 19 X (eM c s r) 0 [(0, .ref (tv_ad c 0)), (1, .int p0), (2, .int p1), (3, .int p2)] []
  have hC := iv.hC hI
  obtain ⟨h, w, n, nk, nl, ny, nm, li, e2, e3, e9, hnw, hh, hw, hn, hz, hp, e7, hk, e8, hl, e4, hy, e5, hm, e6, hli, hcel, hkin, hban, hwei, hshe⟩ := id hI
  have ek9 := tk_e e9 (by omega)
  have ek3 := tk_e e3 (by omega)
  have enn : n0 = n := by rw [← tk_e en0 (by omega), ek9]
  have eww : w0 = w := by rw [← ek3]; exact (tk_e ew0 (by omega)).symm
  have ekk : nk0 = nk := by rw [← tk_e e7 (by omega)]; exact (tk_e ek0 (by omega)).symm
  subst enn eww ekk
  have hw2 := hp (by omega)
  have hbn := hbn0
  have hkn := hkn0
  have hda := Nat.div_le_self a w0
  have hdb := Nat.div_le_self b w0
  have hma := Nat.mod_le a w0
  have hmb := Nat.mod_lt b (show 0 < w0 by omega)
  have hbh : b / w0 < h := Nat.div_lt_of_lt_mul (by rw [Nat.mul_comm, ← hnw]; exact hbn)
  refine tv_aload_n C dX8_seenWith_0 rfl 0 rfl ?_
  refine tv_callv (As := []) (rest := []) (ci := 8) (cn := RX8) (T := TX8) (Nf := 35) C 0 (kX8_keepAll c s r n0  hC e9 hn) gX8_seenWith_X8_keepAll rfl yd_X8_keepAll ⟨rfl, rfl⟩ (by decide) (by decide) rfl rfl rfl rfl (Nat.le_of_ble_eq_true rfl) dX8_seenWith_1 (fun u_1 z_1 => ?_)
  subst z_1
  refine tv_iload_n C dX8_seenWith_4 rfl 1 rfl ?_
  refine tv_aload_n C dX8_seenWith_5 rfl 0 rfl ?_
  refine tv_get (ci := 8) (Cn := RX8) (T := TX8) (Nf := 35) (v := .int (s 3 0)) C 0 (by decide) rfl rfl in_X8_seenWith_X8 6 (by decide) lk_X8_seenWith_78 rfl dX8_seenWith_6 ?_
  refine tv_idiv C (tn_ne e3 (by omega) (by omega)) dX8_seenWith_9 ?_
  refine tv_istore (lv' := [(4, .int (p0 / (s 3 0))), (0, .ref (tv_ad c 0)), (1, .int p0), (2, .int p1), (3, .int p2)]) C dX8_seenWith_10 (by decide) rfl ?_
  have hL12 : ∀ (k_12 i : Nat) (x_12_4 : Int32) (w_12 : Nat → va_E), i + k_12 = (b / w0 + 1) → (a / w0 ≤ i) → x_12_4 = (nI i) → w_12 = (eM c (pnt s k (prt w0 a b i (a % w0))) (ts_a (ts_a (ts_a r 9 (ts_f (s 11) (r 9) n0)) 10 (ts_f (s 12) (r 10) n0)) 11 (ts_f (s 13) (r 11) n0))) → tv_V c 19 X w_12 12 [(0, .ref (tv_ad c 0)), (1, .int p0), (2, .int p1), (3, .int p2), (4, .int x_12_4)] [] := by
    intro k_12
    induction k_12 with
    | zero =>
      intro i x_12_4 w_12 hi12 g1 ex_12_4 ew_12
      subst ex_12_4
      subst ew_12
      have hN12 : i = (b / w0 + 1) := by omega
      refine tv_iload C dX8_seenWith_12 4 rfl ?_
      refine tv_iload_n C dX8_seenWith_14 rfl 2 rfl ?_
      refine tv_aload_n C dX8_seenWith_15 rfl 0 rfl ?_
      refine tv_get (ci := 8) (Cn := RX8) (T := TX8) (Nf := 35) (v := .int (s 3 0)) C 0 (by decide) rfl rfl in_X8_seenWith_X8 6 (by decide) lk_X8_seenWith_78 rfl dX8_seenWith_16 ?_
      refine tv_idiv C (tn_ne e3 (by omega) (by omega)) dX8_seenWith_19 ?_
      refine tv_icmp_gt C 71 dX8_seenWith_20 (by decide) (fun c_2 => ?_) (fun c_2 => absurd (tn_lt (tn_div e_p1 e3 (by omega) (by omega) (by omega)) (rfl : nI i = nI i) (by omega) (by omega)) c_2)
      refine tv_eqE (E' := (eM c (pnt s k (rct w0 a b)) (ts_a (ts_a (ts_a r 9 (ts_f (s 11) (r 9) n0)) 10 (ts_f (s 12) (r 10) n0)) 11 (ts_f (s 13) (r 11) n0)))) (by rw [hN12, prt_e hr1]) ?_
      refine tv_aload_n C dX8_seenWith_71 rfl 0 rfl ?_
      refine tv_bipush (v := (-9)) C dX8_seenWith_72 (by decide) ?_
      refine tv_calli (As := [.int (-9)]) (rest := []) (ci := 8) (cn := RX8) (T := TX8) (Nf := 35) C 0 (kX8_seenOf c (pnt s k (rct w0 a b)) (ts_a (ts_a (ts_a r 9 (ts_f (s 11) (r 9) n0)) 10 (ts_f (s 12) (r 10) n0)) 11 (ts_f (s 13) (r 11) n0))  (-9) (iv_pnt h_p2 hI)) gX8_seenWith_X8_seenOf rfl yd_X8_seenOf ⟨rfl, rfl⟩ (by decide) (by decide) rfl rfl rfl rfl (Nat.le_of_ble_eq_true rfl) dX8_seenWith_74 (fun q_3 u_3 z_3 => ?_)
      obtain ⟨rfl, rfl⟩ := z_3
      show tv_V c 19 X (eM c (pnt s k (rct w0 a b)) (ts_a (ts_a (ts_a r 9 (ts_f (s 11) (r 9) n0)) 10 (ts_f (s 12) (r 10) n0)) 11 (ts_f (s 13) (r 11) n0))) 77 [(0, .ref (tv_ad c 0)), (1, .int p0), (2, .int p1), (3, .int p2), (4, .int (nI i))] [.int (sp_sn (pnt s k (rct w0 a b)) (-9) (tk (s 9 0)))]
      refine tv_istore (lv' := [(4, .int (sp_sn (pnt s k (rct w0 a b)) (-9) (tk (s 9 0)))), (0, .ref (tv_ad c 0)), (1, .int p0), (2, .int p1), (3, .int p2)]) C dX8_seenWith_77 (by decide) rfl ?_
      refine tv_aload_n C dX8_seenWith_79 rfl 1 rfl ?_
      refine tv_callv (As := []) (rest := []) (ci := 8) (cn := RX8) (T := TX8) (Nf := 35) C 0 (kX8_takeAll c (pnt s k (rct w0 a b)) (ts_a (ts_a (ts_a r 9 (ts_f (s 11) (r 9) n0)) 10 (ts_f (s 12) (r 10) n0)) 11 (ts_f (s 13) (r 11) n0)) n0  hC e9 hn) gX8_seenWith_X8_takeAll rfl yd_X8_takeAll ⟨rfl, rfl⟩ (by decide) (by decide) rfl rfl rfl rfl (Nat.le_of_ble_eq_true rfl) dX8_seenWith_80 (fun u_4 z_4 => ?_)
      subst z_4
      refine tv_eqE (E' := (eM c s (ts_a (ts_a (ts_a r 9 (ts_f (s 11) (r 9) n0)) 10 (ts_f (s 12) (r 10) n0)) 11 (ts_f (s 13) (r 11) n0)))) (congrArg (fun z => eM c z (ts_a (ts_a (ts_a r 9 (ts_f (s 11) (r 9) n0)) 10 (ts_f (s 12) (r 10) n0)) 11 (ts_f (s 13) (r 11) n0))) (pnt_back (r := r) (fun j hj => rct_n hnw hbn hj (by omega)))) ?_
      show tv_V c 19 X (eM c s (ts_a (ts_a (ts_a r 9 (ts_f (s 11) (r 9) n0)) 10 (ts_f (s 12) (r 10) n0)) 11 (ts_f (s 13) (r 11) n0))) 83 [(4, .int (sp_sn (pnt s k (rct w0 a b)) (-9) (tk (s 9 0)))), (0, .ref (tv_ad c 0)), (1, .int p0), (2, .int p1), (3, .int p2)] []
      refine tv_iload C dX8_seenWith_83 0 rfl ?_
      exact hR _ _ _ _ dX8_seenWith_85 ⟨by rw [sp_pn, ek3], by rw [ek9]⟩
    | succ k_12 ih12 =>
      intro i x_12_4 w_12 hi12 g1 ex_12_4 ew_12
      subst ex_12_4
      subst ew_12
      have hN12 : i < (b / w0 + 1) := by omega
      have hih : i < h := by omega
      refine tv_iload C dX8_seenWith_12 4 rfl ?_
      refine tv_iload_n C dX8_seenWith_14 rfl 2 rfl ?_
      refine tv_aload_n C dX8_seenWith_15 rfl 0 rfl ?_
      refine tv_get (ci := 8) (Cn := RX8) (T := TX8) (Nf := 35) (v := .int (s 3 0)) C 0 (by decide) rfl rfl in_X8_seenWith_X8 6 (by decide) lk_X8_seenWith_78 rfl dX8_seenWith_16 ?_
      refine tv_idiv C (tn_ne e3 (by omega) (by omega)) dX8_seenWith_19 ?_
      refine tv_icmp_gt C 71 dX8_seenWith_20 (by decide) (fun c_5 => absurd c_5 (tn_nlt (tn_div e_p1 e3 (by omega) (by omega) (by omega)) (rfl : nI i = nI i) (by omega) (by omega))) (fun c_5 => ?_)
      refine tv_iload_n C dX8_seenWith_23 rfl 1 rfl ?_
      refine tv_aload_n C dX8_seenWith_24 rfl 0 rfl ?_
      refine tv_get (ci := 8) (Cn := RX8) (T := TX8) (Nf := 35) (v := .int (s 3 0)) C 0 (by decide) rfl rfl in_X8_seenWith_X8 6 (by decide) lk_X8_seenWith_78 rfl dX8_seenWith_25 ?_
      refine tv_irem C (tn_ne e3 (by omega) (by omega)) dX8_seenWith_28 ?_
      refine tv_istore (lv' := [(5, .int (p0 - p0 / (s 3 0) * (s 3 0))), (0, .ref (tv_ad c 0)), (1, .int p0), (2, .int p1), (3, .int p2), (4, .int (nI i))]) C dX8_seenWith_29 (by decide) rfl ?_
      have hL31 : ∀ (k_31 m : Nat) (x_31_5 : Int32) (w_31 : Nat → va_E), m + k_31 = (b % w0 + 1) → (a % w0 ≤ m) → x_31_5 = (nI m) → w_31 = (eM c (pnt s k (prt w0 a b i m)) (ts_a (ts_a (ts_a r 9 (ts_f (s 11) (r 9) n0)) 10 (ts_f (s 12) (r 10) n0)) 11 (ts_f (s 13) (r 11) n0))) → tv_V c 19 X w_31 31 [(0, .ref (tv_ad c 0)), (1, .int p0), (2, .int p1), (3, .int p2), (4, .int (nI i)), (5, .int x_31_5)] [] := by
        intro k_31
        induction k_31 with
        | zero =>
          intro m x_31_5 w_31 hi31 g2 ex_31_5 ew_31
          subst ex_31_5
          subst ew_31
          have hN31 : m = (b % w0 + 1) := by omega
          refine tv_iload C dX8_seenWith_31 5 rfl ?_
          refine tv_iload_n C dX8_seenWith_33 rfl 2 rfl ?_
          refine tv_aload_n C dX8_seenWith_34 rfl 0 rfl ?_
          refine tv_get (ci := 8) (Cn := RX8) (T := TX8) (Nf := 35) (v := .int (s 3 0)) C 0 (by decide) rfl rfl in_X8_seenWith_X8 6 (by decide) lk_X8_seenWith_78 rfl dX8_seenWith_35 ?_
          refine tv_irem C (tn_ne e3 (by omega) (by omega)) dX8_seenWith_38 ?_
          refine tv_icmp_gt C 65 dX8_seenWith_39 (by decide) (fun c_6 => ?_) (fun c_6 => absurd (tn_lt (tn_rem e_p1 e3 (by omega) (by omega) (by omega)) (rfl : nI m = nI m) (by omega) (by omega)) c_6)
          refine tv_iinc (v := ((nI i) + 1)) (lv' := [(4, .int ((nI i) + 1)), (0, .ref (tv_ad c 0)), (1, .int p0), (2, .int p1), (3, .int p2), (5, .int (nI m))]) C dX8_seenWith_65 4 rfl rfl (by decide) rfl ?_
          refine tv_goto C 12 dX8_seenWith_68 (by decide) ?_
          refine tv_lsub [1, 2, 3, 4, 0] rfl ?_
          exact ih12 (i + 1) _ _ (by omega) (by omega) (by first | rfl | exact nI_1 _ | (simp only [c_5, c_6, if_true, ↓reduceIte]; done) | (simp [c_5, c_6, if_true]; done) | (exfalso; clear hR C; simp_all; done)) (by rw [hN31, (prt_i (w := w0) (a := a) (b := b) (i := i)).resolve_right (by omega)])
        | succ k_31 ih31 =>
          intro m x_31_5 w_31 hi31 g2 ex_31_5 ew_31
          subst ex_31_5
          subst ew_31
          have hN31 : m < (b % w0 + 1) := by omega
          have hmw : m < w0 := by omega
          have hpos : w0 * i + m < n0 := pos_lt hnw hih hmw
          refine tv_iload C dX8_seenWith_31 5 rfl ?_
          refine tv_iload_n C dX8_seenWith_33 rfl 2 rfl ?_
          refine tv_aload_n C dX8_seenWith_34 rfl 0 rfl ?_
          refine tv_get (ci := 8) (Cn := RX8) (T := TX8) (Nf := 35) (v := .int (s 3 0)) C 0 (by decide) rfl rfl in_X8_seenWith_X8 6 (by decide) lk_X8_seenWith_78 rfl dX8_seenWith_35 ?_
          refine tv_irem C (tn_ne e3 (by omega) (by omega)) dX8_seenWith_38 ?_
          refine tv_icmp_gt C 65 dX8_seenWith_39 (by decide) (fun c_7 => absurd c_7 (tn_nlt (tn_rem e_p1 e3 (by omega) (by omega) (by omega)) (rfl : nI m = nI m) (by omega) (by omega))) (fun c_7 => ?_)
          refine tv_aload_n C dX8_seenWith_42 rfl 0 rfl ?_
          refine tv_aload_n C dX8_seenWith_43 rfl 0 rfl ?_
          refine tv_get (ci := 8) (Cn := RX8) (T := TX8) (Nf := 35) (v := .int (s 3 0)) C 0 (by decide) rfl rfl in_X8_seenWith_X8 6 (by decide) lk_X8_seenWith_78 rfl dX8_seenWith_44 ?_
          refine tv_iload C dX8_seenWith_47 4 rfl ?_
          refine tv_imul C dX8_seenWith_49 ?_
          refine tv_iload C dX8_seenWith_50 5 rfl ?_
          refine tv_iadd C dX8_seenWith_52 ?_
          refine tv_iload_n C dX8_seenWith_53 rfl 3 rfl ?_
          refine tv_calli (As := [.int (((s 3 0) * (nI i)) + (nI m)), .int p2]) (rest := []) (ci := 8) (cn := RX8) (T := TX8) (Nf := 35) C 0 (kX8_paint c (pnt s k (prt w0 a b i m)) (ts_a (ts_a (ts_a r 9 (ts_f (s 11) (r 9) n0)) 10 (ts_f (s 12) (r 10) n0)) 11 (ts_f (s 13) (r 11) n0))  (((s 3 0) * (nI i)) + (nI m)) p2 (iv_pnt h_p2 hI)) gX8_seenWith_X8_paint rfl yd_X8_paint ⟨rfl, rfl⟩ (by decide) (by decide) rfl rfl rfl rfl (Nat.le_of_ble_eq_true rfl) dX8_seenWith_54 (fun q_8 u_8 z_8 => ?_)
          obtain ⟨rfl, rfl⟩ := z_8
          refine tv_eqE (E' := (eM c (pnt s k (prt w0 a b i (m + 1))) (ts_a (ts_a (ts_a r 9 (ts_f (s 11) (r 9) n0)) 10 (ts_f (s 12) (r 10) n0)) 11 (ts_f (s 13) (r 11) n0)))) (congrArg (fun z => eM c z (ts_a (ts_a (ts_a r 9 (ts_f (s 11) (r 9) n0)) 10 (ts_f (s 12) (r 10) n0)) 11 (ts_f (s 13) (r 11) n0))) (paint_pnt e9 hn e7 hk (tn_add (tn_mul e3 (rfl : nI i = nI i)) (rfl : nI m = nI m)) hpos e_p2 hkn (fun j => prt_m (by omega) hmw))) ?_
          show tv_V c 19 X (eM c (pnt s k (prt w0 a b i (m + 1))) (ts_a (ts_a (ts_a r 9 (ts_f (s 11) (r 9) n0)) 10 (ts_f (s 12) (r 10) n0)) 11 (ts_f (s 13) (r 11) n0))) 57 [(0, .ref (tv_ad c 0)), (1, .int p0), (2, .int p1), (3, .int p2), (4, .int (nI i)), (5, .int (nI m))] [.int ((sp_paint (pnt s k (prt w0 a b i m)) (((s 3 0) * (nI i)) + (nI m)) p2).1)]
          refine tv_istore (lv' := [(6, .int ((sp_paint (pnt s k (prt w0 a b i m)) (((s 3 0) * (nI i)) + (nI m)) p2).1)), (0, .ref (tv_ad c 0)), (1, .int p0), (2, .int p1), (3, .int p2), (4, .int (nI i)), (5, .int (nI m))]) C dX8_seenWith_57 (by decide) rfl ?_
          refine tv_iinc (v := ((nI m) + 1)) (lv' := [(5, .int ((nI m) + 1)), (6, .int ((sp_paint (pnt s k (prt w0 a b i m)) (((s 3 0) * (nI i)) + (nI m)) p2).1)), (0, .ref (tv_ad c 0)), (1, .int p0), (2, .int p1), (3, .int p2), (4, .int (nI i))]) C dX8_seenWith_59 6 rfl rfl (by decide) rfl ?_
          refine tv_goto C 31 dX8_seenWith_62 (by decide) ?_
          refine tv_lsub [2, 3, 4, 5, 6, 0] rfl ?_
          exact ih31 (m + 1) _ _ (by omega) (by omega) (by first | rfl | exact nI_1 _ | (simp only [c_5, c_7, if_true, ↓reduceIte]; done) | (simp [c_5, c_7, if_true]; done) | (exfalso; clear hR C; simp_all; done)) (by first | rfl | exact nI_1 _ | (simp only [c_5, c_7, if_true, ↓reduceIte]; done) | (simp [c_5, c_7, if_true]; done) | (exfalso; clear hR C; simp_all; done))
      refine tv_lsub [1, 2, 3, 4, 5, 0] rfl ?_
      exact hL31 ((b % w0 + 1) - (a % w0)) (a % w0) _ _ (by omega) (by omega) (by exact tn_rem e_p0 e3 (by omega) (by omega) (by omega)) (by first | (simp only [c_5, if_true, ↓reduceIte]; done) | rfl | (simp [c_5, if_true]; done) | (exfalso; clear hR C; simp_all; done))
  refine tv_lsub [1, 2, 3, 4, 0] rfl ?_
  exact hL12 ((b / w0 + 1) - (a / w0)) (a / w0) _ _ (by omega) (by omega) (by exact tn_div e_p0 e3 (by omega) (by omega) (by omega)) (by rw [pnt_0 (fun j => prt_0)])
set_option maxHeartbeats 4000000 in
set_option maxRecDepth 100000 in
theorem kX8_leave (c : tv_c) (s r : ts_T)  (p0 p1 : Int32) (hI : iv s) : tv_Fi c 19 yX8_leave wsX8_leave { frames := 7, cells := 0, slots := 0, locals := 178 } [.ref (tv_ad c 0), .int p0, .int p1] (eM c s r) (sp_leave s p0 p1) (eM c s (lv_r s r p0 p1)) := by
  refine tv_metI (by decide +kernel) rfl rfl (Nat.le_of_ble_eq_true rfl) (fun X C hR => ?_)
  show tv_V c 19 X (eM c s r) 0 [(0, .ref (tv_ad c 0)), (1, .int p0), (2, .int p1)] []
  have hC := iv.hC hI
  obtain ⟨h, w, n, nk, nl, ny, nm, li, e2, e3, e9, hnw, hh, hw, hn, hz, hp, e7, hk, e8, hl, e4, hy, e5, hm, e6, hli, hcel, hkin, hban, hwei, hshe⟩ := id hI
  refine tv_aload_n C dX8_leave_0 rfl 0 rfl ?_
  refine tv_iload_n C dX8_leave_1 rfl 1 rfl ?_
  refine tv_calli (As := [.int p0]) (rest := []) (ci := 8) (cn := RX8) (T := TX8) (Nf := 35) C 0 (kX8_isCell c s r  p0 hC) gX8_leave_X8_isCell rfl yd_X8_isCell ⟨rfl, rfl⟩ (by decide) (by decide) rfl rfl rfl rfl (Nat.le_of_ble_eq_true rfl) dX8_leave_2 (fun q_1 u_1 z_1 => ?_)
  obtain ⟨rfl, rfl⟩ := z_1
  refine tv_if_eq C 16 dX8_leave_5 (by decide) (fun c_2 => ?_) (fun c_2 => ?_)
  · skip
    refine tv_iconst (v := (-1)) C dX8_leave_16 (by decide) ?_
    exact hR _ _ _ _ dX8_leave_17 ⟨by first | (simp only [sp_leave, eq_true c_2, if_true, ↓reduceIte]; done) | rfl | (simp [sp_leave, eq_true c_2, if_true]; done) | (exfalso; clear hR C; simp_all; done), by simp only [lv_r, eq_true c_2, ↓reduceIte]⟩
  · skip
    obtain ⟨j_p0, hj_p0, ej_p0, ek_p0⟩ := in_ix e9 (by omega) c_2
    obtain ⟨fs_p0, ⟨b_p0, hb_p0, eb_p0⟩, fh_p0, fa_p0, fz_p0⟩ := hcel j_p0 hj_p0
    refine tv_aload_n C dX8_leave_8 rfl 0 rfl ?_
    refine tv_iload_n C dX8_leave_9 rfl 2 rfl ?_
    refine tv_calli (As := [.int p1]) (rest := []) (ci := 8) (cn := RX8) (T := TX8) (Nf := 35) C 0 (kX8_isCoat c s r  p1 ) gX8_leave_X8_isCoat rfl yd_X8_isCoat ⟨rfl, rfl⟩ (by decide) (by decide) rfl rfl rfl rfl (Nat.le_of_ble_eq_true rfl) dX8_leave_10 (fun q_3 u_3 z_3 => ?_)
    obtain ⟨rfl, rfl⟩ := z_3
    refine tv_if_ne C 18 dX8_leave_13 (by decide) (fun c_4 => ?_) (fun c_4 => ?_)
    · skip
      obtain ⟨j_p1, hj_p1, ej_p1, ek_p1⟩ := in_ix e7 (by omega) c_4
      refine tv_aload_n C dX8_leave_18 rfl 0 rfl ?_
      refine tv_bipush (v := (-9)) C dX8_leave_19 (by decide) ?_
      refine tv_calli (As := [.int (-9)]) (rest := []) (ci := 8) (cn := RX8) (T := TX8) (Nf := 35) C 0 (kX8_seenOf c s r  (-9) hI) gX8_leave_X8_seenOf rfl yd_X8_seenOf ⟨rfl, rfl⟩ (by decide) (by decide) rfl rfl rfl rfl (Nat.le_of_ble_eq_true rfl) dX8_leave_21 (fun q_5 u_5 z_5 => ?_)
      obtain ⟨rfl, rfl⟩ := z_5
      refine tv_aload_n C dX8_leave_24 rfl 0 rfl ?_
      refine tv_iload_n C dX8_leave_25 rfl 1 rfl ?_
      refine tv_iload_n C dX8_leave_26 rfl 1 rfl ?_
      refine tv_iload_n C dX8_leave_27 rfl 2 rfl ?_
      refine tv_calli (As := [.int p0, .int p0, .int p1]) (rest := [.int (sp_sn s (-9) (tk (s 9 0)))]) (ci := 8) (cn := RX8) (T := TX8) (Nf := 35) C 0 (kX8_seenWith c s r n w nk j_p0 j_p0 j_p1 p0 p0 p1 ej_p0 (by omega) ej_p0 (by omega) ej_p1 (by omega) hI hj_p0 hj_p0 e9 (Nat.le_refl _) (Nat.le_refl _) e3 hj_p1 e7 hn hw hk) gX8_leave_X8_seenWith rfl yd_X8_seenWith ⟨rfl, rfl⟩ (by decide) (by decide) rfl rfl rfl rfl (Nat.le_of_ble_eq_true rfl) dX8_leave_28 (fun q_6 u_6 z_6 => ?_)
      obtain ⟨rfl, rfl⟩ := z_6
      refine tv_isub C dX8_leave_31 ?_
      refine tv_bipush (v := 100) C dX8_leave_32 (by decide) ?_
      refine tv_iadd C dX8_leave_34 ?_
      exact hR _ _ _ _ dX8_leave_35 ⟨by first | (simp only [sp_leave, c_2, ek_p0, c_4, ek_p1, if_true, ↓reduceIte]; done) | rfl | (simp [sp_leave, c_2, ek_p0, c_4, ek_p1, if_true]; done) | (exfalso; clear hR C; simp_all; done), by simp only [lv_r, c_2, ek_p0, c_4, ek_p1, ↓reduceIte]⟩
    · skip
      refine tv_iconst (v := (-1)) C dX8_leave_16 (by decide) ?_
      exact hR _ _ _ _ dX8_leave_17 ⟨by first | (simp only [sp_leave, c_2, ek_p0, eq_true c_4, if_true, ↓reduceIte]; done) | rfl | (simp [sp_leave, c_2, ek_p0, eq_true c_4, if_true]; done) | (exfalso; clear hR C; simp_all; done), by simp only [lv_r, c_2, ek_p0, eq_true c_4, ↓reduceIte]⟩
