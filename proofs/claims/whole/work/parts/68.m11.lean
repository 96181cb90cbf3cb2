set_option maxRecDepth 20000 in
theorem in_X8_findBest_X8 : ∀ w ∈ u_ws RX8 TX8 35, w ∈ wsX8_findBest := by decide +kernel
set_option maxRecDepth 20000 in
theorem lk_X8_findBest_178 : Cond.fieldLink RX8 178 (TX8 27).1 (TX8 27).2.1 (TX8 27).2.2.1 ∈ wsX8_findBest := by decide +kernel
set_option maxRecDepth 20000 in
theorem lk_X8_findBest_47 : Cond.fieldLink RX8 47 (TX8 24).1 (TX8 24).2.1 (TX8 24).2.2.1 ∈ wsX8_findBest := by decide +kernel
theorem yd_X8_mixUnlike : yX8_mixUnlike.cls = RX8 ∧ yX8_mixUnlike.cls ≠ "java/lang/invoke/MethodHandle" ∧ yX8_mixUnlike.cls ≠ "java/lang/invoke/VarHandle" ∧ (parseMethodDescriptor yX8_mixUnlike.desc).map (fun d => d.parameters.length) = some 1 := by decide +kernel
set_option maxRecDepth 20000 in
theorem lk_X8_findBest_53 : Cond.fieldLink RX8 53 (TX8 28).1 (TX8 28).2.1 (TX8 28).2.2.1 ∈ wsX8_findBest := by decide +kernel
theorem yd_X8_findBest : yX8_findBest.cls = RX8 ∧ yX8_findBest.cls ≠ "java/lang/invoke/MethodHandle" ∧ yX8_findBest.cls ≠ "java/lang/invoke/VarHandle" ∧ (parseMethodDescriptor yX8_findBest.desc).map (fun d => d.parameters.length) = some 1 := by decide +kernel
set_option maxRecDepth 20000 in
theorem in_X8_best_X8 : ∀ w ∈ u_ws RX8 TX8 35, w ∈ wsX8_best := by decide +kernel
set_option maxRecDepth 20000 in
theorem lk_X8_best_53 : Cond.fieldLink RX8 53 (TX8 28).1 (TX8 28).2.1 (TX8 28).2.2.1 ∈ wsX8_best := by decide +kernel
set_option maxRecDepth 20000 in
theorem lk_X8_best_178 : Cond.fieldLink RX8 178 (TX8 27).1 (TX8 27).2.1 (TX8 27).2.2.1 ∈ wsX8_best := by decide +kernel
set_option maxHeartbeats 1000000 in
set_option maxRecDepth 100000 in
theorem kX8_findBest (c : tv_c) (s r : ts_T)  (j : Nat) (p0 : Int32) (e_p0 : p0 = nI j) (h_p0 : j < 24) (hI : iv s) (hj : j < tk (s 9 0)) : tv_Mv c 19 yX8_findBest wsX8_findBest { frames := 5, cells := 0, slots := 0, locals := 129 } [.ref (tv_ad c 0), .int p0] (eM c s r) (fun u_0 => ∃ r_0, u_0 = eM c s r_0 ∧ r_0 7 0 = bU s j (tk (s 8 0)) (bQ s j (tk (s 8 0))) ∧ ∀ i, i < 4 → r_0 8 i = br (bQ s j (tk (s 8 0))) i) := by
  refine tv_metV (by decide +kernel) rfl rfl (Nat.le_of_ble_eq_true rfl) (fun X C hR => ?_)
  show tv_V c 19 X (eM c s r) 0 [(0, .ref (tv_ad c 0)), (1, .int p0)] []
  have hC := iv.hC hI
  obtain ⟨h, w, n, nk, nl, ny, nm, li, e2, e3, e9, hnw, hh, hw, hn, hz, hp, e7, hk, e8, hl, e4, hy, e5, hm, e6, hli, hcel, hkin, hban, hwei, hshe⟩ := id hI
  rw [tk_e e9 (by omega)] at hj
  have ek8 := tk_e e8 (by omega)
  have hub := bU_b (nl := nl) (hcel j hj) hy hban ⟨nm, hm, e5⟩ hwei hl
  refine tv_aload_n C dX8_findBest_0 rfl 0 rfl ?_
  refine tv_bipush (v := (-9)) C dX8_findBest_1 (by decide) ?_
  refine tv_put (ci := 8) (Cn := RX8) (T := TX8) (Nf := 35) (ty := .int) (E' := (eM c s (ts_s r 7 (-9)))) C 0 (by decide) rfl rfl in_X8_findBest_X8 tyX8 tyX8_ok nmX8 27 (by decide) lk_X8_findBest_178 rfl (by decide +kernel) rfl rfl (Nat.le_of_ble_eq_true rfl) (eM_u_bestUnlike c s r (-9)) dX8_findBest_3 ?_
  refine tv_iconst (v := 1) C dX8_findBest_6 (by decide) ?_
  refine tv_istore_n (lv' := [(2, .int 1), (0, .ref (tv_ad c 0)), (1, .int p0)]) C dX8_findBest_7 rfl (by decide) rfl ?_
  have hL8 : ∀ (k_8 i : Nat) (x_8_2 : Int32) (rr : ts_T), i + k_8 = 7 → (rM s j nl (rr 7 0) (rr 8) (bN i 0)) → x_8_2 = (nI i) → tv_V c 19 X (eM c s rr) 8 [(0, .ref (tv_ad c 0)), (1, .int p0), (2, .int x_8_2)] [] := by
    intro k_8
    induction k_8 with
    | zero =>
      intro i x_8_2 rr hi8 h0 ex_8_2
      subst ex_8_2
      have hN8 : i = 7 := by omega
      refine tv_iload_n C dX8_findBest_8 rfl 2 rfl ?_
      refine tv_bipush (v := 6) C dX8_findBest_9 (by decide) ?_
      refine tv_icmp_gt C 184 dX8_findBest_11 (by decide) (fun c_1 => ?_) (fun c_1 => absurd (tn_lt (tn_l 6) (rfl : nI i = nI i) (by omega) (by omega)) c_1)
      exact hR _ _ _ dX8_findBest_184 (by rw [hN8] at h0; rw [ek8]; exact ⟨rr, rfl, rM_end h0 e7 (by omega) hk⟩)
    | succ k_8 ih8 =>
      intro i x_8_2 rr hi8 h0 ex_8_2
      subst ex_8_2
      have hN8 : i < 7 := by omega
      refine tv_iload_n C dX8_findBest_8 rfl 2 rfl ?_
      refine tv_bipush (v := 6) C dX8_findBest_9 (by decide) ?_
      refine tv_icmp_gt C 184 dX8_findBest_11 (by decide) (fun c_2 => absurd c_2 (tn_nlt (tn_l 6) (rfl : nI i = nI i) (by omega) (by omega))) (fun c_2 => ?_)
      refine tv_iconst (v := 0) C dX8_findBest_14 (by decide) ?_
      refine tv_istore_n (lv' := [(3, .int 0), (0, .ref (tv_ad c 0)), (1, .int p0), (2, .int (nI i))]) C dX8_findBest_15 rfl (by decide) rfl ?_
      have hL16 : ∀ (k_16 q : Nat) (x_16_3 : Int32) (r2 : ts_T), q + k_16 = 2401 → (rM s j nl (r2 7 0) (r2 8) (bN i q)) → x_16_3 = (nI q) → tv_V c 19 X (eM c s r2) 16 [(0, .ref (tv_ad c 0)), (1, .int p0), (2, .int (nI i)), (3, .int x_16_3)] [] := by
        intro k_16
        induction k_16 with
        | zero =>
          intro q x_16_3 r2 hi16 h1 ex_16_3
          subst ex_16_3
          have hN16 : q = 2401 := by omega
          refine tv_iload_n C dX8_findBest_16 rfl 3 rfl ?_
          refine tv_sipush (v := 2401) C dX8_findBest_17 (by decide) ?_
          refine tv_icmp_ge C 178 dX8_findBest_20 (by decide) (fun c_3 => ?_) (fun c_3 => absurd (tn_le (tn_l 2401) (rfl : nI q = nI q) (by omega) (by omega)) c_3)
          refine tv_iinc (v := ((nI i) + 1)) (lv' := [(2, .int ((nI i) + 1)), (0, .ref (tv_ad c 0)), (1, .int p0), (3, .int (nI q))]) C dX8_findBest_178 2 rfl rfl (by decide) rfl ?_
          refine tv_goto C 8 dX8_findBest_181 (by decide) ?_
          refine tv_lsub [1, 2, 0] rfl ?_
          exact ih8 (i + 1) _ r2 (by omega) (by rw [hN16] at h1; exact rM_next h1) (by first | rfl | exact nI_1 _ | (simp only [c_2, c_3, if_true, ↓reduceIte]; done) | (simp [c_2, c_3, if_true]; done) | (exfalso; clear hR C; simp_all; done))
        | succ k_16 ih16 =>
          intro q x_16_3 r2 hi16 h1 ex_16_3
          subst ex_16_3
          have hN16 : q < 2401 := by omega
          refine tv_iload_n C dX8_findBest_16 rfl 3 rfl ?_
          refine tv_sipush (v := 2401) C dX8_findBest_17 (by decide) ?_
          refine tv_icmp_ge C 178 dX8_findBest_20 (by decide) (fun c_4 => absurd c_4 (tn_nle (tn_l 2401) (rfl : nI q = nI q) (by omega) (by omega))) (fun c_4 => ?_)
          refine tv_aload_n C dX8_findBest_23 rfl 0 rfl ?_
          refine tv_get (ci := 8) (Cn := RX8) (T := TX8) (Nf := 35) (v := .ref (tv_ad c 13)) C 0 (by decide) rfl rfl in_X8_findBest_X8 24 (by decide) lk_X8_findBest_47 rfl dX8_findBest_24 ?_
          refine tv_iconst (v := 0) C dX8_findBest_27 (by decide) ?_
          refine tv_iload_n C dX8_findBest_28 rfl 3 rfl ?_
          refine tv_sipush (v := 343) C dX8_findBest_29 (by decide) ?_
          refine tv_idiv C (by decide) dX8_findBest_32 ?_
          refine tv_iast (E' := (eM c s (ts_a r2 4 (upd (r2 4) 0 ((nI q) / 343))))) C 13 (by decide) rfl 0 (tn_l 0) (show 0 < 4 by omega) (by decide) (eM_u_drops c s r2 (upd (r2 4) 0 ((nI q) / 343))) dX8_findBest_33 ?_
          refine tv_aload_n C dX8_findBest_34 rfl 0 rfl ?_
          refine tv_get (ci := 8) (Cn := RX8) (T := TX8) (Nf := 35) (v := .ref (tv_ad c 13)) C 0 (by decide) rfl rfl in_X8_findBest_X8 24 (by decide) lk_X8_findBest_47 rfl dX8_findBest_35 ?_
          refine tv_iconst (v := 1) C dX8_findBest_38 (by decide) ?_
          refine tv_iload_n C dX8_findBest_39 rfl 3 rfl ?_
          refine tv_bipush (v := 49) C dX8_findBest_40 (by decide) ?_
          refine tv_idiv C (by decide) dX8_findBest_42 ?_
          refine tv_bipush (v := 7) C dX8_findBest_43 (by decide) ?_
          refine tv_irem C (by decide) dX8_findBest_45 ?_
          refine tv_iast (E' := (eM c s (ts_a r2 4 (upd (upd (r2 4) 0 ((nI q) / 343)) 1 (((nI q) / 49) - ((nI q) / 49) / 7 * 7))))) C 13 (by decide) rfl 1 (tn_l 1) (show 1 < 4 by omega) (by decide) ((eM_u_drops c s (ts_a r2 4 (upd (r2 4) 0 ((nI q) / 343))) (upd (upd (r2 4) 0 ((nI q) / 343)) 1 (((nI q) / 49) - ((nI q) / 49) / 7 * 7))).trans (by first | (rw [ts_mg]; done) | (rw [ts_mg]; rfl) | (rw [ts_ss]; done) | (rw [ts_ss]; rfl))) dX8_findBest_46 ?_
          refine tv_aload_n C dX8_findBest_47 rfl 0 rfl ?_
          refine tv_get (ci := 8) (Cn := RX8) (T := TX8) (Nf := 35) (v := .ref (tv_ad c 13)) C 0 (by decide) rfl rfl in_X8_findBest_X8 24 (by decide) lk_X8_findBest_47 rfl dX8_findBest_48 ?_
          refine tv_iconst (v := 2) C dX8_findBest_51 (by decide) ?_
          refine tv_iload_n C dX8_findBest_52 rfl 3 rfl ?_
          refine tv_bipush (v := 7) C dX8_findBest_53 (by decide) ?_
          refine tv_idiv C (by decide) dX8_findBest_55 ?_
          refine tv_bipush (v := 7) C dX8_findBest_56 (by decide) ?_
          refine tv_irem C (by decide) dX8_findBest_58 ?_
          refine tv_iast (E' := (eM c s (ts_a r2 4 (upd (upd (upd (r2 4) 0 ((nI q) / 343)) 1 (((nI q) / 49) - ((nI q) / 49) / 7 * 7)) 2 (((nI q) / 7) - ((nI q) / 7) / 7 * 7))))) C 13 (by decide) rfl 2 (tn_l 2) (show 2 < 4 by omega) (by decide) ((eM_u_drops c s (ts_a r2 4 (upd (upd (r2 4) 0 ((nI q) / 343)) 1 (((nI q) / 49) - ((nI q) / 49) / 7 * 7))) (upd (upd (upd (r2 4) 0 ((nI q) / 343)) 1 (((nI q) / 49) - ((nI q) / 49) / 7 * 7)) 2 (((nI q) / 7) - ((nI q) / 7) / 7 * 7))).trans (by first | (rw [ts_mg]; done) | (rw [ts_mg]; rfl) | (rw [ts_ss]; done) | (rw [ts_ss]; rfl))) dX8_findBest_59 ?_
          refine tv_aload_n C dX8_findBest_60 rfl 0 rfl ?_
          refine tv_get (ci := 8) (Cn := RX8) (T := TX8) (Nf := 35) (v := .ref (tv_ad c 13)) C 0 (by decide) rfl rfl in_X8_findBest_X8 24 (by decide) lk_X8_findBest_47 rfl dX8_findBest_61 ?_
          refine tv_iconst (v := 3) C dX8_findBest_64 (by decide) ?_
          refine tv_iload_n C dX8_findBest_65 rfl 3 rfl ?_
          refine tv_bipush (v := 7) C dX8_findBest_66 (by decide) ?_
          refine tv_irem C (by decide) dX8_findBest_68 ?_
          refine tv_iast (E' := (eM c s (ts_a r2 4 (upd (upd (upd (upd (r2 4) 0 ((nI q) / 343)) 1 (((nI q) / 49) - ((nI q) / 49) / 7 * 7)) 2 (((nI q) / 7) - ((nI q) / 7) / 7 * 7)) 3 ((nI q) - (nI q) / 7 * 7))))) C 13 (by decide) rfl 3 (tn_l 3) (show 3 < 4 by omega) (by decide) ((eM_u_drops c s (ts_a r2 4 (upd (upd (upd (r2 4) 0 ((nI q) / 343)) 1 (((nI q) / 49) - ((nI q) / 49) / 7 * 7)) 2 (((nI q) / 7) - ((nI q) / 7) / 7 * 7))) (upd (upd (upd (upd (r2 4) 0 ((nI q) / 343)) 1 (((nI q) / 49) - ((nI q) / 49) / 7 * 7)) 2 (((nI q) / 7) - ((nI q) / 7) / 7 * 7)) 3 ((nI q) - (nI q) / 7 * 7))).trans (by first | (rw [ts_mg]; done) | (rw [ts_mg]; rfl) | (rw [ts_ss]; done) | (rw [ts_ss]; rfl))) dX8_findBest_69 ?_
          refine tv_eqE (E' := (eM c s (ts_a r2 4 (upd (upd (upd (upd (r2 4) 0 (nI (q / 343))) 1 (nI (q / 49 % 7))) 2 (nI (q / 7 % 7))) 3 (nI (q % 7)))))) (by rw [bd_1 hN16, bd_2 hN16, bd_3 hN16, bd_4 hN16]) ?_
          refine tv_aload_n C dX8_findBest_70 rfl 0 rfl ?_
          refine tv_get (ci := 8) (Cn := RX8) (T := TX8) (Nf := 35) (v := .ref (tv_ad c 13)) C 0 (by decide) rfl rfl in_X8_findBest_X8 24 (by decide) lk_X8_findBest_47 rfl dX8_findBest_71 ?_
          refine tv_iconst (v := 0) C dX8_findBest_74 (by decide) ?_
          refine tv_iald (f := (upd (upd (upd (upd (r2 4) 0 (nI (q / 343))) 1 (nI (q / 49 % 7))) 2 (nI (q / 7 % 7))) 3 (nI (q % 7)))) (v := (nI (q / 343))) C 13 (by decide) rfl 0 (tn_l 0) (show 0 < 4 by omega) (by decide) rfl dX8_findBest_75 ?_
          refine tv_aload_n C dX8_findBest_76 rfl 0 rfl ?_
          refine tv_get (ci := 8) (Cn := RX8) (T := TX8) (Nf := 35) (v := .ref (tv_ad c 13)) C 0 (by decide) rfl rfl in_X8_findBest_X8 24 (by decide) lk_X8_findBest_47 rfl dX8_findBest_77 ?_
          refine tv_iconst (v := 1) C dX8_findBest_80 (by decide) ?_
          refine tv_iald (f := (upd (upd (upd (upd (r2 4) 0 (nI (q / 343))) 1 (nI (q / 49 % 7))) 2 (nI (q / 7 % 7))) 3 (nI (q % 7)))) (v := (nI (q / 49 % 7))) C 13 (by decide) rfl 1 (tn_l 1) (show 1 < 4 by omega) (by decide) rfl dX8_findBest_81 ?_
          refine tv_iadd C dX8_findBest_82 ?_
          refine tv_aload_n C dX8_findBest_83 rfl 0 rfl ?_
          refine tv_get (ci := 8) (Cn := RX8) (T := TX8) (Nf := 35) (v := .ref (tv_ad c 13)) C 0 (by decide) rfl rfl in_X8_findBest_X8 24 (by decide) lk_X8_findBest_47 rfl dX8_findBest_84 ?_
          refine tv_iconst (v := 2) C dX8_findBest_87 (by decide) ?_
          refine tv_iald (f := (upd (upd (upd (upd (r2 4) 0 (nI (q / 343))) 1 (nI (q / 49 % 7))) 2 (nI (q / 7 % 7))) 3 (nI (q % 7)))) (v := (nI (q / 7 % 7))) C 13 (by decide) rfl 2 (tn_l 2) (show 2 < 4 by omega) (by decide) rfl dX8_findBest_88 ?_
          refine tv_iadd C dX8_findBest_89 ?_
          refine tv_aload_n C dX8_findBest_90 rfl 0 rfl ?_
          refine tv_get (ci := 8) (Cn := RX8) (T := TX8) (Nf := 35) (v := .ref (tv_ad c 13)) C 0 (by decide) rfl rfl in_X8_findBest_X8 24 (by decide) lk_X8_findBest_47 rfl dX8_findBest_91 ?_
          refine tv_iconst (v := 3) C dX8_findBest_94 (by decide) ?_
          refine tv_iald (f := (upd (upd (upd (upd (r2 4) 0 (nI (q / 343))) 1 (nI (q / 49 % 7))) 2 (nI (q / 7 % 7))) 3 (nI (q % 7)))) (v := (nI (q % 7))) C 13 (by decide) rfl 3 (tn_l 3) (show 3 < 4 by omega) (by decide) rfl dX8_findBest_95 ?_
          refine tv_iadd C dX8_findBest_96 ?_
          refine tv_iload_n C dX8_findBest_97 rfl 2 rfl ?_
          refine tv_icmp_ne C 172 dX8_findBest_98 (by decide) (fun c_5 => ?_) (fun c_5 => ?_)
          · skip
            have nc_5 : ¬ ((((q / 343) + (q / 49 % 7)) + (q / 7 % 7)) + (q % 7)) = i := tn_nf (tn_eqI (tn_add (tn_add (tn_add (rfl : nI (q / 343) = nI (q / 343)) (rfl : nI (q / 49 % 7) = nI (q / 49 % 7))) (rfl : nI (q / 7 % 7) = nI (q / 7 % 7))) (rfl : nI (q % 7) = nI (q % 7))) (rfl : nI i = nI i) (by omega) (by omega)) c_5
            refine tv_iinc (v := ((nI q) + 1)) (lv' := [(3, .int ((nI q) + 1)), (0, .ref (tv_ad c 0)), (1, .int p0), (2, .int (nI i))]) C dX8_findBest_172 3 rfl rfl (by decide) rfl ?_
            refine tv_goto C 16 dX8_findBest_175 (by decide) ?_
            refine tv_lsub [1, 2, 3, 0] rfl ?_
            exact ih16 (q + 1) _ (ts_a r2 4 (upd (upd (upd (upd (r2 4) 0 (nI (q / 343))) 1 (nI (q / 49 % 7))) 2 (nI (q / 7 % 7))) 3 (nI (q % 7)))) (by omega) (by first | exact rM_skip h1 (fun _ => by unfold bD; omega) | exact rM_skip h1 (fun z => absurd ((ad_br s (r2 4) q).symm.trans (by assumption)) z.2.2)) (by first | rfl | exact nI_1 _ | (simp only [c_2, c_4, c_5, nc_5, if_true, ↓reduceIte]; done) | (simp [c_2, c_4, c_5, nc_5, if_true]; done) | (exfalso; clear hR C; simp_all; done))
          · skip
            have nc_5 : ((((q / 343) + (q / 49 % 7)) + (q / 7 % 7)) + (q % 7)) = i := (tn_eqI (tn_add (tn_add (tn_add (rfl : nI (q / 343) = nI (q / 343)) (rfl : nI (q / 49 % 7) = nI (q / 49 % 7))) (rfl : nI (q / 7 % 7) = nI (q / 7 % 7))) (rfl : nI (q % 7) = nI (q % 7))) (rfl : nI i = nI i) (by omega) (by omega)).mp c_5
            have hD : bD q = i := by unfold bD; omega
            refine tv_aload_n C dX8_findBest_101 rfl 0 rfl ?_
            refine tv_calli (As := []) (rest := []) (ci := 8) (cn := RX8) (T := TX8) (Nf := 35) C 0 (kX8_areDrops c s (ts_a r2 4 (upd (upd (upd (upd (r2 4) 0 (nI (q / 343))) 1 (nI (q / 49 % 7))) 2 (nI (q / 7 % 7))) 3 (nI (q % 7))))   ) gX8_findBest_X8_areDrops rfl yd_X8_areDrops ⟨rfl, rfl⟩ (by decide) (by decide) rfl rfl rfl rfl (Nat.le_of_ble_eq_true rfl) dX8_findBest_102 (fun q_6 u_6 z_6 => ?_)
            obtain ⟨rfl, rfl⟩ := z_6
            show tv_V c 19 X (eM c s (ts_a r2 4 (upd (upd (upd (upd (r2 4) 0 (nI (q / 343))) 1 (nI (q / 49 % 7))) 2 (nI (q / 7 % 7))) 3 (nI (q % 7))))) 105 [(0, .ref (tv_ad c 0)), (1, .int p0), (2, .int (nI i)), (3, .int (nI q))] [.int (sp_ad s ((upd (upd (upd (upd (r2 4) 0 (nI (q / 343))) 1 (nI (q / 49 % 7))) 2 (nI (q / 7 % 7))) 3 (nI (q % 7)))))]
            refine tv_if_eq C 172 dX8_findBest_105 (by decide) (fun c_7 => ?_) (fun c_7 => ?_)
            · skip
              refine tv_iinc (v := ((nI q) + 1)) (lv' := [(3, .int ((nI q) + 1)), (0, .ref (tv_ad c 0)), (1, .int p0), (2, .int (nI i))]) C dX8_findBest_172 3 rfl rfl (by decide) rfl ?_
              refine tv_goto C 16 dX8_findBest_175 (by decide) ?_
              refine tv_lsub [1, 2, 3, 0] rfl ?_
              exact ih16 (q + 1) _ (ts_a r2 4 (upd (upd (upd (upd (r2 4) 0 (nI (q / 343))) 1 (nI (q / 49 % 7))) 2 (nI (q / 7 % 7))) 3 (nI (q % 7)))) (by omega) (by first | exact rM_skip h1 (fun _ => by unfold bD; omega) | exact rM_skip h1 (fun z => absurd ((ad_br s (r2 4) q).symm.trans (by assumption)) z.2.2)) (by first | rfl | exact nI_1 _ | (simp only [c_2, c_4, eq_true c_5, nc_5, eq_true c_7, if_true, ↓reduceIte]; done) | (simp [c_2, c_4, eq_true c_5, nc_5, eq_true c_7, if_true]; done) | (exfalso; clear hR C; simp_all; done))
            · skip
              have hd : ¬ sp_ad s (upd (upd (upd (upd (r2 4) 0 (nI (q / 343))) 1 (nI (q / 49 % 7))) 2 (nI (q / 7 % 7))) 3 (nI (q % 7))) = 0 := by assumption
              have hg : bG s q := ⟨hN16, by omega, fun z => hd ((ad_br s (r2 4) q).trans z)⟩
              refine tv_aload_n C dX8_findBest_108 rfl 0 rfl ?_
              refine tv_callv (As := []) (rest := []) (ci := 8) (cn := RX8) (T := TX8) (Nf := 35) C 0 (kX8_layMix c s (ts_a r2 4 (upd (upd (upd (upd (r2 4) 0 (nI (q / 343))) 1 (nI (q / 49 % 7))) 2 (nI (q / 7 % 7))) 3 (nI (q % 7))))   (ad_sd hd)) gX8_findBest_X8_layMix rfl yd_X8_layMix ⟨rfl, rfl⟩ (by decide) (by decide) rfl rfl rfl rfl (Nat.le_of_ble_eq_true rfl) dX8_findBest_109 (fun u_8 z_8 => ?_)
              subst z_8
              show tv_V c 19 X (eM c s (ts_a (ts_s (ts_a r2 4 (upd (upd (upd (upd (r2 4) 0 (nI (q / 343))) 1 (nI (q / 49 % 7))) 2 (nI (q / 7 % 7))) 3 (nI (q % 7)))) 5 (sp_mk s ((upd (upd (upd (upd (r2 4) 0 (nI (q / 343))) 1 (nI (q / 49 % 7))) 2 (nI (q / 7 % 7))) 3 (nI (q % 7)))) 4)) 6 (upd (upd (upd (r2 6) 0 (sp_mb s ((upd (upd (upd (upd (r2 4) 0 (nI (q / 343))) 1 (nI (q / 49 % 7))) 2 (nI (q / 7 % 7))) 3 (nI (q % 7)))) 0)) 1 (sp_mb s ((upd (upd (upd (upd (r2 4) 0 (nI (q / 343))) 1 (nI (q / 49 % 7))) 2 (nI (q / 7 % 7))) 3 (nI (q % 7)))) 1)) 2 (sp_mb s ((upd (upd (upd (upd (r2 4) 0 (nI (q / 343))) 1 (nI (q / 49 % 7))) 2 (nI (q / 7 % 7))) 3 (nI (q % 7)))) 2)))) 112 [(0, .ref (tv_ad c 0)), (1, .int p0), (2, .int (nI i)), (3, .int (nI q))] []
              refine tv_aload_n C dX8_findBest_112 rfl 0 rfl ?_
              refine tv_iload_n C dX8_findBest_113 rfl 1 rfl ?_
              refine tv_calli (As := [.int p0]) (rest := []) (ci := 8) (cn := RX8) (T := TX8) (Nf := 35) C 0 (kX8_mixUnlike c s (ts_a (ts_s (ts_a r2 4 (upd (upd (upd (upd (r2 4) 0 (nI (q / 343))) 1 (nI (q / 49 % 7))) 2 (nI (q / 7 % 7))) 3 (nI (q % 7)))) 5 (sp_mk s ((upd (upd (upd (upd (r2 4) 0 (nI (q / 343))) 1 (nI (q / 49 % 7))) 2 (nI (q / 7 % 7))) 3 (nI (q % 7)))) 4)) 6 (upd (upd (upd (r2 6) 0 (sp_mb s ((upd (upd (upd (upd (r2 4) 0 (nI (q / 343))) 1 (nI (q / 49 % 7))) 2 (nI (q / 7 % 7))) 3 (nI (q % 7)))) 0)) 1 (sp_mb s ((upd (upd (upd (upd (r2 4) 0 (nI (q / 343))) 1 (nI (q / 49 % 7))) 2 (nI (q / 7 % 7))) 3 (nI (q % 7)))) 1)) 2 (sp_mb s ((upd (upd (upd (upd (r2 4) 0 (nI (q / 343))) 1 (nI (q / 49 % 7))) 2 (nI (q / 7 % 7))) 3 (nI (q % 7)))) 2))) nl j p0 e_p0 (by omega) (hcel j hj).2.1 e8 hl) gX8_findBest_X8_mixUnlike rfl yd_X8_mixUnlike ⟨rfl, rfl⟩ (by decide) (by decide) rfl rfl rfl rfl (Nat.le_of_ble_eq_true rfl) dX8_findBest_114 (fun q_9 u_9 z_9 => ?_)
              obtain ⟨rfl, rfl⟩ := z_9
              rw [show sp_mu s ((ts_a (ts_s (ts_a r2 4 (upd (upd (upd (upd (r2 4) 0 (nI (q / 343))) 1 (nI (q / 49 % 7))) 2 (nI (q / 7 % 7))) 3 (nI (q % 7)))) 5 (sp_mk s ((upd (upd (upd (upd (r2 4) 0 (nI (q / 343))) 1 (nI (q / 49 % 7))) 2 (nI (q / 7 % 7))) 3 (nI (q % 7)))) 4)) 6 (upd (upd (upd (r2 6) 0 (sp_mb s ((upd (upd (upd (upd (r2 4) 0 (nI (q / 343))) 1 (nI (q / 49 % 7))) 2 (nI (q / 7 % 7))) 3 (nI (q % 7)))) 0)) 1 (sp_mb s ((upd (upd (upd (upd (r2 4) 0 (nI (q / 343))) 1 (nI (q / 49 % 7))) 2 (nI (q / 7 % 7))) 3 (nI (q % 7)))) 1)) 2 (sp_mb s ((upd (upd (upd (upd (r2 4) 0 (nI (q / 343))) 1 (nI (q / 49 % 7))) 2 (nI (q / 7 % 7))) 3 (nI (q % 7)))) 2))) 5 0) ((ts_a (ts_s (ts_a r2 4 (upd (upd (upd (upd (r2 4) 0 (nI (q / 343))) 1 (nI (q / 49 % 7))) 2 (nI (q / 7 % 7))) 3 (nI (q % 7)))) 5 (sp_mk s ((upd (upd (upd (upd (r2 4) 0 (nI (q / 343))) 1 (nI (q / 49 % 7))) 2 (nI (q / 7 % 7))) 3 (nI (q % 7)))) 4)) 6 (upd (upd (upd (r2 6) 0 (sp_mb s ((upd (upd (upd (upd (r2 4) 0 (nI (q / 343))) 1 (nI (q / 49 % 7))) 2 (nI (q / 7 % 7))) 3 (nI (q % 7)))) 0)) 1 (sp_mb s ((upd (upd (upd (upd (r2 4) 0 (nI (q / 343))) 1 (nI (q / 49 % 7))) 2 (nI (q / 7 % 7))) 3 (nI (q % 7)))) 1)) 2 (sp_mb s ((upd (upd (upd (upd (r2 4) 0 (nI (q / 343))) 1 (nI (q / 49 % 7))) 2 (nI (q / 7 % 7))) 3 (nI (q % 7)))) 2))) 6) j nl = bU s j nl q from bu_M s j nl q (bs_d4 (r2 4) q)]
              show tv_V c 19 X (eM c s (ts_a (ts_s (ts_a r2 4 (upd (upd (upd (upd (r2 4) 0 (nI (q / 343))) 1 (nI (q / 49 % 7))) 2 (nI (q / 7 % 7))) 3 (nI (q % 7)))) 5 (sp_mk s ((upd (upd (upd (upd (r2 4) 0 (nI (q / 343))) 1 (nI (q / 49 % 7))) 2 (nI (q / 7 % 7))) 3 (nI (q % 7)))) 4)) 6 (upd (upd (upd (r2 6) 0 (sp_mb s ((upd (upd (upd (upd (r2 4) 0 (nI (q / 343))) 1 (nI (q / 49 % 7))) 2 (nI (q / 7 % 7))) 3 (nI (q % 7)))) 0)) 1 (sp_mb s ((upd (upd (upd (upd (r2 4) 0 (nI (q / 343))) 1 (nI (q / 49 % 7))) 2 (nI (q / 7 % 7))) 3 (nI (q % 7)))) 1)) 2 (sp_mb s ((upd (upd (upd (upd (r2 4) 0 (nI (q / 343))) 1 (nI (q / 49 % 7))) 2 (nI (q / 7 % 7))) 3 (nI (q % 7)))) 2)))) 117 [(0, .ref (tv_ad c 0)), (1, .int p0), (2, .int (nI i)), (3, .int (nI q))] [.int (bU s j nl q)]
              refine tv_istore (lv' := [(4, .int (bU s j nl q)), (0, .ref (tv_ad c 0)), (1, .int p0), (2, .int (nI i)), (3, .int (nI q))]) C dX8_findBest_117 (by decide) rfl ?_
              refine tv_aload_n C dX8_findBest_119 rfl 1 rfl ?_
              refine tv_get (ci := 8) (Cn := RX8) (T := TX8) (Nf := 35) (v := .int (r2 7 0)) C 0 (by decide) rfl rfl in_X8_findBest_X8 27 (by decide) lk_X8_findBest_178 rfl dX8_findBest_120 ?_
              refine tv_bipush (v := (-9)) C dX8_findBest_123 (by decide) ?_
              refine tv_icmp_eq C 137 dX8_findBest_125 (by decide) (fun c_10 => ?_) (fun c_10 => ?_)
              · skip
                refine tv_aload_n C dX8_findBest_137 rfl 1 rfl ?_
                refine tv_iload C dX8_findBest_138 0 rfl ?_
                refine tv_put (ci := 8) (Cn := RX8) (T := TX8) (Nf := 35) (ty := .int) (E' := (eM c s (ts_s (ts_a (ts_s (ts_a r2 4 (upd (upd (upd (upd (r2 4) 0 (nI (q / 343))) 1 (nI (q / 49 % 7))) 2 (nI (q / 7 % 7))) 3 (nI (q % 7)))) 5 (sp_mk s ((upd (upd (upd (upd (r2 4) 0 (nI (q / 343))) 1 (nI (q / 49 % 7))) 2 (nI (q / 7 % 7))) 3 (nI (q % 7)))) 4)) 6 (upd (upd (upd (r2 6) 0 (sp_mb s ((upd (upd (upd (upd (r2 4) 0 (nI (q / 343))) 1 (nI (q / 49 % 7))) 2 (nI (q / 7 % 7))) 3 (nI (q % 7)))) 0)) 1 (sp_mb s ((upd (upd (upd (upd (r2 4) 0 (nI (q / 343))) 1 (nI (q / 49 % 7))) 2 (nI (q / 7 % 7))) 3 (nI (q % 7)))) 1)) 2 (sp_mb s ((upd (upd (upd (upd (r2 4) 0 (nI (q / 343))) 1 (nI (q / 49 % 7))) 2 (nI (q / 7 % 7))) 3 (nI (q % 7)))) 2))) 7 (bU s j nl q)))) C 0 (by decide) rfl rfl in_X8_findBest_X8 tyX8 tyX8_ok nmX8 27 (by decide) lk_X8_findBest_178 rfl (by decide +kernel) rfl rfl (Nat.le_of_ble_eq_true rfl) (eM_u_bestUnlike c s (ts_a (ts_s (ts_a r2 4 (upd (upd (upd (upd (r2 4) 0 (nI (q / 343))) 1 (nI (q / 49 % 7))) 2 (nI (q / 7 % 7))) 3 (nI (q % 7)))) 5 (sp_mk s ((upd (upd (upd (upd (r2 4) 0 (nI (q / 343))) 1 (nI (q / 49 % 7))) 2 (nI (q / 7 % 7))) 3 (nI (q % 7)))) 4)) 6 (upd (upd (upd (r2 6) 0 (sp_mb s ((upd (upd (upd (upd (r2 4) 0 (nI (q / 343))) 1 (nI (q / 49 % 7))) 2 (nI (q / 7 % 7))) 3 (nI (q % 7)))) 0)) 1 (sp_mb s ((upd (upd (upd (upd (r2 4) 0 (nI (q / 343))) 1 (nI (q / 49 % 7))) 2 (nI (q / 7 % 7))) 3 (nI (q % 7)))) 1)) 2 (sp_mb s ((upd (upd (upd (upd (r2 4) 0 (nI (q / 343))) 1 (nI (q / 49 % 7))) 2 (nI (q / 7 % 7))) 3 (nI (q % 7)))) 2))) (bU s j nl q)) dX8_findBest_140 ?_
                refine tv_iconst (v := 0) C dX8_findBest_143 (by decide) ?_
                refine tv_istore (lv' := [(5, .int 0), (4, .int (bU s j nl q)), (0, .ref (tv_ad c 0)), (1, .int p0), (2, .int (nI i)), (3, .int (nI q))]) C dX8_findBest_144 (by decide) rfl ?_
                refine tv_iload C dX8_findBest_146 0 rfl ?_
                refine tv_iconst (v := 4) C dX8_findBest_148 (by decide) ?_
                refine tv_icmp_ge C 172 dX8_findBest_149 (by decide) (fun c_11 => absurd c_11 (by decide)) (fun c_11 => ?_)
                refine tv_aload_n C dX8_findBest_152 rfl 2 rfl ?_
                refine tv_get (ci := 8) (Cn := RX8) (T := TX8) (Nf := 35) (v := .ref (tv_ad c 15)) C 0 (by decide) rfl rfl in_X8_findBest_X8 28 (by decide) lk_X8_findBest_53 rfl dX8_findBest_153 ?_
                refine tv_iload C dX8_findBest_156 0 rfl ?_
                refine tv_aload_n C dX8_findBest_158 rfl 2 rfl ?_
                refine tv_get (ci := 8) (Cn := RX8) (T := TX8) (Nf := 35) (v := .ref (tv_ad c 13)) C 0 (by decide) rfl rfl in_X8_findBest_X8 24 (by decide) lk_X8_findBest_47 rfl dX8_findBest_159 ?_
                refine tv_iload C dX8_findBest_162 0 rfl ?_
                refine tv_iald (f := (upd (upd (upd (upd (r2 4) 0 (nI (q / 343))) 1 (nI (q / 49 % 7))) 2 (nI (q / 7 % 7))) 3 (nI (q % 7)))) (v := (nI (q / 343))) C 13 (by decide) rfl 0 (tn_l 0) (show 0 < 4 by omega) (by decide) rfl dX8_findBest_164 ?_
                refine tv_iast (E' := (eM c s (ts_a (ts_s (ts_a (ts_s (ts_a r2 4 (upd (upd (upd (upd (r2 4) 0 (nI (q / 343))) 1 (nI (q / 49 % 7))) 2 (nI (q / 7 % 7))) 3 (nI (q % 7)))) 5 (sp_mk s ((upd (upd (upd (upd (r2 4) 0 (nI (q / 343))) 1 (nI (q / 49 % 7))) 2 (nI (q / 7 % 7))) 3 (nI (q % 7)))) 4)) 6 (upd (upd (upd (r2 6) 0 (sp_mb s ((upd (upd (upd (upd (r2 4) 0 (nI (q / 343))) 1 (nI (q / 49 % 7))) 2 (nI (q / 7 % 7))) 3 (nI (q % 7)))) 0)) 1 (sp_mb s ((upd (upd (upd (upd (r2 4) 0 (nI (q / 343))) 1 (nI (q / 49 % 7))) 2 (nI (q / 7 % 7))) 3 (nI (q % 7)))) 1)) 2 (sp_mb s ((upd (upd (upd (upd (r2 4) 0 (nI (q / 343))) 1 (nI (q / 49 % 7))) 2 (nI (q / 7 % 7))) 3 (nI (q % 7)))) 2))) 7 (bU s j nl q)) 8 (upd (r2 8) 0 (nI (q / 343)))))) C 15 (by decide) rfl 0 (tn_l 0) (show 0 < 4 by omega) (by decide) (eM_u_bestDrops c s (ts_s (ts_a (ts_s (ts_a r2 4 (upd (upd (upd (upd (r2 4) 0 (nI (q / 343))) 1 (nI (q / 49 % 7))) 2 (nI (q / 7 % 7))) 3 (nI (q % 7)))) 5 (sp_mk s ((upd (upd (upd (upd (r2 4) 0 (nI (q / 343))) 1 (nI (q / 49 % 7))) 2 (nI (q / 7 % 7))) 3 (nI (q % 7)))) 4)) 6 (upd (upd (upd (r2 6) 0 (sp_mb s ((upd (upd (upd (upd (r2 4) 0 (nI (q / 343))) 1 (nI (q / 49 % 7))) 2 (nI (q / 7 % 7))) 3 (nI (q % 7)))) 0)) 1 (sp_mb s ((upd (upd (upd (upd (r2 4) 0 (nI (q / 343))) 1 (nI (q / 49 % 7))) 2 (nI (q / 7 % 7))) 3 (nI (q % 7)))) 1)) 2 (sp_mb s ((upd (upd (upd (upd (r2 4) 0 (nI (q / 343))) 1 (nI (q / 49 % 7))) 2 (nI (q / 7 % 7))) 3 (nI (q % 7)))) 2))) 7 (bU s j nl q)) (upd (r2 8) 0 (nI (q / 343)))) dX8_findBest_165 ?_
                refine tv_iinc (v := 1) (lv' := [(5, .int 1), (4, .int (bU s j nl q)), (0, .ref (tv_ad c 0)), (1, .int p0), (2, .int (nI i)), (3, .int (nI q))]) C dX8_findBest_166 0 rfl (by decide) (by decide) rfl ?_
                refine tv_goto C 146 dX8_findBest_169 (by decide) ?_
                refine tv_iload C dX8_findBest_146 0 rfl ?_
                refine tv_iconst (v := 4) C dX8_findBest_148 (by decide) ?_
                refine tv_icmp_ge C 172 dX8_findBest_149 (by decide) (fun c_12 => absurd c_12 (by decide)) (fun c_12 => ?_)
                refine tv_aload_n C dX8_findBest_152 rfl 2 rfl ?_
                refine tv_get (ci := 8) (Cn := RX8) (T := TX8) (Nf := 35) (v := .ref (tv_ad c 15)) C 0 (by decide) rfl rfl in_X8_findBest_X8 28 (by decide) lk_X8_findBest_53 rfl dX8_findBest_153 ?_
                refine tv_iload C dX8_findBest_156 0 rfl ?_
                refine tv_aload_n C dX8_findBest_158 rfl 2 rfl ?_
                refine tv_get (ci := 8) (Cn := RX8) (T := TX8) (Nf := 35) (v := .ref (tv_ad c 13)) C 0 (by decide) rfl rfl in_X8_findBest_X8 24 (by decide) lk_X8_findBest_47 rfl dX8_findBest_159 ?_
                refine tv_iload C dX8_findBest_162 0 rfl ?_
                refine tv_iald (f := (upd (upd (upd (upd (r2 4) 0 (nI (q / 343))) 1 (nI (q / 49 % 7))) 2 (nI (q / 7 % 7))) 3 (nI (q % 7)))) (v := (nI (q / 49 % 7))) C 13 (by decide) rfl 1 (tn_l 1) (show 1 < 4 by omega) (by decide) rfl dX8_findBest_164 ?_
                refine tv_iast (E' := (eM c s (ts_a (ts_s (ts_a (ts_s (ts_a r2 4 (upd (upd (upd (upd (r2 4) 0 (nI (q / 343))) 1 (nI (q / 49 % 7))) 2 (nI (q / 7 % 7))) 3 (nI (q % 7)))) 5 (sp_mk s ((upd (upd (upd (upd (r2 4) 0 (nI (q / 343))) 1 (nI (q / 49 % 7))) 2 (nI (q / 7 % 7))) 3 (nI (q % 7)))) 4)) 6 (upd (upd (upd (r2 6) 0 (sp_mb s ((upd (upd (upd (upd (r2 4) 0 (nI (q / 343))) 1 (nI (q / 49 % 7))) 2 (nI (q / 7 % 7))) 3 (nI (q % 7)))) 0)) 1 (sp_mb s ((upd (upd (upd (upd (r2 4) 0 (nI (q / 343))) 1 (nI (q / 49 % 7))) 2 (nI (q / 7 % 7))) 3 (nI (q % 7)))) 1)) 2 (sp_mb s ((upd (upd (upd (upd (r2 4) 0 (nI (q / 343))) 1 (nI (q / 49 % 7))) 2 (nI (q / 7 % 7))) 3 (nI (q % 7)))) 2))) 7 (bU s j nl q)) 8 (upd (upd (r2 8) 0 (nI (q / 343))) 1 (nI (q / 49 % 7)))))) C 15 (by decide) rfl 1 (tn_l 1) (show 1 < 4 by omega) (by decide) ((eM_u_bestDrops c s (ts_a (ts_s (ts_a (ts_s (ts_a r2 4 (upd (upd (upd (upd (r2 4) 0 (nI (q / 343))) 1 (nI (q / 49 % 7))) 2 (nI (q / 7 % 7))) 3 (nI (q % 7)))) 5 (sp_mk s ((upd (upd (upd (upd (r2 4) 0 (nI (q / 343))) 1 (nI (q / 49 % 7))) 2 (nI (q / 7 % 7))) 3 (nI (q % 7)))) 4)) 6 (upd (upd (upd (r2 6) 0 (sp_mb s ((upd (upd (upd (upd (r2 4) 0 (nI (q / 343))) 1 (nI (q / 49 % 7))) 2 (nI (q / 7 % 7))) 3 (nI (q % 7)))) 0)) 1 (sp_mb s ((upd (upd (upd (upd (r2 4) 0 (nI (q / 343))) 1 (nI (q / 49 % 7))) 2 (nI (q / 7 % 7))) 3 (nI (q % 7)))) 1)) 2 (sp_mb s ((upd (upd (upd (upd (r2 4) 0 (nI (q / 343))) 1 (nI (q / 49 % 7))) 2 (nI (q / 7 % 7))) 3 (nI (q % 7)))) 2))) 7 (bU s j nl q)) 8 (upd (r2 8) 0 (nI (q / 343)))) (upd (upd (r2 8) 0 (nI (q / 343))) 1 (nI (q / 49 % 7)))).trans (by first | (rw [ts_mg]; done) | (rw [ts_mg]; rfl) | (rw [ts_ss]; done) | (rw [ts_ss]; rfl))) dX8_findBest_165 ?_
                refine tv_iinc (v := 2) (lv' := [(5, .int 2), (4, .int (bU s j nl q)), (0, .ref (tv_ad c 0)), (1, .int p0), (2, .int (nI i)), (3, .int (nI q))]) C dX8_findBest_166 0 rfl (by decide) (by decide) rfl ?_
                refine tv_goto C 146 dX8_findBest_169 (by decide) ?_
                refine tv_iload C dX8_findBest_146 0 rfl ?_
                refine tv_iconst (v := 4) C dX8_findBest_148 (by decide) ?_
                refine tv_icmp_ge C 172 dX8_findBest_149 (by decide) (fun c_13 => absurd c_13 (by decide)) (fun c_13 => ?_)
                refine tv_aload_n C dX8_findBest_152 rfl 2 rfl ?_
                refine tv_get (ci := 8) (Cn := RX8) (T := TX8) (Nf := 35) (v := .ref (tv_ad c 15)) C 0 (by decide) rfl rfl in_X8_findBest_X8 28 (by decide) lk_X8_findBest_53 rfl dX8_findBest_153 ?_
                refine tv_iload C dX8_findBest_156 0 rfl ?_
                refine tv_aload_n C dX8_findBest_158 rfl 2 rfl ?_
                refine tv_get (ci := 8) (Cn := RX8) (T := TX8) (Nf := 35) (v := .ref (tv_ad c 13)) C 0 (by decide) rfl rfl in_X8_findBest_X8 24 (by decide) lk_X8_findBest_47 rfl dX8_findBest_159 ?_
                refine tv_iload C dX8_findBest_162 0 rfl ?_
                refine tv_iald (f := (upd (upd (upd (upd (r2 4) 0 (nI (q / 343))) 1 (nI (q / 49 % 7))) 2 (nI (q / 7 % 7))) 3 (nI (q % 7)))) (v := (nI (q / 7 % 7))) C 13 (by decide) rfl 2 (tn_l 2) (show 2 < 4 by omega) (by decide) rfl dX8_findBest_164 ?_
                refine tv_iast (E' := (eM c s (ts_a (ts_s (ts_a (ts_s (ts_a r2 4 (upd (upd (upd (upd (r2 4) 0 (nI (q / 343))) 1 (nI (q / 49 % 7))) 2 (nI (q / 7 % 7))) 3 (nI (q % 7)))) 5 (sp_mk s ((upd (upd (upd (upd (r2 4) 0 (nI (q / 343))) 1 (nI (q / 49 % 7))) 2 (nI (q / 7 % 7))) 3 (nI (q % 7)))) 4)) 6 (upd (upd (upd (r2 6) 0 (sp_mb s ((upd (upd (upd (upd (r2 4) 0 (nI (q / 343))) 1 (nI (q / 49 % 7))) 2 (nI (q / 7 % 7))) 3 (nI (q % 7)))) 0)) 1 (sp_mb s ((upd (upd (upd (upd (r2 4) 0 (nI (q / 343))) 1 (nI (q / 49 % 7))) 2 (nI (q / 7 % 7))) 3 (nI (q % 7)))) 1)) 2 (sp_mb s ((upd (upd (upd (upd (r2 4) 0 (nI (q / 343))) 1 (nI (q / 49 % 7))) 2 (nI (q / 7 % 7))) 3 (nI (q % 7)))) 2))) 7 (bU s j nl q)) 8 (upd (upd (upd (r2 8) 0 (nI (q / 343))) 1 (nI (q / 49 % 7))) 2 (nI (q / 7 % 7)))))) C 15 (by decide) rfl 2 (tn_l 2) (show 2 < 4 by omega) (by decide) ((eM_u_bestDrops c s (ts_a (ts_s (ts_a (ts_s (ts_a r2 4 (upd (upd (upd (upd (r2 4) 0 (nI (q / 343))) 1 (nI (q / 49 % 7))) 2 (nI (q / 7 % 7))) 3 (nI (q % 7)))) 5 (sp_mk s ((upd (upd (upd (upd (r2 4) 0 (nI (q / 343))) 1 (nI (q / 49 % 7))) 2 (nI (q / 7 % 7))) 3 (nI (q % 7)))) 4)) 6 (upd (upd (upd (r2 6) 0 (sp_mb s ((upd (upd (upd (upd (r2 4) 0 (nI (q / 343))) 1 (nI (q / 49 % 7))) 2 (nI (q / 7 % 7))) 3 (nI (q % 7)))) 0)) 1 (sp_mb s ((upd (upd (upd (upd (r2 4) 0 (nI (q / 343))) 1 (nI (q / 49 % 7))) 2 (nI (q / 7 % 7))) 3 (nI (q % 7)))) 1)) 2 (sp_mb s ((upd (upd (upd (upd (r2 4) 0 (nI (q / 343))) 1 (nI (q / 49 % 7))) 2 (nI (q / 7 % 7))) 3 (nI (q % 7)))) 2))) 7 (bU s j nl q)) 8 (upd (upd (r2 8) 0 (nI (q / 343))) 1 (nI (q / 49 % 7)))) (upd (upd (upd (r2 8) 0 (nI (q / 343))) 1 (nI (q / 49 % 7))) 2 (nI (q / 7 % 7)))).trans (by first | (rw [ts_mg]; done) | (rw [ts_mg]; rfl) | (rw [ts_ss]; done) | (rw [ts_ss]; rfl))) dX8_findBest_165 ?_
                refine tv_iinc (v := 3) (lv' := [(5, .int 3), (4, .int (bU s j nl q)), (0, .ref (tv_ad c 0)), (1, .int p0), (2, .int (nI i)), (3, .int (nI q))]) C dX8_findBest_166 0 rfl (by decide) (by decide) rfl ?_
                refine tv_goto C 146 dX8_findBest_169 (by decide) ?_
                refine tv_iload C dX8_findBest_146 0 rfl ?_
                refine tv_iconst (v := 4) C dX8_findBest_148 (by decide) ?_
                refine tv_icmp_ge C 172 dX8_findBest_149 (by decide) (fun c_14 => absurd c_14 (by decide)) (fun c_14 => ?_)
                refine tv_aload_n C dX8_findBest_152 rfl 2 rfl ?_
                refine tv_get (ci := 8) (Cn := RX8) (T := TX8) (Nf := 35) (v := .ref (tv_ad c 15)) C 0 (by decide) rfl rfl in_X8_findBest_X8 28 (by decide) lk_X8_findBest_53 rfl dX8_findBest_153 ?_
                refine tv_iload C dX8_findBest_156 0 rfl ?_
                refine tv_aload_n C dX8_findBest_158 rfl 2 rfl ?_
                refine tv_get (ci := 8) (Cn := RX8) (T := TX8) (Nf := 35) (v := .ref (tv_ad c 13)) C 0 (by decide) rfl rfl in_X8_findBest_X8 24 (by decide) lk_X8_findBest_47 rfl dX8_findBest_159 ?_
                refine tv_iload C dX8_findBest_162 0 rfl ?_
                refine tv_iald (f := (upd (upd (upd (upd (r2 4) 0 (nI (q / 343))) 1 (nI (q / 49 % 7))) 2 (nI (q / 7 % 7))) 3 (nI (q % 7)))) (v := (nI (q % 7))) C 13 (by decide) rfl 3 (tn_l 3) (show 3 < 4 by omega) (by decide) rfl dX8_findBest_164 ?_
                refine tv_iast (E' := (eM c s (ts_a (ts_s (ts_a (ts_s (ts_a r2 4 (upd (upd (upd (upd (r2 4) 0 (nI (q / 343))) 1 (nI (q / 49 % 7))) 2 (nI (q / 7 % 7))) 3 (nI (q % 7)))) 5 (sp_mk s ((upd (upd (upd (upd (r2 4) 0 (nI (q / 343))) 1 (nI (q / 49 % 7))) 2 (nI (q / 7 % 7))) 3 (nI (q % 7)))) 4)) 6 (upd (upd (upd (r2 6) 0 (sp_mb s ((upd (upd (upd (upd (r2 4) 0 (nI (q / 343))) 1 (nI (q / 49 % 7))) 2 (nI (q / 7 % 7))) 3 (nI (q % 7)))) 0)) 1 (sp_mb s ((upd (upd (upd (upd (r2 4) 0 (nI (q / 343))) 1 (nI (q / 49 % 7))) 2 (nI (q / 7 % 7))) 3 (nI (q % 7)))) 1)) 2 (sp_mb s ((upd (upd (upd (upd (r2 4) 0 (nI (q / 343))) 1 (nI (q / 49 % 7))) 2 (nI (q / 7 % 7))) 3 (nI (q % 7)))) 2))) 7 (bU s j nl q)) 8 (upd (upd (upd (upd (r2 8) 0 (nI (q / 343))) 1 (nI (q / 49 % 7))) 2 (nI (q / 7 % 7))) 3 (nI (q % 7)))))) C 15 (by decide) rfl 3 (tn_l 3) (show 3 < 4 by omega) (by decide) ((eM_u_bestDrops c s (ts_a (ts_s (ts_a (ts_s (ts_a r2 4 (upd (upd (upd (upd (r2 4) 0 (nI (q / 343))) 1 (nI (q / 49 % 7))) 2 (nI (q / 7 % 7))) 3 (nI (q % 7)))) 5 (sp_mk s ((upd (upd (upd (upd (r2 4) 0 (nI (q / 343))) 1 (nI (q / 49 % 7))) 2 (nI (q / 7 % 7))) 3 (nI (q % 7)))) 4)) 6 (upd (upd (upd (r2 6) 0 (sp_mb s ((upd (upd (upd (upd (r2 4) 0 (nI (q / 343))) 1 (nI (q / 49 % 7))) 2 (nI (q / 7 % 7))) 3 (nI (q % 7)))) 0)) 1 (sp_mb s ((upd (upd (upd (upd (r2 4) 0 (nI (q / 343))) 1 (nI (q / 49 % 7))) 2 (nI (q / 7 % 7))) 3 (nI (q % 7)))) 1)) 2 (sp_mb s ((upd (upd (upd (upd (r2 4) 0 (nI (q / 343))) 1 (nI (q / 49 % 7))) 2 (nI (q / 7 % 7))) 3 (nI (q % 7)))) 2))) 7 (bU s j nl q)) 8 (upd (upd (upd (r2 8) 0 (nI (q / 343))) 1 (nI (q / 49 % 7))) 2 (nI (q / 7 % 7)))) (upd (upd (upd (upd (r2 8) 0 (nI (q / 343))) 1 (nI (q / 49 % 7))) 2 (nI (q / 7 % 7))) 3 (nI (q % 7)))).trans (by first | (rw [ts_mg]; done) | (rw [ts_mg]; rfl) | (rw [ts_ss]; done) | (rw [ts_ss]; rfl))) dX8_findBest_165 ?_
                refine tv_iinc (v := 4) (lv' := [(5, .int 4), (4, .int (bU s j nl q)), (0, .ref (tv_ad c 0)), (1, .int p0), (2, .int (nI i)), (3, .int (nI q))]) C dX8_findBest_166 0 rfl (by decide) (by decide) rfl ?_
                refine tv_goto C 146 dX8_findBest_169 (by decide) ?_
                refine tv_iload C dX8_findBest_146 0 rfl ?_
                refine tv_iconst (v := 4) C dX8_findBest_148 (by decide) ?_
                refine tv_icmp_ge C 172 dX8_findBest_149 (by decide) (fun c_15 => ?_) (fun c_15 => absurd (by decide) c_15)
                refine tv_iinc (v := ((nI q) + 1)) (lv' := [(3, .int ((nI q) + 1)), (5, .int 4), (4, .int (bU s j nl q)), (0, .ref (tv_ad c 0)), (1, .int p0), (2, .int (nI i))]) C dX8_findBest_172 5 rfl rfl (by decide) rfl ?_
                refine tv_goto C 16 dX8_findBest_175 (by decide) ?_
                refine tv_lsub [3, 4, 5, 0] rfl ?_
                exact ih16 (q + 1) _ (ts_a (ts_s (ts_a (ts_s (ts_a r2 4 (upd (upd (upd (upd (r2 4) 0 (nI (q / 343))) 1 (nI (q / 49 % 7))) 2 (nI (q / 7 % 7))) 3 (nI (q % 7)))) 5 (sp_mk s ((upd (upd (upd (upd (r2 4) 0 (nI (q / 343))) 1 (nI (q / 49 % 7))) 2 (nI (q / 7 % 7))) 3 (nI (q % 7)))) 4)) 6 (upd (upd (upd (r2 6) 0 (sp_mb s ((upd (upd (upd (upd (r2 4) 0 (nI (q / 343))) 1 (nI (q / 49 % 7))) 2 (nI (q / 7 % 7))) 3 (nI (q % 7)))) 0)) 1 (sp_mb s ((upd (upd (upd (upd (r2 4) 0 (nI (q / 343))) 1 (nI (q / 49 % 7))) 2 (nI (q / 7 % 7))) 3 (nI (q % 7)))) 1)) 2 (sp_mb s ((upd (upd (upd (upd (r2 4) 0 (nI (q / 343))) 1 (nI (q / 49 % 7))) 2 (nI (q / 7 % 7))) 3 (nI (q % 7)))) 2))) 7 (bU s j nl q)) 8 (upd (upd (upd (upd (r2 8) 0 (nI (q / 343))) 1 (nI (q / 49 % 7))) 2 (nI (q / 7 % 7))) 3 (nI (q % 7)))) (by omega) (by first | exact rM_first h1 hub (by decide) (by assumption) hg hD (bs_d4 (r2 8) q) | exact rM_better h1 (by assumption) hg hD (by assumption) (bs_d4 (r2 8) q)) (by first | rfl | exact nI_1 _ | (simp only [c_2, c_4, eq_true c_5, nc_5, c_7, eq_true c_10, if_true, ↓reduceIte]; done) | (simp [c_2, c_4, eq_true c_5, nc_5, c_7, eq_true c_10, if_true]; done) | (exfalso; clear hR C; simp_all; done))
              · skip
                refine tv_iload C dX8_findBest_128 0 rfl ?_
                refine tv_aload_n C dX8_findBest_130 rfl 1 rfl ?_
                refine tv_get (ci := 8) (Cn := RX8) (T := TX8) (Nf := 35) (v := .int (r2 7 0)) C 0 (by decide) rfl rfl in_X8_findBest_X8 27 (by decide) lk_X8_findBest_178 rfl dX8_findBest_131 ?_
                refine tv_icmp_ge C 172 dX8_findBest_134 (by decide) (fun c_16 => ?_) (fun c_16 => ?_)
                · skip
                  refine tv_iinc (v := ((nI q) + 1)) (lv' := [(3, .int ((nI q) + 1)), (4, .int (bU s j nl q)), (0, .ref (tv_ad c 0)), (1, .int p0), (2, .int (nI i))]) C dX8_findBest_172 4 rfl rfl (by decide) rfl ?_
                  refine tv_goto C 16 dX8_findBest_175 (by decide) ?_
                  refine tv_lsub [2, 3, 4, 0] rfl ?_
                  exact ih16 (q + 1) _ (ts_a (ts_s (ts_a r2 4 (upd (upd (upd (upd (r2 4) 0 (nI (q / 343))) 1 (nI (q / 49 % 7))) 2 (nI (q / 7 % 7))) 3 (nI (q % 7)))) 5 (sp_mk s ((upd (upd (upd (upd (r2 4) 0 (nI (q / 343))) 1 (nI (q / 49 % 7))) 2 (nI (q / 7 % 7))) 3 (nI (q % 7)))) 4)) 6 (upd (upd (upd (r2 6) 0 (sp_mb s ((upd (upd (upd (upd (r2 4) 0 (nI (q / 343))) 1 (nI (q / 49 % 7))) 2 (nI (q / 7 % 7))) 3 (nI (q % 7)))) 0)) 1 (sp_mb s ((upd (upd (upd (upd (r2 4) 0 (nI (q / 343))) 1 (nI (q / 49 % 7))) 2 (nI (q / 7 % 7))) 3 (nI (q % 7)))) 1)) 2 (sp_mb s ((upd (upd (upd (upd (r2 4) 0 (nI (q / 343))) 1 (nI (q / 49 % 7))) 2 (nI (q / 7 % 7))) 3 (nI (q % 7)))) 2))) (by omega) (by exact rM_keep h1 (by assumption) hD (by assumption)) (by first | rfl | exact nI_1 _ | (simp only [c_2, c_4, eq_true c_5, nc_5, c_7, c_10, c_16, tn_d_le c_16, if_true, ↓reduceIte]; done) | (simp [c_2, c_4, eq_true c_5, nc_5, c_7, c_10, c_16, tn_d_le c_16, if_true]; done) | (exfalso; clear hR C; simp_all; done))
                · skip
                  refine tv_aload_n C dX8_findBest_137 rfl 1 rfl ?_
                  refine tv_iload C dX8_findBest_138 0 rfl ?_
                  refine tv_put (ci := 8) (Cn := RX8) (T := TX8) (Nf := 35) (ty := .int) (E' := (eM c s (ts_s (ts_a (ts_s (ts_a r2 4 (upd (upd (upd (upd (r2 4) 0 (nI (q / 343))) 1 (nI (q / 49 % 7))) 2 (nI (q / 7 % 7))) 3 (nI (q % 7)))) 5 (sp_mk s ((upd (upd (upd (upd (r2 4) 0 (nI (q / 343))) 1 (nI (q / 49 % 7))) 2 (nI (q / 7 % 7))) 3 (nI (q % 7)))) 4)) 6 (upd (upd (upd (r2 6) 0 (sp_mb s ((upd (upd (upd (upd (r2 4) 0 (nI (q / 343))) 1 (nI (q / 49 % 7))) 2 (nI (q / 7 % 7))) 3 (nI (q % 7)))) 0)) 1 (sp_mb s ((upd (upd (upd (upd (r2 4) 0 (nI (q / 343))) 1 (nI (q / 49 % 7))) 2 (nI (q / 7 % 7))) 3 (nI (q % 7)))) 1)) 2 (sp_mb s ((upd (upd (upd (upd (r2 4) 0 (nI (q / 343))) 1 (nI (q / 49 % 7))) 2 (nI (q / 7 % 7))) 3 (nI (q % 7)))) 2))) 7 (bU s j nl q)))) C 0 (by decide) rfl rfl in_X8_findBest_X8 tyX8 tyX8_ok nmX8 27 (by decide) lk_X8_findBest_178 rfl (by decide +kernel) rfl rfl (Nat.le_of_ble_eq_true rfl) (eM_u_bestUnlike c s (ts_a (ts_s (ts_a r2 4 (upd (upd (upd (upd (r2 4) 0 (nI (q / 343))) 1 (nI (q / 49 % 7))) 2 (nI (q / 7 % 7))) 3 (nI (q % 7)))) 5 (sp_mk s ((upd (upd (upd (upd (r2 4) 0 (nI (q / 343))) 1 (nI (q / 49 % 7))) 2 (nI (q / 7 % 7))) 3 (nI (q % 7)))) 4)) 6 (upd (upd (upd (r2 6) 0 (sp_mb s ((upd (upd (upd (upd (r2 4) 0 (nI (q / 343))) 1 (nI (q / 49 % 7))) 2 (nI (q / 7 % 7))) 3 (nI (q % 7)))) 0)) 1 (sp_mb s ((upd (upd (upd (upd (r2 4) 0 (nI (q / 343))) 1 (nI (q / 49 % 7))) 2 (nI (q / 7 % 7))) 3 (nI (q % 7)))) 1)) 2 (sp_mb s ((upd (upd (upd (upd (r2 4) 0 (nI (q / 343))) 1 (nI (q / 49 % 7))) 2 (nI (q / 7 % 7))) 3 (nI (q % 7)))) 2))) (bU s j nl q)) dX8_findBest_140 ?_
                  refine tv_iconst (v := 0) C dX8_findBest_143 (by decide) ?_
                  refine tv_istore (lv' := [(5, .int 0), (4, .int (bU s j nl q)), (0, .ref (tv_ad c 0)), (1, .int p0), (2, .int (nI i)), (3, .int (nI q))]) C dX8_findBest_144 (by decide) rfl ?_
                  refine tv_iload C dX8_findBest_146 0 rfl ?_
                  refine tv_iconst (v := 4) C dX8_findBest_148 (by decide) ?_
                  refine tv_icmp_ge C 172 dX8_findBest_149 (by decide) (fun c_17 => absurd c_17 (by decide)) (fun c_17 => ?_)
                  refine tv_aload_n C dX8_findBest_152 rfl 2 rfl ?_
                  refine tv_get (ci := 8) (Cn := RX8) (T := TX8) (Nf := 35) (v := .ref (tv_ad c 15)) C 0 (by decide) rfl rfl in_X8_findBest_X8 28 (by decide) lk_X8_findBest_53 rfl dX8_findBest_153 ?_
                  refine tv_iload C dX8_findBest_156 0 rfl ?_
                  refine tv_aload_n C dX8_findBest_158 rfl 2 rfl ?_
                  refine tv_get (ci := 8) (Cn := RX8) (T := TX8) (Nf := 35) (v := .ref (tv_ad c 13)) C 0 (by decide) rfl rfl in_X8_findBest_X8 24 (by decide) lk_X8_findBest_47 rfl dX8_findBest_159 ?_
                  refine tv_iload C dX8_findBest_162 0 rfl ?_
                  refine tv_iald (f := (upd (upd (upd (upd (r2 4) 0 (nI (q / 343))) 1 (nI (q / 49 % 7))) 2 (nI (q / 7 % 7))) 3 (nI (q % 7)))) (v := (nI (q / 343))) C 13 (by decide) rfl 0 (tn_l 0) (show 0 < 4 by omega) (by decide) rfl dX8_findBest_164 ?_
                  refine tv_iast (E' := (eM c s (ts_a (ts_s (ts_a (ts_s (ts_a r2 4 (upd (upd (upd (upd (r2 4) 0 (nI (q / 343))) 1 (nI (q / 49 % 7))) 2 (nI (q / 7 % 7))) 3 (nI (q % 7)))) 5 (sp_mk s ((upd (upd (upd (upd (r2 4) 0 (nI (q / 343))) 1 (nI (q / 49 % 7))) 2 (nI (q / 7 % 7))) 3 (nI (q % 7)))) 4)) 6 (upd (upd (upd (r2 6) 0 (sp_mb s ((upd (upd (upd (upd (r2 4) 0 (nI (q / 343))) 1 (nI (q / 49 % 7))) 2 (nI (q / 7 % 7))) 3 (nI (q % 7)))) 0)) 1 (sp_mb s ((upd (upd (upd (upd (r2 4) 0 (nI (q / 343))) 1 (nI (q / 49 % 7))) 2 (nI (q / 7 % 7))) 3 (nI (q % 7)))) 1)) 2 (sp_mb s ((upd (upd (upd (upd (r2 4) 0 (nI (q / 343))) 1 (nI (q / 49 % 7))) 2 (nI (q / 7 % 7))) 3 (nI (q % 7)))) 2))) 7 (bU s j nl q)) 8 (upd (r2 8) 0 (nI (q / 343)))))) C 15 (by decide) rfl 0 (tn_l 0) (show 0 < 4 by omega) (by decide) (eM_u_bestDrops c s (ts_s (ts_a (ts_s (ts_a r2 4 (upd (upd (upd (upd (r2 4) 0 (nI (q / 343))) 1 (nI (q / 49 % 7))) 2 (nI (q / 7 % 7))) 3 (nI (q % 7)))) 5 (sp_mk s ((upd (upd (upd (upd (r2 4) 0 (nI (q / 343))) 1 (nI (q / 49 % 7))) 2 (nI (q / 7 % 7))) 3 (nI (q % 7)))) 4)) 6 (upd (upd (upd (r2 6) 0 (sp_mb s ((upd (upd (upd (upd (r2 4) 0 (nI (q / 343))) 1 (nI (q / 49 % 7))) 2 (nI (q / 7 % 7))) 3 (nI (q % 7)))) 0)) 1 (sp_mb s ((upd (upd (upd (upd (r2 4) 0 (nI (q / 343))) 1 (nI (q / 49 % 7))) 2 (nI (q / 7 % 7))) 3 (nI (q % 7)))) 1)) 2 (sp_mb s ((upd (upd (upd (upd (r2 4) 0 (nI (q / 343))) 1 (nI (q / 49 % 7))) 2 (nI (q / 7 % 7))) 3 (nI (q % 7)))) 2))) 7 (bU s j nl q)) (upd (r2 8) 0 (nI (q / 343)))) dX8_findBest_165 ?_
                  refine tv_iinc (v := 1) (lv' := [(5, .int 1), (4, .int (bU s j nl q)), (0, .ref (tv_ad c 0)), (1, .int p0), (2, .int (nI i)), (3, .int (nI q))]) C dX8_findBest_166 0 rfl (by decide) (by decide) rfl ?_
                  refine tv_goto C 146 dX8_findBest_169 (by decide) ?_
                  refine tv_iload C dX8_findBest_146 0 rfl ?_
                  refine tv_iconst (v := 4) C dX8_findBest_148 (by decide) ?_
                  refine tv_icmp_ge C 172 dX8_findBest_149 (by decide) (fun c_18 => absurd c_18 (by decide)) (fun c_18 => ?_)
                  refine tv_aload_n C dX8_findBest_152 rfl 2 rfl ?_
                  refine tv_get (ci := 8) (Cn := RX8) (T := TX8) (Nf := 35) (v := .ref (tv_ad c 15)) C 0 (by decide) rfl rfl in_X8_findBest_X8 28 (by decide) lk_X8_findBest_53 rfl dX8_findBest_153 ?_
                  refine tv_iload C dX8_findBest_156 0 rfl ?_
                  refine tv_aload_n C dX8_findBest_158 rfl 2 rfl ?_
                  refine tv_get (ci := 8) (Cn := RX8) (T := TX8) (Nf := 35) (v := .ref (tv_ad c 13)) C 0 (by decide) rfl rfl in_X8_findBest_X8 24 (by decide) lk_X8_findBest_47 rfl dX8_findBest_159 ?_
                  refine tv_iload C dX8_findBest_162 0 rfl ?_
                  refine tv_iald (f := (upd (upd (upd (upd (r2 4) 0 (nI (q / 343))) 1 (nI (q / 49 % 7))) 2 (nI (q / 7 % 7))) 3 (nI (q % 7)))) (v := (nI (q / 49 % 7))) C 13 (by decide) rfl 1 (tn_l 1) (show 1 < 4 by omega) (by decide) rfl dX8_findBest_164 ?_
                  refine tv_iast (E' := (eM c s (ts_a (ts_s (ts_a (ts_s (ts_a r2 4 (upd (upd (upd (upd (r2 4) 0 (nI (q / 343))) 1 (nI (q / 49 % 7))) 2 (nI (q / 7 % 7))) 3 (nI (q % 7)))) 5 (sp_mk s ((upd (upd (upd (upd (r2 4) 0 (nI (q / 343))) 1 (nI (q / 49 % 7))) 2 (nI (q / 7 % 7))) 3 (nI (q % 7)))) 4)) 6 (upd (upd (upd (r2 6) 0 (sp_mb s ((upd (upd (upd (upd (r2 4) 0 (nI (q / 343))) 1 (nI (q / 49 % 7))) 2 (nI (q / 7 % 7))) 3 (nI (q % 7)))) 0)) 1 (sp_mb s ((upd (upd (upd (upd (r2 4) 0 (nI (q / 343))) 1 (nI (q / 49 % 7))) 2 (nI (q / 7 % 7))) 3 (nI (q % 7)))) 1)) 2 (sp_mb s ((upd (upd (upd (upd (r2 4) 0 (nI (q / 343))) 1 (nI (q / 49 % 7))) 2 (nI (q / 7 % 7))) 3 (nI (q % 7)))) 2))) 7 (bU s j nl q)) 8 (upd (upd (r2 8) 0 (nI (q / 343))) 1 (nI (q / 49 % 7)))))) C 15 (by decide) rfl 1 (tn_l 1) (show 1 < 4 by omega) (by decide) ((eM_u_bestDrops c s (ts_a (ts_s (ts_a (ts_s (ts_a r2 4 (upd (upd (upd (upd (r2 4) 0 (nI (q / 343))) 1 (nI (q / 49 % 7))) 2 (nI (q / 7 % 7))) 3 (nI (q % 7)))) 5 (sp_mk s ((upd (upd (upd (upd (r2 4) 0 (nI (q / 343))) 1 (nI (q / 49 % 7))) 2 (nI (q / 7 % 7))) 3 (nI (q % 7)))) 4)) 6 (upd (upd (upd (r2 6) 0 (sp_mb s ((upd (upd (upd (upd (r2 4) 0 (nI (q / 343))) 1 (nI (q / 49 % 7))) 2 (nI (q / 7 % 7))) 3 (nI (q % 7)))) 0)) 1 (sp_mb s ((upd (upd (upd (upd (r2 4) 0 (nI (q / 343))) 1 (nI (q / 49 % 7))) 2 (nI (q / 7 % 7))) 3 (nI (q % 7)))) 1)) 2 (sp_mb s ((upd (upd (upd (upd (r2 4) 0 (nI (q / 343))) 1 (nI (q / 49 % 7))) 2 (nI (q / 7 % 7))) 3 (nI (q % 7)))) 2))) 7 (bU s j nl q)) 8 (upd (r2 8) 0 (nI (q / 343)))) (upd (upd (r2 8) 0 (nI (q / 343))) 1 (nI (q / 49 % 7)))).trans (by first | (rw [ts_mg]; done) | (rw [ts_mg]; rfl) | (rw [ts_ss]; done) | (rw [ts_ss]; rfl))) dX8_findBest_165 ?_
                  refine tv_iinc (v := 2) (lv' := [(5, .int 2), (4, .int (bU s j nl q)), (0, .ref (tv_ad c 0)), (1, .int p0), (2, .int (nI i)), (3, .int (nI q))]) C dX8_findBest_166 0 rfl (by decide) (by decide) rfl ?_
                  refine tv_goto C 146 dX8_findBest_169 (by decide) ?_
                  refine tv_iload C dX8_findBest_146 0 rfl ?_
                  refine tv_iconst (v := 4) C dX8_findBest_148 (by decide) ?_
                  refine tv_icmp_ge C 172 dX8_findBest_149 (by decide) (fun c_19 => absurd c_19 (by decide)) (fun c_19 => ?_)
                  refine tv_aload_n C dX8_findBest_152 rfl 2 rfl ?_
                  refine tv_get (ci := 8) (Cn := RX8) (T := TX8) (Nf := 35) (v := .ref (tv_ad c 15)) C 0 (by decide) rfl rfl in_X8_findBest_X8 28 (by decide) lk_X8_findBest_53 rfl dX8_findBest_153 ?_
                  refine tv_iload C dX8_findBest_156 0 rfl ?_
                  refine tv_aload_n C dX8_findBest_158 rfl 2 rfl ?_
                  refine tv_get (ci := 8) (Cn := RX8) (T := TX8) (Nf := 35) (v := .ref (tv_ad c 13)) C 0 (by decide) rfl rfl in_X8_findBest_X8 24 (by decide) lk_X8_findBest_47 rfl dX8_findBest_159 ?_
                  refine tv_iload C dX8_findBest_162 0 rfl ?_
                  refine tv_iald (f := (upd (upd (upd (upd (r2 4) 0 (nI (q / 343))) 1 (nI (q / 49 % 7))) 2 (nI (q / 7 % 7))) 3 (nI (q % 7)))) (v := (nI (q / 7 % 7))) C 13 (by decide) rfl 2 (tn_l 2) (show 2 < 4 by omega) (by decide) rfl dX8_findBest_164 ?_
                  refine tv_iast (E' := (eM c s (ts_a (ts_s (ts_a (ts_s (ts_a r2 4 (upd (upd (upd (upd (r2 4) 0 (nI (q / 343))) 1 (nI (q / 49 % 7))) 2 (nI (q / 7 % 7))) 3 (nI (q % 7)))) 5 (sp_mk s ((upd (upd (upd (upd (r2 4) 0 (nI (q / 343))) 1 (nI (q / 49 % 7))) 2 (nI (q / 7 % 7))) 3 (nI (q % 7)))) 4)) 6 (upd (upd (upd (r2 6) 0 (sp_mb s ((upd (upd (upd (upd (r2 4) 0 (nI (q / 343))) 1 (nI (q / 49 % 7))) 2 (nI (q / 7 % 7))) 3 (nI (q % 7)))) 0)) 1 (sp_mb s ((upd (upd (upd (upd (r2 4) 0 (nI (q / 343))) 1 (nI (q / 49 % 7))) 2 (nI (q / 7 % 7))) 3 (nI (q % 7)))) 1)) 2 (sp_mb s ((upd (upd (upd (upd (r2 4) 0 (nI (q / 343))) 1 (nI (q / 49 % 7))) 2 (nI (q / 7 % 7))) 3 (nI (q % 7)))) 2))) 7 (bU s j nl q)) 8 (upd (upd (upd (r2 8) 0 (nI (q / 343))) 1 (nI (q / 49 % 7))) 2 (nI (q / 7 % 7)))))) C 15 (by decide) rfl 2 (tn_l 2) (show 2 < 4 by omega) (by decide) ((eM_u_bestDrops c s (ts_a (ts_s (ts_a (ts_s (ts_a r2 4 (upd (upd (upd (upd (r2 4) 0 (nI (q / 343))) 1 (nI (q / 49 % 7))) 2 (nI (q / 7 % 7))) 3 (nI (q % 7)))) 5 (sp_mk s ((upd (upd (upd (upd (r2 4) 0 (nI (q / 343))) 1 (nI (q / 49 % 7))) 2 (nI (q / 7 % 7))) 3 (nI (q % 7)))) 4)) 6 (upd (upd (upd (r2 6) 0 (sp_mb s ((upd (upd (upd (upd (r2 4) 0 (nI (q / 343))) 1 (nI (q / 49 % 7))) 2 (nI (q / 7 % 7))) 3 (nI (q % 7)))) 0)) 1 (sp_mb s ((upd (upd (upd (upd (r2 4) 0 (nI (q / 343))) 1 (nI (q / 49 % 7))) 2 (nI (q / 7 % 7))) 3 (nI (q % 7)))) 1)) 2 (sp_mb s ((upd (upd (upd (upd (r2 4) 0 (nI (q / 343))) 1 (nI (q / 49 % 7))) 2 (nI (q / 7 % 7))) 3 (nI (q % 7)))) 2))) 7 (bU s j nl q)) 8 (upd (upd (r2 8) 0 (nI (q / 343))) 1 (nI (q / 49 % 7)))) (upd (upd (upd (r2 8) 0 (nI (q / 343))) 1 (nI (q / 49 % 7))) 2 (nI (q / 7 % 7)))).trans (by first | (rw [ts_mg]; done) | (rw [ts_mg]; rfl) | (rw [ts_ss]; done) | (rw [ts_ss]; rfl))) dX8_findBest_165 ?_
                  refine tv_iinc (v := 3) (lv' := [(5, .int 3), (4, .int (bU s j nl q)), (0, .ref (tv_ad c 0)), (1, .int p0), (2, .int (nI i)), (3, .int (nI q))]) C dX8_findBest_166 0 rfl (by decide) (by decide) rfl ?_
                  refine tv_goto C 146 dX8_findBest_169 (by decide) ?_
                  refine tv_iload C dX8_findBest_146 0 rfl ?_
                  refine tv_iconst (v := 4) C dX8_findBest_148 (by decide) ?_
                  refine tv_icmp_ge C 172 dX8_findBest_149 (by decide) (fun c_20 => absurd c_20 (by decide)) (fun c_20 => ?_)
                  refine tv_aload_n C dX8_findBest_152 rfl 2 rfl ?_
                  refine tv_get (ci := 8) (Cn := RX8) (T := TX8) (Nf := 35) (v := .ref (tv_ad c 15)) C 0 (by decide) rfl rfl in_X8_findBest_X8 28 (by decide) lk_X8_findBest_53 rfl dX8_findBest_153 ?_
                  refine tv_iload C dX8_findBest_156 0 rfl ?_
                  refine tv_aload_n C dX8_findBest_158 rfl 2 rfl ?_
                  refine tv_get (ci := 8) (Cn := RX8) (T := TX8) (Nf := 35) (v := .ref (tv_ad c 13)) C 0 (by decide) rfl rfl in_X8_findBest_X8 24 (by decide) lk_X8_findBest_47 rfl dX8_findBest_159 ?_
                  refine tv_iload C dX8_findBest_162 0 rfl ?_
                  refine tv_iald (f := (upd (upd (upd (upd (r2 4) 0 (nI (q / 343))) 1 (nI (q / 49 % 7))) 2 (nI (q / 7 % 7))) 3 (nI (q % 7)))) (v := (nI (q % 7))) C 13 (by decide) rfl 3 (tn_l 3) (show 3 < 4 by omega) (by decide) rfl dX8_findBest_164 ?_
                  refine tv_iast (E' := (eM c s (ts_a (ts_s (ts_a (ts_s (ts_a r2 4 (upd (upd (upd (upd (r2 4) 0 (nI (q / 343))) 1 (nI (q / 49 % 7))) 2 (nI (q / 7 % 7))) 3 (nI (q % 7)))) 5 (sp_mk s ((upd (upd (upd (upd (r2 4) 0 (nI (q / 343))) 1 (nI (q / 49 % 7))) 2 (nI (q / 7 % 7))) 3 (nI (q % 7)))) 4)) 6 (upd (upd (upd (r2 6) 0 (sp_mb s ((upd (upd (upd (upd (r2 4) 0 (nI (q / 343))) 1 (nI (q / 49 % 7))) 2 (nI (q / 7 % 7))) 3 (nI (q % 7)))) 0)) 1 (sp_mb s ((upd (upd (upd (upd (r2 4) 0 (nI (q / 343))) 1 (nI (q / 49 % 7))) 2 (nI (q / 7 % 7))) 3 (nI (q % 7)))) 1)) 2 (sp_mb s ((upd (upd (upd (upd (r2 4) 0 (nI (q / 343))) 1 (nI (q / 49 % 7))) 2 (nI (q / 7 % 7))) 3 (nI (q % 7)))) 2))) 7 (bU s j nl q)) 8 (upd (upd (upd (upd (r2 8) 0 (nI (q / 343))) 1 (nI (q / 49 % 7))) 2 (nI (q / 7 % 7))) 3 (nI (q % 7)))))) C 15 (by decide) rfl 3 (tn_l 3) (show 3 < 4 by omega) (by decide) ((eM_u_bestDrops c s (ts_a (ts_s (ts_a (ts_s (ts_a r2 4 (upd (upd (upd (upd (r2 4) 0 (nI (q / 343))) 1 (nI (q / 49 % 7))) 2 (nI (q / 7 % 7))) 3 (nI (q % 7)))) 5 (sp_mk s ((upd (upd (upd (upd (r2 4) 0 (nI (q / 343))) 1 (nI (q / 49 % 7))) 2 (nI (q / 7 % 7))) 3 (nI (q % 7)))) 4)) 6 (upd (upd (upd (r2 6) 0 (sp_mb s ((upd (upd (upd (upd (r2 4) 0 (nI (q / 343))) 1 (nI (q / 49 % 7))) 2 (nI (q / 7 % 7))) 3 (nI (q % 7)))) 0)) 1 (sp_mb s ((upd (upd (upd (upd (r2 4) 0 (nI (q / 343))) 1 (nI (q / 49 % 7))) 2 (nI (q / 7 % 7))) 3 (nI (q % 7)))) 1)) 2 (sp_mb s ((upd (upd (upd (upd (r2 4) 0 (nI (q / 343))) 1 (nI (q / 49 % 7))) 2 (nI (q / 7 % 7))) 3 (nI (q % 7)))) 2))) 7 (bU s j nl q)) 8 (upd (upd (upd (r2 8) 0 (nI (q / 343))) 1 (nI (q / 49 % 7))) 2 (nI (q / 7 % 7)))) (upd (upd (upd (upd (r2 8) 0 (nI (q / 343))) 1 (nI (q / 49 % 7))) 2 (nI (q / 7 % 7))) 3 (nI (q % 7)))).trans (by first | (rw [ts_mg]; done) | (rw [ts_mg]; rfl) | (rw [ts_ss]; done) | (rw [ts_ss]; rfl))) dX8_findBest_165 ?_
                  refine tv_iinc (v := 4) (lv' := [(5, .int 4), (4, .int (bU s j nl q)), (0, .ref (tv_ad c 0)), (1, .int p0), (2, .int (nI i)), (3, .int (nI q))]) C dX8_findBest_166 0 rfl (by decide) (by decide) rfl ?_
                  refine tv_goto C 146 dX8_findBest_169 (by decide) ?_
                  refine tv_iload C dX8_findBest_146 0 rfl ?_
                  refine tv_iconst (v := 4) C dX8_findBest_148 (by decide) ?_
                  refine tv_icmp_ge C 172 dX8_findBest_149 (by decide) (fun c_21 => ?_) (fun c_21 => absurd (by decide) c_21)
                  refine tv_iinc (v := ((nI q) + 1)) (lv' := [(3, .int ((nI q) + 1)), (5, .int 4), (4, .int (bU s j nl q)), (0, .ref (tv_ad c 0)), (1, .int p0), (2, .int (nI i))]) C dX8_findBest_172 5 rfl rfl (by decide) rfl ?_
                  refine tv_goto C 16 dX8_findBest_175 (by decide) ?_
                  refine tv_lsub [3, 4, 5, 0] rfl ?_
                  exact ih16 (q + 1) _ (ts_a (ts_s (ts_a (ts_s (ts_a r2 4 (upd (upd (upd (upd (r2 4) 0 (nI (q / 343))) 1 (nI (q / 49 % 7))) 2 (nI (q / 7 % 7))) 3 (nI (q % 7)))) 5 (sp_mk s ((upd (upd (upd (upd (r2 4) 0 (nI (q / 343))) 1 (nI (q / 49 % 7))) 2 (nI (q / 7 % 7))) 3 (nI (q % 7)))) 4)) 6 (upd (upd (upd (r2 6) 0 (sp_mb s ((upd (upd (upd (upd (r2 4) 0 (nI (q / 343))) 1 (nI (q / 49 % 7))) 2 (nI (q / 7 % 7))) 3 (nI (q % 7)))) 0)) 1 (sp_mb s ((upd (upd (upd (upd (r2 4) 0 (nI (q / 343))) 1 (nI (q / 49 % 7))) 2 (nI (q / 7 % 7))) 3 (nI (q % 7)))) 1)) 2 (sp_mb s ((upd (upd (upd (upd (r2 4) 0 (nI (q / 343))) 1 (nI (q / 49 % 7))) 2 (nI (q / 7 % 7))) 3 (nI (q % 7)))) 2))) 7 (bU s j nl q)) 8 (upd (upd (upd (upd (r2 8) 0 (nI (q / 343))) 1 (nI (q / 49 % 7))) 2 (nI (q / 7 % 7))) 3 (nI (q % 7)))) (by omega) (by first | exact rM_first h1 hub (by decide) (by assumption) hg hD (bs_d4 (r2 8) q) | exact rM_better h1 (by assumption) hg hD (by assumption) (bs_d4 (r2 8) q)) (by first | rfl | exact nI_1 _ | (simp only [c_2, c_4, eq_true c_5, nc_5, c_7, c_10, c_16, tn_d_nle c_16, if_true, ↓reduceIte]; done) | (simp [c_2, c_4, eq_true c_5, nc_5, c_7, c_10, c_16, tn_d_nle c_16, if_true]; done) | (exfalso; clear hR C; simp_all; done))
      refine tv_lsub [1, 2, 3, 0] rfl ?_
      exact hL16 (2401 - 0) 0 _ rr (by omega) (by exact h0) (by first | (simp only [c_2, if_true, ↓reduceIte]; done) | rfl | (simp [c_2, if_true]; done) | (exfalso; clear hR C; simp_all; done))
  refine tv_lsub [1, 2, 0] rfl ?_
  exact hL8 (7 - 1) 1 _ (ts_s r 7 (-9)) (by omega) (by exact rM_0 s j nl (r 8)) (by first | (simp only [if_true, ↓reduceIte]; done) | rfl | (simp [if_true]; done) | (exfalso; clear hR C; simp_all; done))
set_option maxHeartbeats 1000000 in
set_option maxRecDepth 100000 in
theorem kX8_best (c : tv_c) (s r : ts_T)  (p0 p1 : Int32) (hI : iv s) : tv_Mi c 19 yX8_best wsX8_best { frames := 6, cells := 0, slots := 0, locals := 154 } [.ref (tv_ad c 0), .int p0, .int p1] (eM c s r) (fun q_0 u_0 => q_0 = sp_best s p0 p1 ∧ ∃ r_0, u_0 = eM c s r_0) := by
  refine tv_metI (by decide +kernel) rfl rfl (Nat.le_of_ble_eq_true rfl) (fun X C hR => ?_)
  show tv_V c 19 X (eM c s r) 0 [(0, .ref (tv_ad c 0)), (1, .int p0), (2, .int p1)] []
  have hC := iv.hC hI
  obtain ⟨h, w, n, nk, nl, ny, nm, li, e2, e3, e9, hnw, hh, hw, hn, hz, hp, e7, hk, e8, hl, e4, hy, e5, hm, e6, hli, hcel, hkin, hban, hwei, hshe⟩ := id hI
  refine tv_aload_n C dX8_best_0 rfl 0 rfl ?_
  refine tv_iload_n C dX8_best_1 rfl 1 rfl ?_
  refine tv_calli (As := [.int p0]) (rest := []) (ci := 8) (cn := RX8) (T := TX8) (Nf := 35) C 0 (kX8_isCell c s r  p0 hC) gX8_best_X8_isCell rfl yd_X8_isCell ⟨rfl, rfl⟩ (by decide) (by decide) rfl rfl rfl rfl (Nat.le_of_ble_eq_true rfl) dX8_best_2 (fun q_1 u_1 z_1 => ?_)
  obtain ⟨rfl, rfl⟩ := z_1
  refine tv_if_ne C 10 dX8_best_5 (by decide) (fun c_2 => ?_) (fun c_2 => ?_)
  · skip
    obtain ⟨j_p0, hj_p0, ej_p0, ek_p0⟩ := in_ix e9 (by omega) c_2
    obtain ⟨fs_p0, ⟨b_p0, hb_p0, eb_p0⟩, fh_p0, fa_p0, fz_p0⟩ := hcel j_p0 hj_p0
    refine tv_iload_n C dX8_best_10 rfl 2 rfl ?_
    refine tv_iconst (v := (-1)) C dX8_best_11 (by decide) ?_
    refine tv_iconst (v := 3) C dX8_best_12 (by decide) ?_
    refine tv_callis (As := [.int p1, .int (-1), .int 3]) (rest := []) C (kX8_within c s r  p1 (-1) 3 ) gX8_best_X8_within rfl yd_X8_within ⟨rfl, rfl⟩ (by decide) rfl rfl (Nat.le_of_ble_eq_true rfl) dX8_best_13 (fun q_3 u_3 z_3 => ?_)
    obtain ⟨rfl, rfl⟩ := z_3
    refine tv_if_ne C 22 dX8_best_16 (by decide) (fun c_4 => ?_) (fun c_4 => ?_)
    · skip
      have h3 := in_m3 (p := p1) (by assumption)
      refine tv_aload_n C dX8_best_22 rfl 0 rfl ?_
      refine tv_iload_n C dX8_best_23 rfl 1 rfl ?_
      refine tv_callv (As := [.int p0]) (rest := []) (ci := 8) (cn := RX8) (T := TX8) (Nf := 35) C 0 (kX8_findBest c s r j_p0 p0 ej_p0 (by omega) hI (by rw [tk_e e9 (by omega)]; exact hj_p0)) gX8_best_X8_findBest rfl yd_X8_findBest ⟨rfl, rfl⟩ (by decide) (by decide) rfl rfl rfl rfl (Nat.le_of_ble_eq_true rfl) dX8_best_24 (fun u_5 z_5 => ?_)
      obtain ⟨r2, rfl, hv, hf⟩ := z_5
      show tv_V c 19 X (eM c s r2) 27 [(0, .ref (tv_ad c 0)), (1, .int p0), (2, .int p1)] []
      refine tv_iload_n C dX8_best_27 rfl 2 rfl ?_
      refine tv_iconst (v := (-1)) C dX8_best_28 (by decide) ?_
      refine tv_icmp_ne C 39 dX8_best_29 (by decide) (fun c_6 => ?_) (fun c_6 => ?_)
      · skip
        obtain ⟨-, -, b, hb, eb, ekb⟩ := h3.resolve_left (fun z => absurd z.1 (by assumption))
        refine tv_aload_n C dX8_best_39 rfl 0 rfl ?_
        refine tv_get (ci := 8) (Cn := RX8) (T := TX8) (Nf := 35) (v := .ref (tv_ad c 15)) C 0 (by decide) rfl rfl in_X8_best_X8 28 (by decide) lk_X8_best_53 rfl dX8_best_40 ?_
        refine tv_iload_n C dX8_best_43 rfl 2 rfl ?_
        refine tv_iald (f := (r2 8)) (v := (r2 8 b)) C 15 (by decide) rfl b eb (show b < 4 by omega) (by decide) rfl dX8_best_44 ?_
        exact hR _ _ _ _ dX8_best_45 ⟨by first | (rw [hv]; simp only [sp_best, c_2, ek_p0, c_4, c_6, ekb, ↓reduceIte]; done) | (rw [hf b hb]; simp only [sp_best, c_2, ek_p0, c_4, c_6, ekb, ↓reduceIte]; done), r2, by first | (simp only [c_2, ek_p0, c_4, c_6, ekb, if_true, ts_ss, ts_aa, ↓reduceIte]; done) | rfl | (simp [c_2, ek_p0, c_4, c_6, ekb, if_true, ts_ss, ts_aa]; done) | (exfalso; clear hR C; simp_all; done)⟩
      · skip
        refine tv_aload_n C dX8_best_32 rfl 0 rfl ?_
        refine tv_get (ci := 8) (Cn := RX8) (T := TX8) (Nf := 35) (v := .int (r2 7 0)) C 0 (by decide) rfl rfl in_X8_best_X8 27 (by decide) lk_X8_best_178 rfl dX8_best_33 ?_
        refine tv_goto C 45 dX8_best_36 (by decide) ?_
        exact hR _ _ _ _ dX8_best_45 ⟨by first | (rw [hv]; simp only [sp_best, c_2, ek_p0, c_4, eq_true c_6, ↓reduceIte]; done) | (rw [hf b hb]; simp only [sp_best, c_2, ek_p0, c_4, eq_true c_6, ↓reduceIte]; done), r2, by first | (simp only [c_2, ek_p0, c_4, eq_true c_6, if_true, ts_ss, ts_aa, ↓reduceIte]; done) | rfl | (simp [c_2, ek_p0, c_4, eq_true c_6, if_true, ts_ss, ts_aa]; done) | (exfalso; clear hR C; simp_all; done)⟩
    · skip
      refine tv_bipush (v := (-2)) C dX8_best_19 (by decide) ?_
      exact hR _ _ _ _ dX8_best_21 ⟨by simp only [sp_best, c_2, ek_p0, eq_true c_4, ↓reduceIte], r, by first | (simp only [c_2, ek_p0, eq_true c_4, if_true, ts_ss, ts_aa, ↓reduceIte]; done) | rfl | (simp [c_2, ek_p0, eq_true c_4, if_true, ts_ss, ts_aa]; done) | (exfalso; clear hR C; simp_all; done)⟩
  · skip
    refine tv_iconst (v := (-1)) C dX8_best_8 (by decide) ?_
    exact hR _ _ _ _ dX8_best_9 ⟨by simp only [sp_best, eq_true c_2, ↓reduceIte], r, by first | (simp only [eq_true c_2, if_true, ts_ss, ts_aa, ↓reduceIte]; done) | rfl | (simp [eq_true c_2, if_true, ts_ss, ts_aa]; done) | (exfalso; clear hR C; simp_all; done)⟩
