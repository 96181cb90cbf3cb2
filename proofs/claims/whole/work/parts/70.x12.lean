set_option maxRecDepth 20000 in
theorem in_X3_searchFor_X3 : ∀ w ∈ u_ws RX3 TX3 7, w ∈ wsX3_searchFor := by decide +kernel
set_option maxRecDepth 20000 in
theorem lk_X3_searchFor_28 : Cond.fieldLink RX3 28 (TX3 0).1 (TX3 0).2.1 (TX3 0).2.2.1 ∈ wsX3_searchFor := by decide +kernel
set_option maxRecDepth 20000 in
theorem wd_X3_searchFor_k75 : Cond.constant RX3 75 2147483647 ∈ wsX3_searchFor := by decide +kernel
set_option maxRecDepth 20000 in
theorem lk_X3_searchFor_76 : Cond.fieldLink RX3 76 (TX3 5).1 (TX3 5).2.1 (TX3 5).2.2.1 ∈ wsX3_searchFor := by decide +kernel
set_option maxRecDepth 20000 in
theorem lk_X3_searchFor_79 : Cond.fieldLink RX3 79 (TX3 6).1 (TX3 6).2.1 (TX3 6).2.2.1 ∈ wsX3_searchFor := by decide +kernel
theorem yd_X3_keepIfBetter : yX3_keepIfBetter.cls = RX3 ∧ yX3_keepIfBetter.cls ≠ "java/lang/invoke/MethodHandle" ∧ yX3_keepIfBetter.cls ≠ "java/lang/invoke/VarHandle" ∧ (parseMethodDescriptor yX3_keepIfBetter.desc).map (fun d => d.parameters.length) = some 0 := by decide +kernel
set_option maxRecDepth 20000 in
theorem lk_X3_searchFor_22 : Cond.fieldLink RX3 22 (TX3 3).1 (TX3 3).2.1 (TX3 3).2.2.1 ∈ wsX3_searchFor := by decide +kernel
set_option maxRecDepth 20000 in
theorem in_X7_best_X7 : ∀ w ∈ u_ws RX7 TX7 7, w ∈ wsX7_best := by decide +kernel
set_option maxRecDepth 20000 in
theorem lk_X7_best_20 : Cond.fieldLink RX7 20 (TX7 1).1 (TX7 1).2.1 (TX7 1).2.2.1 ∈ wsX7_best := by decide +kernel
set_option maxRecDepth 20000 in
theorem lk_X7_best_36 : Cond.fieldLink RX7 36 (TX7 3).1 (TX7 3).2.1 (TX7 3).2.2.1 ∈ wsX7_best := by decide +kernel
theorem yd_X3_searchFor : yX3_searchFor.cls = RX3 ∧ yX3_searchFor.cls ≠ "java/lang/invoke/MethodHandle" ∧ yX3_searchFor.cls ≠ "java/lang/invoke/VarHandle" ∧ (parseMethodDescriptor yX3_searchFor.desc).map (fun d => d.parameters.length) = some 1 := by decide +kernel
set_option maxRecDepth 20000 in
theorem in_X7_best_X3 : ∀ w ∈ u_ws RX3 TX3 7, w ∈ wsX7_best := by decide +kernel
set_option maxRecDepth 20000 in
theorem lk_X7_best_212 : Cond.fieldLink RX7 212 (TX3 4).1 (TX3 4).2.1 (TX3 4).2.2.1 ∈ wsX7_best := by decide +kernel
set_option maxRecDepth 20000 in
theorem lk_X7_best_209 : Cond.fieldLink RX7 209 (TX3 5).1 (TX3 5).2.1 (TX3 5).2.2.1 ∈ wsX7_best := by decide +kernel
set_option maxHeartbeats 1000000 in
set_option maxRecDepth 100000 in
theorem kX3_searchFor (c : tv_c) (s r : ts_T)  (j : Nat) (p0 : Int32) (e_p0 : p0 = nI j) (h_p0 : j < 24) (hI : iv s) (hj : j < tk (s 9 0)) : tv_Mv c 60 yX3_searchFor wsX3_searchFor { frames := 5, cells := 0, slots := 0, locals := 123 } [.ref (tv_ad c 9), .int p0] (eX c s r) (fun u_0 => ∃ r_0, u_0 = eX c s r_0 ∧ r_0 7 0 = bU s j (tk (s 8 0)) (bQ s j (tk (s 8 0))) ∧ ∀ i, i < 4 → r_0 5 i = br (bQ s j (tk (s 8 0))) i) := by
  refine tv_metV (by decide +kernel) rfl rfl (Nat.le_of_ble_eq_true rfl) (fun X C hR => ?_)
  show tv_V c 60 X (eX c s r) 0 [(0, .ref (tv_ad c 9)), (1, .int p0)] []
  have hC := iv.hC hI
  obtain ⟨h, w, n, nk, nl, ny, nm, li, e2, e3, e9, hnw, hh, hw, hn, hz, hp, e7, hk, e8, hl, e4, hy, e5, hm, e6, hli, hcel, hkin, hban, hwei, hshe⟩ := id hI
  rw [tk_e e9 (by omega)] at hj
  have ek8 := tk_e e8 (by omega)
  have hub := bU_b (nl := nl) (hcel j hj) hy hban ⟨nm, hm, e5⟩ hwei hl
  refine tv_iconst (v := 0) C dX3_searchFor_0 (by decide) ?_
  refine tv_istore_n (lv' := [(2, .int 0), (0, .ref (tv_ad c 9)), (1, .int p0)]) C dX3_searchFor_1 rfl (by decide) rfl ?_
  have hL2 : ∀ (k_2 m : Nat) (x_2_2 : Int32) (w_2 : Nat → va_E), m + k_2 = (2 * nl) → x_2_2 = (nI m) → w_2 = (eX c s (ts_a r 4 (mx_nw s (r 4) j m))) → tv_V c 60 X w_2 2 [(0, .ref (tv_ad c 9)), (1, .int p0), (2, .int x_2_2)] [] := by
    intro k_2
    induction k_2 with
    | zero =>
      intro m x_2_2 w_2 hi2  ex_2_2 ew_2
      subst ex_2_2
      subst ew_2
      have hN2 : m = (2 * nl) := by omega
      refine tv_iload_n C dX3_searchFor_2 rfl 2 rfl ?_
      refine tv_aload_n C dX3_searchFor_3 rfl 0 rfl ?_
      refine tv_get (ci := 3) (Cn := RX3) (T := TX3) (Nf := 7) (v := .ref (tv_ad c 2)) C 9 (by decide) rfl rfl in_X3_searchFor_X3 0 (by decide) lk_X3_searchFor_28 rfl dX3_searchFor_4 ?_
      refine tv_calli (As := []) (rest := [.int (nI m)]) (ci := 6) (cn := RX6) (T := TX6) (Nf := 11) C 2 (kX6_views c s (ts_a r 4 (mx_nw s (r 4) j m))   ) gX3_searchFor_X6_views rfl yd_X6_views ⟨rfl, rfl⟩ (by decide) (by decide) rfl rfl rfl rfl (Nat.le_of_ble_eq_true rfl) dX3_searchFor_7 (fun q_1 u_1 z_1 => ?_)
      obtain ⟨rfl, rfl⟩ := z_1
      show tv_V c 60 X (eX c s (ts_a r 4 (mx_nw s (r 4) j m))) 10 [(0, .ref (tv_ad c 9)), (1, .int p0), (2, .int (nI m))] [.int (2 * s 8 0), .int (nI m)]
      refine tv_icmp_ge C 48 dX3_searchFor_10 (by decide) (fun c_2 => ?_) (fun c_2 => absurd (tn_le (tn_mul (tn_l 2) e8) (rfl : nI m = nI m) (by omega) (by omega)) c_2)
      refine tv_aload_n C dX3_searchFor_48 rfl 0 rfl ?_
      refine tv_ldc (v := 2147483647) C wd_X3_searchFor_k75 dX3_searchFor_49 ?_
      refine tv_put (ci := 3) (Cn := RX3) (T := TX3) (Nf := 7) (ty := .int) (E' := (eX c s (ts_s (ts_a r 4 (mx_nw s (r 4) j m)) 7 2147483647))) C 9 (by decide) rfl rfl in_X3_searchFor_X3 tyX3 tyX3_ok nmX3 5 (by decide) lk_X3_searchFor_76 rfl (by decide +kernel) rfl rfl (Nat.le_of_ble_eq_true rfl) (eX_u_leastUnlike c s (ts_a r 4 (mx_nw s (r 4) j m)) 2147483647) dX3_searchFor_51 ?_
      refine tv_aload_n C dX3_searchFor_54 rfl 0 rfl ?_
      refine tv_iconst (v := 0) C dX3_searchFor_55 (by decide) ?_
      refine tv_put (ci := 3) (Cn := RX3) (T := TX3) (Nf := 7) (ty := .int) (E' := (eX c s (ts_s (ts_s (ts_a r 4 (mx_nw s (r 4) j m)) 7 2147483647) 8 0))) C 9 (by decide) rfl rfl in_X3_searchFor_X3 tyX3 tyX3_ok nmX3 6 (by decide) lk_X3_searchFor_79 rfl (by decide +kernel) rfl rfl (Nat.le_of_ble_eq_true rfl) (eX_u_fewestDrops c s (ts_s (ts_a r 4 (mx_nw s (r 4) j m)) 7 2147483647) 0) dX3_searchFor_56 ?_
      refine tv_bipush (v := 6) C dX3_searchFor_59 (by decide) ?_
      refine tv_istore_n (lv' := [(2, .int 6), (0, .ref (tv_ad c 9)), (1, .int p0)]) C dX3_searchFor_61 rfl (by decide) rfl ?_
      refine tv_iconst (v := 0) C dX3_searchFor_62 (by decide) ?_
      refine tv_istore_n (lv' := [(3, .int 0), (2, .int 6), (0, .ref (tv_ad c 9)), (1, .int p0)]) C dX3_searchFor_63 rfl (by decide) rfl ?_
      have hL64 : ∀ (k_64 i : Nat) (x_64_3 : Int32) (ra : ts_T), i + k_64 = 7 → (cM s j nl (ra 7 0) (ra 8 0) (ra 5) (343 * i)) → (∀ m, m < 2 * nl → ra 4 m = sp_ln s j (m / 2) (lk_z m)) → x_64_3 = (nI i) → tv_V c 60 X (eX c s ra) 64 [(0, .ref (tv_ad c 9)), (1, .int p0), (2, .int 6), (3, .int x_64_3)] [] := by
        intro k_64
        induction k_64 with
        | zero =>
          intro i x_64_3 ra hi64 ga na ex_64_3
          subst ex_64_3
          have hN64 : i = 7 := by omega
          refine tv_iload_n C dX3_searchFor_64 rfl 3 rfl ?_
          refine tv_iload_n C dX3_searchFor_65 rfl 2 rfl ?_
          refine tv_icmp_gt C 150 dX3_searchFor_66 (by decide) (fun c_3 => ?_) (fun c_3 => absurd (tn_lt (tn_l 6) (rfl : nI i = nI i) (by omega) (by omega)) c_3)
          exact hR _ _ _ dX3_searchFor_150 (by rw [hN64] at ga; rw [ek8]; exact ⟨ra, rfl, cM_end ga e7 (by omega) hk⟩)
        | succ k_64 ih64 =>
          intro i x_64_3 ra hi64 ga na ex_64_3
          subst ex_64_3
          have hN64 : i < 7 := by omega
          refine tv_iload_n C dX3_searchFor_64 rfl 3 rfl ?_
          refine tv_iload_n C dX3_searchFor_65 rfl 2 rfl ?_
          refine tv_icmp_gt C 150 dX3_searchFor_66 (by decide) (fun c_4 => absurd c_4 (tn_nlt (tn_l 6) (rfl : nI i = nI i) (by omega) (by omega))) (fun c_4 => ?_)
          refine tv_iconst (v := 0) C dX3_searchFor_69 (by decide) ?_
          refine tv_istore (lv' := [(4, .int 0), (0, .ref (tv_ad c 9)), (1, .int p0), (2, .int 6), (3, .int (nI i))]) C dX3_searchFor_70 (by decide) rfl ?_
          have hL72 : ∀ (k_72 a : Nat) (x_72_4 : Int32) (rb : ts_T), a + k_72 = (7 - i) → (cM s j nl (rb 7 0) (rb 8 0) (rb 5) (343 * i + 49 * a)) → (∀ m, m < 2 * nl → rb 4 m = sp_ln s j (m / 2) (lk_z m)) → x_72_4 = (nI a) → tv_V c 60 X (eX c s rb) 72 [(0, .ref (tv_ad c 9)), (1, .int p0), (2, .int 6), (3, .int (nI i)), (4, .int x_72_4)] [] := by
            intro k_72
            induction k_72 with
            | zero =>
              intro a x_72_4 rb hi72 gb nb ex_72_4
              subst ex_72_4
              have hN72 : a = (7 - i) := by omega
              refine tv_iload_n C dX3_searchFor_72 rfl 3 rfl ?_
              refine tv_iload C dX3_searchFor_73 4 rfl ?_
              refine tv_iadd C dX3_searchFor_75 ?_
              refine tv_iload_n C dX3_searchFor_76 rfl 2 rfl ?_
              refine tv_icmp_gt C 144 dX3_searchFor_77 (by decide) (fun c_5 => ?_) (fun c_5 => absurd (tn_lt (tn_l 6) (tn_add (rfl : nI i = nI i) (rfl : nI a = nI a)) (by omega) (by omega)) c_5)
              refine tv_iinc (v := ((nI i) + 1)) (lv' := [(3, .int ((nI i) + 1)), (0, .ref (tv_ad c 9)), (1, .int p0), (2, .int 6), (4, .int (nI a))]) C dX3_searchFor_144 3 rfl rfl (by decide) rfl ?_
              refine tv_goto C 64 dX3_searchFor_147 (by decide) ?_
              refine tv_lsub [1, 2, 3, 0] rfl ?_
              exact ih64 (i + 1) _ rb (by omega) (by exact cM_skip gb (fun x hx => by obtain ⟨i1, a1, b1, d1, y1, y2, y3, y4, y5, y6⟩ := bx_dig hx.1; have z2 := hx.2.1; rcases Nat.lt_trichotomy i1 i with z | z | z <;> first | omega | (subst z; omega))) (by exact nb) (by first | rfl | exact nI_1 _ | (simp only [c_2, c_4, c_5, if_true, ↓reduceIte]; done) | (simp [c_2, c_4, c_5, if_true]; done) | (exfalso; clear hR C; simp_all; done))
            | succ k_72 ih72 =>
              intro a x_72_4 rb hi72 gb nb ex_72_4
              subst ex_72_4
              have hN72 : a < (7 - i) := by omega
              refine tv_iload_n C dX3_searchFor_72 rfl 3 rfl ?_
              refine tv_iload C dX3_searchFor_73 4 rfl ?_
              refine tv_iadd C dX3_searchFor_75 ?_
              refine tv_iload_n C dX3_searchFor_76 rfl 2 rfl ?_
              refine tv_icmp_gt C 144 dX3_searchFor_77 (by decide) (fun c_6 => absurd c_6 (tn_nlt (tn_l 6) (tn_add (rfl : nI i = nI i) (rfl : nI a = nI a)) (by omega) (by omega))) (fun c_6 => ?_)
              refine tv_iconst (v := 0) C dX3_searchFor_80 (by decide) ?_
              refine tv_istore (lv' := [(5, .int 0), (0, .ref (tv_ad c 9)), (1, .int p0), (2, .int 6), (3, .int (nI i)), (4, .int (nI a))]) C dX3_searchFor_81 (by decide) rfl ?_
              have hL83 : ∀ (k_83 b : Nat) (x_83_5 : Int32) (rc : ts_T), b + k_83 = (7 - i - a) → (cM s j nl (rc 7 0) (rc 8 0) (rc 5) (343 * i + 49 * a + 7 * b)) → (∀ m, m < 2 * nl → rc 4 m = sp_ln s j (m / 2) (lk_z m)) → x_83_5 = (nI b) → tv_V c 60 X (eX c s rc) 83 [(0, .ref (tv_ad c 9)), (1, .int p0), (2, .int 6), (3, .int (nI i)), (4, .int (nI a)), (5, .int x_83_5)] [] := by
                intro k_83
                induction k_83 with
                | zero =>
                  intro b x_83_5 rc hi83 gc nc ex_83_5
                  subst ex_83_5
                  have hN83 : b = (7 - i - a) := by omega
                  refine tv_iload_n C dX3_searchFor_83 rfl 3 rfl ?_
                  refine tv_iload C dX3_searchFor_84 4 rfl ?_
                  refine tv_iadd C dX3_searchFor_86 ?_
                  refine tv_iload C dX3_searchFor_87 5 rfl ?_
                  refine tv_iadd C dX3_searchFor_89 ?_
                  refine tv_iload_n C dX3_searchFor_90 rfl 2 rfl ?_
                  refine tv_icmp_gt C 138 dX3_searchFor_91 (by decide) (fun c_7 => ?_) (fun c_7 => absurd (tn_lt (tn_l 6) (tn_add (tn_add (rfl : nI i = nI i) (rfl : nI a = nI a)) (rfl : nI b = nI b)) (by omega) (by omega)) c_7)
                  refine tv_iinc (v := ((nI a) + 1)) (lv' := [(4, .int ((nI a) + 1)), (0, .ref (tv_ad c 9)), (1, .int p0), (2, .int 6), (3, .int (nI i)), (5, .int (nI b))]) C dX3_searchFor_138 4 rfl rfl (by decide) rfl ?_
                  refine tv_goto C 72 dX3_searchFor_141 (by decide) ?_
                  refine tv_lsub [1, 2, 3, 4, 0] rfl ?_
                  exact ih72 (a + 1) _ rc (by omega) (by exact cM_skip gc (fun x hx => by obtain ⟨i1, a1, b1, d1, y1, y2, y3, y4, y5, y6⟩ := bx_dig hx.1; have z2 := hx.2.1; omega)) (by exact nc) (by first | rfl | exact nI_1 _ | (simp only [c_2, c_4, c_6, c_7, if_true, ↓reduceIte]; done) | (simp [c_2, c_4, c_6, c_7, if_true]; done) | (exfalso; clear hR C; simp_all; done))
                | succ k_83 ih83 =>
                  intro b x_83_5 rc hi83 gc nc ex_83_5
                  subst ex_83_5
                  have hN83 : b < (7 - i - a) := by omega
                  refine tv_iload_n C dX3_searchFor_83 rfl 3 rfl ?_
                  refine tv_iload C dX3_searchFor_84 4 rfl ?_
                  refine tv_iadd C dX3_searchFor_86 ?_
                  refine tv_iload C dX3_searchFor_87 5 rfl ?_
                  refine tv_iadd C dX3_searchFor_89 ?_
                  refine tv_iload_n C dX3_searchFor_90 rfl 2 rfl ?_
                  refine tv_icmp_gt C 138 dX3_searchFor_91 (by decide) (fun c_8 => absurd c_8 (tn_nlt (tn_l 6) (tn_add (tn_add (rfl : nI i = nI i) (rfl : nI a = nI a)) (rfl : nI b = nI b)) (by omega) (by omega))) (fun c_8 => ?_)
                  refine tv_iconst (v := 0) C dX3_searchFor_94 (by decide) ?_
                  refine tv_istore (lv' := [(6, .int 0), (0, .ref (tv_ad c 9)), (1, .int p0), (2, .int 6), (3, .int (nI i)), (4, .int (nI a)), (5, .int (nI b))]) C dX3_searchFor_95 (by decide) rfl ?_
                  have hL97 : ∀ (k_97 d : Nat) (x_97_6 : Int32) (rd : ts_T), d + k_97 = (7 - i - a - b) → (cM s j nl (rd 7 0) (rd 8 0) (rd 5) (343 * i + 49 * a + 7 * b + d)) → (∀ m, m < 2 * nl → rd 4 m = sp_ln s j (m / 2) (lk_z m)) → x_97_6 = (nI d) → tv_V c 60 X (eX c s rd) 97 [(0, .ref (tv_ad c 9)), (1, .int p0), (2, .int 6), (3, .int (nI i)), (4, .int (nI a)), (5, .int (nI b)), (6, .int x_97_6)] [] := by
                    intro k_97
                    induction k_97 with
                    | zero =>
                      intro d x_97_6 rd hi97 gd nd ex_97_6
                      subst ex_97_6
                      have hN97 : d = (7 - i - a - b) := by omega
                      refine tv_iload_n C dX3_searchFor_97 rfl 3 rfl ?_
                      refine tv_iload C dX3_searchFor_98 4 rfl ?_
                      refine tv_iadd C dX3_searchFor_100 ?_
                      refine tv_iload C dX3_searchFor_101 5 rfl ?_
                      refine tv_iadd C dX3_searchFor_103 ?_
                      refine tv_iload C dX3_searchFor_104 6 rfl ?_
                      refine tv_iadd C dX3_searchFor_106 ?_
                      refine tv_iload_n C dX3_searchFor_107 rfl 2 rfl ?_
                      refine tv_icmp_gt C 132 dX3_searchFor_108 (by decide) (fun c_9 => ?_) (fun c_9 => absurd (tn_lt (tn_l 6) (tn_add (tn_add (tn_add (rfl : nI i = nI i) (rfl : nI a = nI a)) (rfl : nI b = nI b)) (rfl : nI d = nI d)) (by omega) (by omega)) c_9)
                      refine tv_iinc (v := ((nI b) + 1)) (lv' := [(5, .int ((nI b) + 1)), (0, .ref (tv_ad c 9)), (1, .int p0), (2, .int 6), (3, .int (nI i)), (4, .int (nI a)), (6, .int (nI d))]) C dX3_searchFor_132 5 rfl rfl (by decide) rfl ?_
                      refine tv_goto C 83 dX3_searchFor_135 (by decide) ?_
                      refine tv_lsub [1, 2, 3, 4, 5, 0] rfl ?_
                      exact ih83 (b + 1) _ rd (by omega) (by exact cM_skip gd (fun x hx => by obtain ⟨i1, a1, b1, d1, y1, y2, y3, y4, y5, y6⟩ := bx_dig hx.1; have z2 := hx.2.1; omega)) (by exact nd) (by first | rfl | exact nI_1 _ | (simp only [c_2, c_4, c_6, c_8, c_9, if_true, ↓reduceIte]; done) | (simp [c_2, c_4, c_6, c_8, c_9, if_true]; done) | (exfalso; clear hR C; simp_all; done))
                    | succ k_97 ih97 =>
                      intro d x_97_6 rd hi97 gd nd ex_97_6
                      subst ex_97_6
                      have hN97 : d < (7 - i - a - b) := by omega
                      refine tv_iload_n C dX3_searchFor_97 rfl 3 rfl ?_
                      refine tv_iload C dX3_searchFor_98 4 rfl ?_
                      refine tv_iadd C dX3_searchFor_100 ?_
                      refine tv_iload C dX3_searchFor_101 5 rfl ?_
                      refine tv_iadd C dX3_searchFor_103 ?_
                      refine tv_iload C dX3_searchFor_104 6 rfl ?_
                      refine tv_iadd C dX3_searchFor_106 ?_
                      refine tv_iload_n C dX3_searchFor_107 rfl 2 rfl ?_
                      refine tv_icmp_gt C 132 dX3_searchFor_108 (by decide) (fun c_10 => absurd c_10 (tn_nlt (tn_l 6) (tn_add (tn_add (tn_add (rfl : nI i = nI i) (rfl : nI a = nI a)) (rfl : nI b = nI b)) (rfl : nI d = nI d)) (by omega) (by omega))) (fun c_10 => ?_)
                      refine tv_aload_n C dX3_searchFor_111 rfl 0 rfl ?_
                      refine tv_iload_n C dX3_searchFor_112 rfl 3 rfl ?_
                      refine tv_iload C dX3_searchFor_113 4 rfl ?_
                      refine tv_iload C dX3_searchFor_115 5 rfl ?_
                      refine tv_iload C dX3_searchFor_117 6 rfl ?_
                      refine tv_callv (As := [.int (nI i), .int (nI a), .int (nI b), .int (nI d)]) (rest := []) (ci := 3) (cn := RX3) (T := TX3) (Nf := 7) C 9 (kX3_pour c s rd  (nI i) (nI a) (nI b) (nI d) ) gX3_searchFor_X3_pour rfl yd_X3_pour ⟨rfl, rfl⟩ (by decide) (by decide) rfl rfl rfl rfl (Nat.le_of_ble_eq_true rfl) dX3_searchFor_119 (fun u_11 z_11 => ?_)
                      subst z_11
                      refine tv_aload_n C dX3_searchFor_122 rfl 0 rfl ?_
                      refine tv_callv (As := []) (rest := []) (ci := 3) (cn := RX3) (T := TX3) (Nf := 7) C 9 (kX3_keepIfBetter c s (ts_a rd 2 (sp_d4 (rd 2) (nI i) (nI a) (nI b) (nI d)))   hI) gX3_searchFor_X3_keepIfBetter rfl yd_X3_keepIfBetter ⟨rfl, rfl⟩ (by decide) (by decide) rfl rfl rfl rfl (Nat.le_of_ble_eq_true rfl) dX3_searchFor_123 (fun u_12 z_12 => ?_)
                      subst z_12
                      show tv_V c 60 X (eX c s (mx_kb s (ts_a rd 2 (sp_d4 (rd 2) (nI i) (nI a) (nI b) (nI d))))) 126 [(0, .ref (tv_ad c 9)), (1, .int p0), (2, .int 6), (3, .int (nI i)), (4, .int (nI a)), (5, .int (nI b)), (6, .int (nI d))] []
                      refine tv_iinc (v := ((nI d) + 1)) (lv' := [(6, .int ((nI d) + 1)), (0, .ref (tv_ad c 9)), (1, .int p0), (2, .int 6), (3, .int (nI i)), (4, .int (nI a)), (5, .int (nI b))]) C dX3_searchFor_126 6 rfl rfl (by decide) rfl ?_
                      refine tv_goto C 97 dX3_searchFor_129 (by decide) ?_
                      refine tv_lsub [1, 2, 3, 4, 5, 6, 0] rfl ?_
                      exact ih97 (d + 1) _ (mx_kb s (ts_a rd 2 (sp_d4 (rd 2) (nI i) (nI a) (nI b) (nI d)))) (by omega) (by exact (cM_kb gd (by omega) nd hub (by decide) hkin ek8).1) (by exact (cM_kb gd (by omega) nd hub (by decide) hkin ek8).2) (by first | rfl | exact nI_1 _ | (simp only [c_2, c_4, c_6, c_8, c_10, if_true, ↓reduceIte]; done) | (simp [c_2, c_4, c_6, c_8, c_10, if_true]; done) | (exfalso; clear hR C; simp_all; done))
                  refine tv_lsub [1, 2, 3, 4, 5, 6, 0] rfl ?_
                  exact hL97 ((7 - i - a - b) - 0) 0 _ rc (by omega) (by exact gc) (by exact nc) (by first | (simp only [c_2, c_4, c_6, c_8, if_true, ↓reduceIte]; done) | rfl | (simp [c_2, c_4, c_6, c_8, if_true]; done) | (exfalso; clear hR C; simp_all; done))
              refine tv_lsub [1, 2, 3, 4, 5, 0] rfl ?_
              exact hL83 ((7 - i - a) - 0) 0 _ rb (by omega) (by exact gb) (by exact nb) (by first | (simp only [c_2, c_4, c_6, if_true, ↓reduceIte]; done) | rfl | (simp [c_2, c_4, c_6, if_true]; done) | (exfalso; clear hR C; simp_all; done))
          refine tv_lsub [1, 2, 3, 4, 0] rfl ?_
          exact hL72 ((7 - i) - 0) 0 _ ra (by omega) (by exact ga) (by exact na) (by first | (simp only [c_2, c_4, if_true, ↓reduceIte]; done) | rfl | (simp [c_2, c_4, if_true]; done) | (exfalso; clear hR C; simp_all; done))
      refine tv_lsub [2, 3, 1, 0] rfl ?_
      exact hL64 (7 - 0) 0 _ (ts_s (ts_s (ts_a r 4 (mx_nw s (r 4) j m)) 7 2147483647) 8 0) (by omega) (by exact Or.inl ⟨rfl, rfl, fun x _ => Nat.not_lt_zero x⟩) (by intro x hx; show mx_nw s (r 4) j m x = _; unfold mx_nw; rw [if_pos (by omega)]) (by first | (simp only [c_2, if_true, ↓reduceIte]; done) | rfl | (simp [c_2, if_true]; done) | (exfalso; clear hR C; simp_all; done))
    | succ k_2 ih2 =>
      intro m x_2_2 w_2 hi2  ex_2_2 ew_2
      subst ex_2_2
      subst ew_2
      have hN2 : m < (2 * nl) := by omega
      refine tv_iload_n C dX3_searchFor_2 rfl 2 rfl ?_
      refine tv_aload_n C dX3_searchFor_3 rfl 0 rfl ?_
      refine tv_get (ci := 3) (Cn := RX3) (T := TX3) (Nf := 7) (v := .ref (tv_ad c 2)) C 9 (by decide) rfl rfl in_X3_searchFor_X3 0 (by decide) lk_X3_searchFor_28 rfl dX3_searchFor_4 ?_
      refine tv_calli (As := []) (rest := [.int (nI m)]) (ci := 6) (cn := RX6) (T := TX6) (Nf := 11) C 2 (kX6_views c s (ts_a r 4 (mx_nw s (r 4) j m))   ) gX3_searchFor_X6_views rfl yd_X6_views ⟨rfl, rfl⟩ (by decide) (by decide) rfl rfl rfl rfl (Nat.le_of_ble_eq_true rfl) dX3_searchFor_7 (fun q_13 u_13 z_13 => ?_)
      obtain ⟨rfl, rfl⟩ := z_13
      show tv_V c 60 X (eX c s (ts_a r 4 (mx_nw s (r 4) j m))) 10 [(0, .ref (tv_ad c 9)), (1, .int p0), (2, .int (nI m))] [.int (2 * s 8 0), .int (nI m)]
      refine tv_icmp_ge C 48 dX3_searchFor_10 (by decide) (fun c_14 => absurd c_14 (tn_nle (tn_mul (tn_l 2) e8) (rfl : nI m = nI m) (by omega) (by omega))) (fun c_14 => ?_)
      refine tv_aload_n C dX3_searchFor_13 rfl 0 rfl ?_
      refine tv_get (ci := 3) (Cn := RX3) (T := TX3) (Nf := 7) (v := .ref (tv_ad c 13)) C 9 (by decide) rfl rfl in_X3_searchFor_X3 3 (by decide) lk_X3_searchFor_22 rfl dX3_searchFor_14 ?_
      refine tv_iload_n C dX3_searchFor_17 rfl 2 rfl ?_
      refine tv_aload_n C dX3_searchFor_18 rfl 0 rfl ?_
      refine tv_get (ci := 3) (Cn := RX3) (T := TX3) (Nf := 7) (v := .ref (tv_ad c 2)) C 9 (by decide) rfl rfl in_X3_searchFor_X3 0 (by decide) lk_X3_searchFor_28 rfl dX3_searchFor_19 ?_
      refine tv_iload_n C dX3_searchFor_22 rfl 1 rfl ?_
      refine tv_iload_n C dX3_searchFor_23 rfl 2 rfl ?_
      refine tv_iconst (v := 2) C dX3_searchFor_24 (by decide) ?_
      refine tv_idiv C (by decide) dX3_searchFor_25 ?_
      refine tv_iload_n C dX3_searchFor_26 rfl 2 rfl ?_
      refine tv_iconst (v := 2) C dX3_searchFor_27 (by decide) ?_
      refine tv_irem C (by decide) dX3_searchFor_28 ?_
      refine tv_iconst (v := 1) C dX3_searchFor_29 (by decide) ?_
      refine tv_icmp_ne C 37 dX3_searchFor_30 (by decide) (fun c_15 => ?_) (fun c_15 => ?_)
      · skip
        have nc_15 : ¬ (m % 2) = 1 := tn_nf (tn_eqI (tn_rem (rfl : nI m = nI m) (tn_l 2) (by omega) (by omega) (by omega)) (tn_l 1) (by omega) (by omega)) c_15
        refine tv_iconst (v := 0) C dX3_searchFor_37 (by decide) ?_
        refine tv_calli (As := [.int p0, .int ((nI m) / 2), .int 0]) (rest := [.int (nI m), .ref (tv_ad c 13)]) (ci := 6) (cn := RX6) (T := TX6) (Nf := 11) C 2 (kX6_lookOfCell c s (ts_a r 4 (mx_nw s (r 4) j m)) j (m / 2) p0 ((nI m) / 2) 0 e_p0 (by omega) (tn_div (rfl : nI m = nI m) (tn_l 2) (by omega) (by omega) (by omega)) (by omega) (iv_c40 hy (hcel j hj)) hban ⟨nm, hm, e5⟩) gX3_searchFor_X6_lookOfCell rfl yd_X6_lookOfCell ⟨rfl, rfl⟩ (by decide) (by decide) rfl rfl rfl rfl (Nat.le_of_ble_eq_true rfl) dX3_searchFor_38 (fun q_16 u_16 z_16 => ?_)
        obtain ⟨rfl, rfl⟩ := z_16
        show tv_V c 60 X (eX c s (ts_a r 4 (mx_nw s (r 4) j m))) 41 [(0, .ref (tv_ad c 9)), (1, .int p0), (2, .int (nI m))] [.int (sp_ln s j (m / 2) 0), .int (nI m), .ref (tv_ad c 13)]
        refine tv_iast (E' := (eX c s (ts_a r 4 (upd (mx_nw s (r 4) j m) m (sp_ln s j (m / 2) 0))))) C 13 (by decide) rfl m (rfl : nI m = nI m) (show m < 8 by omega) (by decide) ((eX_u_now c s (ts_a r 4 (mx_nw s (r 4) j m)) (upd (mx_nw s (r 4) j m) m (sp_ln s j (m / 2) 0))).trans (by first | (rw [ts_mg]; done) | (rw [ts_mg]; rfl) | (rw [ts_ss]; done) | (rw [ts_ss]; rfl))) dX3_searchFor_41 ?_
        refine tv_iinc (v := ((nI m) + 1)) (lv' := [(2, .int ((nI m) + 1)), (0, .ref (tv_ad c 9)), (1, .int p0)]) C dX3_searchFor_42 2 rfl rfl (by decide) rfl ?_
        refine tv_goto C 2 dX3_searchFor_45 (by decide) ?_
        refine tv_lsub [1, 2, 0] rfl ?_
        exact ih2 (m + 1) _ _ (by omega)  (by first | rfl | exact nI_1 _ | (simp only [c_14, c_15, nc_15, if_true, ↓reduceIte]; done) | (simp [c_14, c_15, nc_15, if_true]; done) | (exfalso; clear hR C; simp_all; done)) (by first | (rw [← mx_nw_s, ← lk_z1 (by assumption)]; done) | (rw [← mx_nw_s, ← lk_z0 (by assumption)]; done))
      · skip
        have nc_15 : (m % 2) = 1 := (tn_eqI (tn_rem (rfl : nI m = nI m) (tn_l 2) (by omega) (by omega) (by omega)) (tn_l 1) (by omega) (by omega)).mp c_15
        refine tv_iconst (v := 1) C dX3_searchFor_33 (by decide) ?_
        refine tv_goto C 38 dX3_searchFor_34 (by decide) ?_
        refine tv_calli (As := [.int p0, .int ((nI m) / 2), .int 1]) (rest := [.int (nI m), .ref (tv_ad c 13)]) (ci := 6) (cn := RX6) (T := TX6) (Nf := 11) C 2 (kX6_lookOfCell c s (ts_a r 4 (mx_nw s (r 4) j m)) j (m / 2) p0 ((nI m) / 2) 1 e_p0 (by omega) (tn_div (rfl : nI m = nI m) (tn_l 2) (by omega) (by omega) (by omega)) (by omega) (iv_c40 hy (hcel j hj)) hban ⟨nm, hm, e5⟩) gX3_searchFor_X6_lookOfCell rfl yd_X6_lookOfCell ⟨rfl, rfl⟩ (by decide) (by decide) rfl rfl rfl rfl (Nat.le_of_ble_eq_true rfl) dX3_searchFor_38 (fun q_17 u_17 z_17 => ?_)
        obtain ⟨rfl, rfl⟩ := z_17
        show tv_V c 60 X (eX c s (ts_a r 4 (mx_nw s (r 4) j m))) 41 [(0, .ref (tv_ad c 9)), (1, .int p0), (2, .int (nI m))] [.int (sp_ln s j (m / 2) 1), .int (nI m), .ref (tv_ad c 13)]
        refine tv_iast (E' := (eX c s (ts_a r 4 (upd (mx_nw s (r 4) j m) m (sp_ln s j (m / 2) 1))))) C 13 (by decide) rfl m (rfl : nI m = nI m) (show m < 8 by omega) (by decide) ((eX_u_now c s (ts_a r 4 (mx_nw s (r 4) j m)) (upd (mx_nw s (r 4) j m) m (sp_ln s j (m / 2) 1))).trans (by first | (rw [ts_mg]; done) | (rw [ts_mg]; rfl) | (rw [ts_ss]; done) | (rw [ts_ss]; rfl))) dX3_searchFor_41 ?_
        refine tv_iinc (v := ((nI m) + 1)) (lv' := [(2, .int ((nI m) + 1)), (0, .ref (tv_ad c 9)), (1, .int p0)]) C dX3_searchFor_42 2 rfl rfl (by decide) rfl ?_
        refine tv_goto C 2 dX3_searchFor_45 (by decide) ?_
        refine tv_lsub [1, 2, 0] rfl ?_
        exact ih2 (m + 1) _ _ (by omega)  (by first | rfl | exact nI_1 _ | (simp only [c_14, eq_true c_15, nc_15, if_true, ↓reduceIte]; done) | (simp [c_14, eq_true c_15, nc_15, if_true]; done) | (exfalso; clear hR C; simp_all; done)) (by first | (rw [← mx_nw_s, ← lk_z1 (by assumption)]; done) | (rw [← mx_nw_s, ← lk_z0 (by assumption)]; done))
  refine tv_lsub [1, 2, 0] rfl ?_
  exact hL2 ((2 * nl) - 0) 0 _ _ (by omega)  (by first | (simp only [if_true, ↓reduceIte]; done) | rfl | (simp [if_true]; done) | (exfalso; clear hR C; simp_all; done)) (by rw [mx_nw_0, ts_id])
set_option maxHeartbeats 1000000 in
set_option maxRecDepth 100000 in
theorem kX7_best (c : tv_c) (s r : ts_T)  (p0 p1 : Int32) (hI : iv s) : tv_Mi c 60 yX7_best wsX7_best { frames := 6, cells := 0, slots := 0, locals := 149 } [.ref (tv_ad c 0), .int p0, .int p1] (eX c s r) (fun q_0 u_0 => q_0 = sp_best s p0 p1 ∧ ∃ r_0, u_0 = eX c s r_0) := by
  refine tv_metI (by decide +kernel) rfl rfl (Nat.le_of_ble_eq_true rfl) (fun X C hR => ?_)
  show tv_V c 60 X (eX c s r) 0 [(0, .ref (tv_ad c 0)), (1, .int p0), (2, .int p1)] []
  have hC := iv.hC hI
  obtain ⟨h, w, n, nk, nl, ny, nm, li, e2, e3, e9, hnw, hh, hw, hn, hz, hp, e7, hk, e8, hl, e4, hy, e5, hm, e6, hli, hcel, hkin, hban, hwei, hshe⟩ := id hI
  refine tv_aload_n C dX7_best_0 rfl 0 rfl ?_
  refine tv_get (ci := 7) (Cn := RX7) (T := TX7) (Nf := 7) (v := .ref (tv_ad c 2)) C 0 (by decide) rfl rfl in_X7_best_X7 1 (by decide) lk_X7_best_20 rfl dX7_best_1 ?_
  refine tv_iload_n C dX7_best_4 rfl 1 rfl ?_
  refine tv_calli (As := [.int p0]) (rest := []) (ci := 6) (cn := RX6) (T := TX6) (Nf := 11) C 2 (kX6_hasCell c s r  p0 ) gX7_best_X6_hasCell rfl yd_X6_hasCell ⟨rfl, rfl⟩ (by decide) (by decide) rfl rfl rfl rfl (Nat.le_of_ble_eq_true rfl) dX7_best_5 (fun q_1 u_1 z_1 => ?_)
  obtain ⟨rfl, rfl⟩ := z_1
  refine tv_if_ne C 13 dX7_best_8 (by decide) (fun c_2 => ?_) (fun c_2 => ?_)
  · skip
    obtain ⟨j_p0, hj_p0, ej_p0, ek_p0⟩ := in_ix e9 (by omega) c_2
    obtain ⟨fs_p0, ⟨b_p0, hb_p0, eb_p0⟩, fh_p0, fa_p0, fz_p0⟩ := hcel j_p0 hj_p0
    refine tv_iload_n C dX7_best_13 rfl 2 rfl ?_
    refine tv_iconst (v := (-1)) C dX7_best_14 (by decide) ?_
    refine tv_iconst (v := 3) C dX7_best_15 (by decide) ?_
    refine tv_callis (As := [.int p1, .int (-1), .int 3]) (rest := []) C (kX7_isWithin c s r  p1 (-1) 3 ) gX7_best_X7_isWithin rfl yd_X7_isWithin ⟨rfl, rfl⟩ (by decide) rfl rfl (Nat.le_of_ble_eq_true rfl) dX7_best_16 (fun q_3 u_3 z_3 => ?_)
    obtain ⟨rfl, rfl⟩ := z_3
    refine tv_if_ne C 25 dX7_best_19 (by decide) (fun c_4 => ?_) (fun c_4 => ?_)
    · skip
      have h3 := in_m3 (p := p1) (by assumption)
      refine tv_aload_n C dX7_best_25 rfl 0 rfl ?_
      refine tv_get (ci := 7) (Cn := RX7) (T := TX7) (Nf := 7) (v := .ref (tv_ad c 9)) C 0 (by decide) rfl rfl in_X7_best_X7 3 (by decide) lk_X7_best_36 rfl dX7_best_26 ?_
      refine tv_iload_n C dX7_best_29 rfl 1 rfl ?_
      refine tv_callv (As := [.int p0]) (rest := []) (ci := 3) (cn := RX3) (T := TX3) (Nf := 7) C 9 (kX3_searchFor c s r j_p0 p0 ej_p0 (by omega) hI (by rw [tk_e e9 (by omega)]; exact hj_p0)) gX7_best_X3_searchFor rfl yd_X3_searchFor ⟨rfl, rfl⟩ (by decide) (by decide) rfl rfl rfl rfl (Nat.le_of_ble_eq_true rfl) dX7_best_30 (fun u_5 z_5 => ?_)
      obtain ⟨r2, rfl, hv, hf⟩ := z_5
      show tv_V c 60 X (eX c s r2) 33 [(0, .ref (tv_ad c 0)), (1, .int p0), (2, .int p1)] []
      refine tv_iload_n C dX7_best_33 rfl 2 rfl ?_
      refine tv_if_ge C 47 dX7_best_34 (by decide) (fun c_6 => ?_) (fun c_6 => ?_)
      · skip
        obtain ⟨hm1, -, b, hb, eb, ekb⟩ := h3.resolve_left (fun z => absurd (by assumption) z.2)
        refine tv_aload_n C dX7_best_47 rfl 0 rfl ?_
        refine tv_get (ci := 7) (Cn := RX7) (T := TX7) (Nf := 7) (v := .ref (tv_ad c 9)) C 0 (by decide) rfl rfl in_X7_best_X7 3 (by decide) lk_X7_best_36 rfl dX7_best_48 ?_
        refine tv_get (ci := 3) (Cn := RX3) (T := TX3) (Nf := 7) (v := .ref (tv_ad c 14)) C 9 (by decide) rfl rfl in_X7_best_X3 4 (by decide) lk_X7_best_212 rfl dX7_best_51 ?_
        refine tv_iload_n C dX7_best_54 rfl 2 rfl ?_
        refine tv_iald (f := (r2 5)) (v := (r2 5 b)) C 14 (by decide) rfl b eb (show b < 4 by omega) (by decide) rfl dX7_best_55 ?_
        exact hR _ _ _ _ dX7_best_56 ⟨by first | (rw [hv]; simp only [sp_best, c_2, ek_p0, c_4, c_6, tn_d_le c_6, hm1, ekb, ↓reduceIte]; done) | (rw [hf b hb]; simp only [sp_best, c_2, ek_p0, c_4, c_6, tn_d_le c_6, hm1, ekb, ↓reduceIte]; done), r2, by first | (simp only [c_2, ek_p0, c_4, c_6, tn_d_le c_6, hm1, ekb, if_true, ts_ss, ts_aa, ↓reduceIte]; done) | rfl | (simp [c_2, ek_p0, c_4, c_6, tn_d_le c_6, hm1, ekb, if_true, ts_ss, ts_aa]; done) | (exfalso; clear hR C; simp_all; done)⟩
      · skip
        have hm1 := (h3.resolve_right (fun z => absurd z.2.1 (by assumption))).1
        refine tv_aload_n C dX7_best_37 rfl 0 rfl ?_
        refine tv_get (ci := 7) (Cn := RX7) (T := TX7) (Nf := 7) (v := .ref (tv_ad c 9)) C 0 (by decide) rfl rfl in_X7_best_X7 3 (by decide) lk_X7_best_36 rfl dX7_best_38 ?_
        refine tv_get (ci := 3) (Cn := RX3) (T := TX3) (Nf := 7) (v := .int (r2 7 0)) C 9 (by decide) rfl rfl in_X7_best_X3 5 (by decide) lk_X7_best_209 rfl dX7_best_41 ?_
        refine tv_goto C 56 dX7_best_44 (by decide) ?_
        exact hR _ _ _ _ dX7_best_56 ⟨by first | (rw [hv]; simp only [sp_best, c_2, ek_p0, c_4, c_6, tn_d_nle c_6, eq_true hm1, ↓reduceIte]; done) | (rw [hf b hb]; simp only [sp_best, c_2, ek_p0, c_4, c_6, tn_d_nle c_6, eq_true hm1, ↓reduceIte]; done), r2, by first | (simp only [c_2, ek_p0, c_4, c_6, tn_d_nle c_6, eq_true hm1, if_true, ts_ss, ts_aa, ↓reduceIte]; done) | rfl | (simp [c_2, ek_p0, c_4, c_6, tn_d_nle c_6, eq_true hm1, if_true, ts_ss, ts_aa]; done) | (exfalso; clear hR C; simp_all; done)⟩
    · skip
      refine tv_bipush (v := (-2)) C dX7_best_22 (by decide) ?_
      exact hR _ _ _ _ dX7_best_24 ⟨by simp only [sp_best, c_2, ek_p0, eq_true c_4, ↓reduceIte], r, by first | (simp only [c_2, ek_p0, eq_true c_4, if_true, ts_ss, ts_aa, ↓reduceIte]; done) | rfl | (simp [c_2, ek_p0, eq_true c_4, if_true, ts_ss, ts_aa]; done) | (exfalso; clear hR C; simp_all; done)⟩
  · skip
    refine tv_iconst (v := (-1)) C dX7_best_11 (by decide) ?_
    exact hR _ _ _ _ dX7_best_12 ⟨by simp only [sp_best, eq_true c_2, ↓reduceIte], r, by first | (simp only [eq_true c_2, if_true, ts_ss, ts_aa, ↓reduceIte]; done) | rfl | (simp [eq_true c_2, if_true, ts_ss, ts_aa]; done) | (exfalso; clear hR C; simp_all; done)⟩
