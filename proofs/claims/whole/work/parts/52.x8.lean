theorem rc_n1 {L i n : Int32} (hL : tn_b L 40) (h : ¬ sp_rc L i n = 0) : ∃ a d q : Nat, i = nI a ∧ n = nI d ∧ L = nI q ∧ q ≤ 40 ∧ a + d ≤ q ∧ tk i = a ∧ tk n = d := by
  unfold sp_rc at h
  split at h
  · exact absurd rfl h
  split at h
  · exact absurd rfl h
  split at h
  · exact absurd rfl h
  split at h
  · exact rc_nat hL (by assumption) (by assumption) (by assumption) (by assumption)
  · exact absurd rfl h
theorem yd_X3_isMix : yX3_isMix.cls = RX3 ∧ yX3_isMix.cls ≠ "java/lang/invoke/MethodHandle" ∧ yX3_isMix.cls ≠ "java/lang/invoke/VarHandle" ∧ (parseMethodDescriptor yX3_isMix.desc).map (fun d => d.parameters.length) = some 0 := by decide +kernel
theorem yd_X3_stir : yX3_stir.cls = RX3 ∧ yX3_stir.cls ≠ "java/lang/invoke/MethodHandle" ∧ yX3_stir.cls ≠ "java/lang/invoke/VarHandle" ∧ (parseMethodDescriptor yX3_stir.desc).map (fun d => d.parameters.length) = some 0 := by decide +kernel
theorem yd_X3_farthestApart : yX3_farthestApart.cls = RX3 ∧ yX3_farthestApart.cls ≠ "java/lang/invoke/MethodHandle" ∧ yX3_farthestApart.cls ≠ "java/lang/invoke/VarHandle" ∧ (parseMethodDescriptor yX3_farthestApart.desc).map (fun d => d.parameters.length) = some 0 := by decide +kernel
set_option maxRecDepth 20000 in
theorem in_X3_keepIfBetter_X3 : ∀ w ∈ u_ws RX3 TX3 7, w ∈ wsX3_keepIfBetter := by decide +kernel
set_option maxRecDepth 20000 in
theorem lk_X3_keepIfBetter_76 : Cond.fieldLink RX3 76 (TX3 5).1 (TX3 5).2.1 (TX3 5).2.2.1 ∈ wsX3_keepIfBetter := by decide +kernel
set_option maxRecDepth 20000 in
theorem lk_X3_keepIfBetter_79 : Cond.fieldLink RX3 79 (TX3 6).1 (TX3 6).2.1 (TX3 6).2.2.1 ∈ wsX3_keepIfBetter := by decide +kernel
set_option maxRecDepth 20000 in
theorem lk_X3_keepIfBetter_9 : Cond.fieldLink RX3 9 (TX3 1).1 (TX3 1).2.1 (TX3 1).2.2.1 ∈ wsX3_keepIfBetter := by decide +kernel
set_option maxRecDepth 20000 in
theorem lk_X3_keepIfBetter_25 : Cond.fieldLink RX3 25 (TX3 4).1 (TX3 4).2.1 (TX3 4).2.2.1 ∈ wsX3_keepIfBetter := by decide +kernel
set_option maxRecDepth 20000 in
theorem wd_X3_keepIfBetter_m100 : Cond.methodLink RX3 100 arraycopyName ∈ wsX3_keepIfBetter := by decide +kernel
set_option maxRecDepth 20000 in
theorem wd_X3_keepIfBetter_nat : Cond.native arraycopyName ∈ wsX3_keepIfBetter := by decide +kernel
set_option maxRecDepth 20000 in
theorem wd_X3_keepIfBetter_stc : Cond.static arraycopyName ∈ wsX3_keepIfBetter := by decide +kernel
set_option maxRecDepth 20000 in
theorem wd_X3_keepIfBetter_inis : Cond.initialized "java/lang/System" ∈ wsX3_keepIfBetter := by decide +kernel
set_option maxRecDepth 20000 in
theorem in_X7_copy_X7 : ∀ w ∈ u_ws RX7 TX7 7, w ∈ wsX7_copy := by decide +kernel
set_option maxRecDepth 20000 in
theorem lk_X7_copy_50 : Cond.fieldLink RX7 50 (TX7 6).1 (TX7 6).2.1 (TX7 6).2.2.1 ∈ wsX7_copy := by decide +kernel
set_option maxRecDepth 20000 in
theorem lk_X7_copy_13 : Cond.fieldLink RX7 13 (TX7 0).1 (TX7 0).2.1 (TX7 0).2.2.1 ∈ wsX7_copy := by decide +kernel
set_option maxRecDepth 20000 in
theorem in_X7_copy_X5 : ∀ w ∈ u_ws RX5 TX5 4, w ∈ wsX7_copy := by decide +kernel
set_option maxRecDepth 20000 in
theorem lk_X7_copy_251 : Cond.fieldLink RX7 251 (TX5 1).1 (TX5 1).2.1 (TX5 1).2.2.1 ∈ wsX7_copy := by decide +kernel
set_option maxRecDepth 20000 in
theorem lk_X7_copy_260 : Cond.fieldLink RX7 260 (TX5 2).1 (TX5 2).2.1 (TX5 2).2.2.1 ∈ wsX7_copy := by decide +kernel
set_option maxRecDepth 20000 in
theorem lk_X7_copy_254 : Cond.fieldLink RX7 254 (TX5 0).1 (TX5 0).2.1 (TX5 0).2.2.1 ∈ wsX7_copy := by decide +kernel
set_option maxRecDepth 20000 in
theorem wd_X7_copy_m263 : Cond.methodLink RX7 263 arraycopyName ∈ wsX7_copy := by decide +kernel
set_option maxRecDepth 20000 in
theorem wd_X7_copy_nat : Cond.native arraycopyName ∈ wsX7_copy := by decide +kernel
set_option maxRecDepth 20000 in
theorem wd_X7_copy_stc : Cond.static arraycopyName ∈ wsX7_copy := by decide +kernel
set_option maxRecDepth 20000 in
theorem wd_X7_copy_inis : Cond.initialized "java/lang/System" ∈ wsX7_copy := by decide +kernel
set_option maxRecDepth 20000 in
theorem in_X7_mix_X7 : ∀ w ∈ u_ws RX7 TX7 7, w ∈ wsX7_mix := by decide +kernel
set_option maxRecDepth 20000 in
theorem lk_X7_mix_36 : Cond.fieldLink RX7 36 (TX7 3).1 (TX7 3).2.1 (TX7 3).2.2.1 ∈ wsX7_mix := by decide +kernel
theorem yd_X3_pour : yX3_pour.cls = RX3 ∧ yX3_pour.cls ≠ "java/lang/invoke/MethodHandle" ∧ yX3_pour.cls ≠ "java/lang/invoke/VarHandle" ∧ (parseMethodDescriptor yX3_pour.desc).map (fun d => d.parameters.length) = some 4 := by decide +kernel
set_option maxRecDepth 20000 in
theorem lk_X7_mix_20 : Cond.fieldLink RX7 20 (TX7 1).1 (TX7 1).2.1 (TX7 1).2.2.1 ∈ wsX7_mix := by decide +kernel
set_option maxRecDepth 20000 in
theorem in_X7_mix_X6 : ∀ w ∈ u_ws RX6 TX6 11, w ∈ wsX7_mix := by decide +kernel
set_option maxRecDepth 20000 in
theorem lk_X7_mix_136 : Cond.fieldLink RX7 136 (TX6 6).1 (TX6 6).2.1 (TX6 6).2.2.1 ∈ wsX7_mix := by decide +kernel
set_option maxRecDepth 20000 in
theorem in_X7_mix_X1 : ∀ w ∈ u_ws RX1 TX1 2, w ∈ wsX7_mix := by decide +kernel
set_option maxRecDepth 20000 in
theorem lk_X7_mix_150 : Cond.fieldLink RX7 150 (TX1 1).1 (TX1 1).2.1 (TX1 1).2.2.1 ∈ wsX7_mix := by decide +kernel
set_option maxRecDepth 20000 in
theorem lk_X7_mix_155 : Cond.fieldLink RX7 155 (TX1 0).1 (TX1 0).2.1 (TX1 0).2.2.1 ∈ wsX7_mix := by decide +kernel
set_option maxHeartbeats 4000000 in
set_option maxRecDepth 100000 in
theorem kX3_keepIfBetter (c : tv_c) (s r : ts_T)  (hI : iv s) : tv_Fv c 60 yX3_keepIfBetter wsX3_keepIfBetter { frames := 4, cells := 0, slots := 0, locals := 101 } [.ref (tv_ad c 9)] (eX c s r) (eX c s (mx_kb s r)) := by
  refine tv_metV (by decide +kernel) rfl rfl (Nat.le_of_ble_eq_true rfl) (fun X C hR => ?_)
  show tv_V c 60 X (eX c s r) 0 [(0, .ref (tv_ad c 9))] []
  have hC := iv.hC hI
  obtain ⟨h, w, n, nk, nl, ny, nm, li, e2, e3, e9, hnw, hh, hw, hn, hz, hp, e7, hk, e8, hl, e4, hy, e5, hm, e6, hli, hcel, hkin, hban, hwei, hshe⟩ := id hI
  refine tv_aload_n C dX3_keepIfBetter_0 rfl 0 rfl ?_
  refine tv_calli (As := []) (rest := []) (ci := 3) (cn := RX3) (T := TX3) (Nf := 7) C 9 (kX3_isMix c s r   ) gX3_keepIfBetter_X3_isMix rfl yd_X3_isMix ⟨rfl, rfl⟩ (by decide) (by decide) rfl rfl rfl rfl (Nat.le_of_ble_eq_true rfl) dX3_keepIfBetter_1 (fun q_1 u_1 z_1 => ?_)
  obtain ⟨rfl, rfl⟩ := z_1
  refine tv_if_ne C 8 dX3_keepIfBetter_4 (by decide) (fun c_2 => ?_) (fun c_2 => ?_)
  · skip
    refine tv_aload_n C dX3_keepIfBetter_8 rfl 0 rfl ?_
    refine tv_callr (As := []) (rest := []) (ci := 3) (cn := RX3) (T := TX3) (Nf := 7) C 9 (kX3_stir c s r   (by assumption)) gX3_keepIfBetter_X3_stir rfl yd_X3_stir ⟨rfl, rfl⟩ (by decide) (by decide) rfl rfl rfl rfl (Nat.le_of_ble_eq_true rfl) dX3_keepIfBetter_9 (fun u_3 z_3 => ?_)
    subst z_3
    refine tv_pop C dX3_keepIfBetter_12 rfl ?_
    refine tv_aload_n C dX3_keepIfBetter_13 rfl 0 rfl ?_
    refine tv_calli (As := []) (rest := []) (ci := 3) (cn := RX3) (T := TX3) (Nf := 7) C 9 (kX3_sumOfDrops c s (ts_s (ts_a r 3 (upd (upd (upd (r 3) 0 (sp_mb s (r 2) 0)) 1 (sp_mb s (r 2) 1)) 2 (sp_mb s (r 2) 2))) 6 (s 15 (sp_li (r 2))))   ) gX3_keepIfBetter_X3_sumOfDrops rfl yd_X3_sumOfDrops ⟨rfl, rfl⟩ (by decide) (by decide) rfl rfl rfl rfl (Nat.le_of_ble_eq_true rfl) dX3_keepIfBetter_14 (fun q_4 u_4 z_4 => ?_)
    obtain ⟨rfl, rfl⟩ := z_4
    show tv_V c 60 X (eX c s (ts_s (ts_a r 3 (upd (upd (upd (r 3) 0 (sp_mb s (r 2) 0)) 1 (sp_mb s (r 2) 1)) 2 (sp_mb s (r 2) 2))) 6 (s 15 (sp_li (r 2))))) 17 [(0, .ref (tv_ad c 9))] [.int (sp_sd (r 2) 4)]
    refine tv_istore_n (lv' := [(1, .int (sp_sd (r 2) 4)), (0, .ref (tv_ad c 9))]) C dX3_keepIfBetter_17 rfl (by decide) rfl ?_
    refine tv_aload_n C dX3_keepIfBetter_18 rfl 1 rfl ?_
    refine tv_calli (As := []) (rest := []) (ci := 3) (cn := RX3) (T := TX3) (Nf := 7) C 9 (kX3_farthestApart c s (ts_s (ts_a r 3 (upd (upd (upd (r 3) 0 (sp_mb s (r 2) 0)) 1 (sp_mb s (r 2) 1)) 2 (sp_mb s (r 2) 2))) 6 (s 15 (sp_li (r 2))))   hI (st_mb (by assumption) hban)) gX3_keepIfBetter_X3_farthestApart rfl yd_X3_farthestApart ⟨rfl, rfl⟩ (by decide) (by decide) rfl rfl rfl rfl (Nat.le_of_ble_eq_true rfl) dX3_keepIfBetter_19 (fun q_5 u_5 z_5 => ?_)
    obtain ⟨rfl, rfl⟩ := z_5
    show tv_V c 60 X (eX c s (ts_s (ts_a r 3 (upd (upd (upd (r 3) 0 (sp_mb s (r 2) 0)) 1 (sp_mb s (r 2) 1)) 2 (sp_mb s (r 2) 2))) 6 (s 15 (sp_li (r 2))))) 22 [(1, .int (sp_sd (r 2) 4)), (0, .ref (tv_ad c 9))] [.int (sp_ff s (mx_st s r) (2 * tk (s 8 0)))]
    refine tv_istore_n (lv' := [(2, .int (sp_ff s (mx_st s r) (2 * tk (s 8 0)))), (1, .int (sp_sd (r 2) 4)), (0, .ref (tv_ad c 9))]) C dX3_keepIfBetter_22 rfl (by decide) rfl ?_
    refine tv_iload_n C dX3_keepIfBetter_23 rfl 0 rfl ?_
    refine tv_aload_n C dX3_keepIfBetter_24 rfl 2 rfl ?_
    refine tv_get (ci := 3) (Cn := RX3) (T := TX3) (Nf := 7) (v := .int (r 7 0)) C 9 (by decide) rfl rfl in_X3_keepIfBetter_X3 5 (by decide) lk_X3_keepIfBetter_76 rfl dX3_keepIfBetter_25 ?_
    refine tv_icmp_lt C 47 dX3_keepIfBetter_28 (by decide) (fun c_6 => ?_) (fun c_6 => ?_)
    · skip
      refine tv_aload_n C dX3_keepIfBetter_47 rfl 2 rfl ?_
      refine tv_iload_n C dX3_keepIfBetter_48 rfl 0 rfl ?_
      refine tv_put (ci := 3) (Cn := RX3) (T := TX3) (Nf := 7) (ty := .int) (E' := (eX c s (ts_s (ts_s (ts_a r 3 (upd (upd (upd (r 3) 0 (sp_mb s (r 2) 0)) 1 (sp_mb s (r 2) 1)) 2 (sp_mb s (r 2) 2))) 6 (s 15 (sp_li (r 2)))) 7 (sp_ff s (mx_st s r) (2 * tk (s 8 0)))))) C 9 (by decide) rfl rfl in_X3_keepIfBetter_X3 tyX3 tyX3_ok nmX3 5 (by decide) lk_X3_keepIfBetter_76 rfl (by decide +kernel) rfl rfl (Nat.le_of_ble_eq_true rfl) (eX_u_leastUnlike c s (ts_s (ts_a r 3 (upd (upd (upd (r 3) 0 (sp_mb s (r 2) 0)) 1 (sp_mb s (r 2) 1)) 2 (sp_mb s (r 2) 2))) 6 (s 15 (sp_li (r 2)))) (sp_ff s (mx_st s r) (2 * tk (s 8 0)))) dX3_keepIfBetter_49 ?_
      refine tv_aload_n C dX3_keepIfBetter_52 rfl 2 rfl ?_
      refine tv_iload_n C dX3_keepIfBetter_53 rfl 1 rfl ?_
      refine tv_put (ci := 3) (Cn := RX3) (T := TX3) (Nf := 7) (ty := .int) (E' := (eX c s (ts_s (ts_s (ts_s (ts_a r 3 (upd (upd (upd (r 3) 0 (sp_mb s (r 2) 0)) 1 (sp_mb s (r 2) 1)) 2 (sp_mb s (r 2) 2))) 6 (s 15 (sp_li (r 2)))) 7 (sp_ff s (mx_st s r) (2 * tk (s 8 0)))) 8 (sp_sd (r 2) 4)))) C 9 (by decide) rfl rfl in_X3_keepIfBetter_X3 tyX3 tyX3_ok nmX3 6 (by decide) lk_X3_keepIfBetter_79 rfl (by decide +kernel) rfl rfl (Nat.le_of_ble_eq_true rfl) (eX_u_fewestDrops c s (ts_s (ts_s (ts_a r 3 (upd (upd (upd (r 3) 0 (sp_mb s (r 2) 0)) 1 (sp_mb s (r 2) 1)) 2 (sp_mb s (r 2) 2))) 6 (s 15 (sp_li (r 2)))) 7 (sp_ff s (mx_st s r) (2 * tk (s 8 0)))) (sp_sd (r 2) 4)) dX3_keepIfBetter_54 ?_
      refine tv_aload_n C dX3_keepIfBetter_57 rfl 2 rfl ?_
      refine tv_get (ci := 3) (Cn := RX3) (T := TX3) (Nf := 7) (v := .ref (tv_ad c 10)) C 9 (by decide) rfl rfl in_X3_keepIfBetter_X3 1 (by decide) lk_X3_keepIfBetter_9 rfl dX3_keepIfBetter_58 ?_
      refine tv_iconst (v := 0) C dX3_keepIfBetter_61 (by decide) ?_
      refine tv_aload_n C dX3_keepIfBetter_62 rfl 2 rfl ?_
      refine tv_get (ci := 3) (Cn := RX3) (T := TX3) (Nf := 7) (v := .ref (tv_ad c 14)) C 9 (by decide) rfl rfl in_X3_keepIfBetter_X3 4 (by decide) lk_X3_keepIfBetter_25 rfl dX3_keepIfBetter_63 ?_
      refine tv_iconst (v := 0) C dX3_keepIfBetter_66 (by decide) ?_
      refine tv_iconst (v := 4) C dX3_keepIfBetter_67 (by decide) ?_
      refine tv_copy (f := (r 2)) (g := (r 5)) (E' := (eX c s (ts_a (ts_s (ts_s (ts_s (ts_a r 3 (upd (upd (upd (r 3) 0 (sp_mb s (r 2) 0)) 1 (sp_mb s (r 2) 1)) 2 (sp_mb s (r 2) 2))) 6 (s 15 (sp_li (r 2)))) 7 (sp_ff s (mx_st s r) (2 * tk (s 8 0)))) 8 (sp_sd (r 2) 4)) 5 (va_cpy (r 2) (r 5) 0 0 4)))) C wd_X3_keepIfBetter_m100 wd_X3_keepIfBetter_nat wd_X3_keepIfBetter_stc wd_X3_keepIfBetter_inis (by decide) (by decide) 10 14 (by decide) (by decide) rfl rfl 0 0 4 (tn_l 0) (tn_l 0) (tn_l 4) (by decide) (by decide) (by decide) (by decide) (eX_u_bestDrops c s (ts_s (ts_s (ts_s (ts_a r 3 (upd (upd (upd (r 3) 0 (sp_mb s (r 2) 0)) 1 (sp_mb s (r 2) 1)) 2 (sp_mb s (r 2) 2))) 6 (s 15 (sp_li (r 2)))) 7 (sp_ff s (mx_st s r) (2 * tk (s 8 0)))) 8 (sp_sd (r 2) 4)) (va_cpy (r 2) (r 5) 0 0 4)) dX3_keepIfBetter_68 ?_
      show tv_V c 60 X (eX c s (ts_a (ts_s (ts_s (ts_s (ts_a r 3 (upd (upd (upd (r 3) 0 (sp_mb s (r 2) 0)) 1 (sp_mb s (r 2) 1)) 2 (sp_mb s (r 2) 2))) 6 (s 15 (sp_li (r 2)))) 7 (sp_ff s (mx_st s r) (2 * tk (s 8 0)))) 8 (sp_sd (r 2) 4)) 5 (va_cpy (r 2) (r 5) 0 0 4))) 71 [(2, .int (sp_ff s (mx_st s r) (2 * tk (s 8 0)))), (1, .int (sp_sd (r 2) 4)), (0, .ref (tv_ad c 9))] []
      exact hR _ _ _ dX3_keepIfBetter_71 (by simp only [mx_kb, c_2, c_6, tn_d_lt c_6, ↓reduceIte]; rfl)
    · skip
      refine tv_iload_n C dX3_keepIfBetter_31 rfl 0 rfl ?_
      refine tv_aload_n C dX3_keepIfBetter_32 rfl 2 rfl ?_
      refine tv_get (ci := 3) (Cn := RX3) (T := TX3) (Nf := 7) (v := .int (r 7 0)) C 9 (by decide) rfl rfl in_X3_keepIfBetter_X3 5 (by decide) lk_X3_keepIfBetter_76 rfl dX3_keepIfBetter_33 ?_
      refine tv_icmp_ne C 71 dX3_keepIfBetter_36 (by decide) (fun c_7 => ?_) (fun c_7 => ?_)
      · skip
        exact hR _ _ _ dX3_keepIfBetter_71 (by simp only [mx_kb, c_2, c_6, tn_d_nlt c_6, c_7, ↓reduceIte]; rfl)
      · skip
        refine tv_iload_n C dX3_keepIfBetter_39 rfl 1 rfl ?_
        refine tv_aload_n C dX3_keepIfBetter_40 rfl 2 rfl ?_
        refine tv_get (ci := 3) (Cn := RX3) (T := TX3) (Nf := 7) (v := .int (r 8 0)) C 9 (by decide) rfl rfl in_X3_keepIfBetter_X3 6 (by decide) lk_X3_keepIfBetter_79 rfl dX3_keepIfBetter_41 ?_
        refine tv_icmp_ge C 71 dX3_keepIfBetter_44 (by decide) (fun c_8 => ?_) (fun c_8 => ?_)
        · skip
          exact hR _ _ _ dX3_keepIfBetter_71 (by simp only [mx_kb, c_2, c_6, tn_d_nlt c_6, eq_true c_7, c_8, tn_d_le c_8, ↓reduceIte]; rfl)
        · skip
          refine tv_aload_n C dX3_keepIfBetter_47 rfl 2 rfl ?_
          refine tv_iload_n C dX3_keepIfBetter_48 rfl 0 rfl ?_
          refine tv_put (ci := 3) (Cn := RX3) (T := TX3) (Nf := 7) (ty := .int) (E' := (eX c s (ts_s (ts_s (ts_a r 3 (upd (upd (upd (r 3) 0 (sp_mb s (r 2) 0)) 1 (sp_mb s (r 2) 1)) 2 (sp_mb s (r 2) 2))) 6 (s 15 (sp_li (r 2)))) 7 (sp_ff s (mx_st s r) (2 * tk (s 8 0)))))) C 9 (by decide) rfl rfl in_X3_keepIfBetter_X3 tyX3 tyX3_ok nmX3 5 (by decide) lk_X3_keepIfBetter_76 rfl (by decide +kernel) rfl rfl (Nat.le_of_ble_eq_true rfl) (eX_u_leastUnlike c s (ts_s (ts_a r 3 (upd (upd (upd (r 3) 0 (sp_mb s (r 2) 0)) 1 (sp_mb s (r 2) 1)) 2 (sp_mb s (r 2) 2))) 6 (s 15 (sp_li (r 2)))) (sp_ff s (mx_st s r) (2 * tk (s 8 0)))) dX3_keepIfBetter_49 ?_
          refine tv_aload_n C dX3_keepIfBetter_52 rfl 2 rfl ?_
          refine tv_iload_n C dX3_keepIfBetter_53 rfl 1 rfl ?_
          refine tv_put (ci := 3) (Cn := RX3) (T := TX3) (Nf := 7) (ty := .int) (E' := (eX c s (ts_s (ts_s (ts_s (ts_a r 3 (upd (upd (upd (r 3) 0 (sp_mb s (r 2) 0)) 1 (sp_mb s (r 2) 1)) 2 (sp_mb s (r 2) 2))) 6 (s 15 (sp_li (r 2)))) 7 (sp_ff s (mx_st s r) (2 * tk (s 8 0)))) 8 (sp_sd (r 2) 4)))) C 9 (by decide) rfl rfl in_X3_keepIfBetter_X3 tyX3 tyX3_ok nmX3 6 (by decide) lk_X3_keepIfBetter_79 rfl (by decide +kernel) rfl rfl (Nat.le_of_ble_eq_true rfl) (eX_u_fewestDrops c s (ts_s (ts_s (ts_a r 3 (upd (upd (upd (r 3) 0 (sp_mb s (r 2) 0)) 1 (sp_mb s (r 2) 1)) 2 (sp_mb s (r 2) 2))) 6 (s 15 (sp_li (r 2)))) 7 (sp_ff s (mx_st s r) (2 * tk (s 8 0)))) (sp_sd (r 2) 4)) dX3_keepIfBetter_54 ?_
          refine tv_aload_n C dX3_keepIfBetter_57 rfl 2 rfl ?_
          refine tv_get (ci := 3) (Cn := RX3) (T := TX3) (Nf := 7) (v := .ref (tv_ad c 10)) C 9 (by decide) rfl rfl in_X3_keepIfBetter_X3 1 (by decide) lk_X3_keepIfBetter_9 rfl dX3_keepIfBetter_58 ?_
          refine tv_iconst (v := 0) C dX3_keepIfBetter_61 (by decide) ?_
          refine tv_aload_n C dX3_keepIfBetter_62 rfl 2 rfl ?_
          refine tv_get (ci := 3) (Cn := RX3) (T := TX3) (Nf := 7) (v := .ref (tv_ad c 14)) C 9 (by decide) rfl rfl in_X3_keepIfBetter_X3 4 (by decide) lk_X3_keepIfBetter_25 rfl dX3_keepIfBetter_63 ?_
          refine tv_iconst (v := 0) C dX3_keepIfBetter_66 (by decide) ?_
          refine tv_iconst (v := 4) C dX3_keepIfBetter_67 (by decide) ?_
          refine tv_copy (f := (r 2)) (g := (r 5)) (E' := (eX c s (ts_a (ts_s (ts_s (ts_s (ts_a r 3 (upd (upd (upd (r 3) 0 (sp_mb s (r 2) 0)) 1 (sp_mb s (r 2) 1)) 2 (sp_mb s (r 2) 2))) 6 (s 15 (sp_li (r 2)))) 7 (sp_ff s (mx_st s r) (2 * tk (s 8 0)))) 8 (sp_sd (r 2) 4)) 5 (va_cpy (r 2) (r 5) 0 0 4)))) C wd_X3_keepIfBetter_m100 wd_X3_keepIfBetter_nat wd_X3_keepIfBetter_stc wd_X3_keepIfBetter_inis (by decide) (by decide) 10 14 (by decide) (by decide) rfl rfl 0 0 4 (tn_l 0) (tn_l 0) (tn_l 4) (by decide) (by decide) (by decide) (by decide) (eX_u_bestDrops c s (ts_s (ts_s (ts_s (ts_a r 3 (upd (upd (upd (r 3) 0 (sp_mb s (r 2) 0)) 1 (sp_mb s (r 2) 1)) 2 (sp_mb s (r 2) 2))) 6 (s 15 (sp_li (r 2)))) 7 (sp_ff s (mx_st s r) (2 * tk (s 8 0)))) 8 (sp_sd (r 2) 4)) (va_cpy (r 2) (r 5) 0 0 4)) dX3_keepIfBetter_68 ?_
          show tv_V c 60 X (eX c s (ts_a (ts_s (ts_s (ts_s (ts_a r 3 (upd (upd (upd (r 3) 0 (sp_mb s (r 2) 0)) 1 (sp_mb s (r 2) 1)) 2 (sp_mb s (r 2) 2))) 6 (s 15 (sp_li (r 2)))) 7 (sp_ff s (mx_st s r) (2 * tk (s 8 0)))) 8 (sp_sd (r 2) 4)) 5 (va_cpy (r 2) (r 5) 0 0 4))) 71 [(2, .int (sp_ff s (mx_st s r) (2 * tk (s 8 0)))), (1, .int (sp_sd (r 2) 4)), (0, .ref (tv_ad c 9))] []
          exact hR _ _ _ dX3_keepIfBetter_71 (by simp only [mx_kb, c_2, c_6, tn_d_nlt c_6, eq_true c_7, c_8, tn_d_nle c_8, ↓reduceIte]; rfl)
  · skip
    exact hR _ _ _ dX3_keepIfBetter_7 (by simp only [mx_kb, eq_true c_2, ↓reduceIte])
set_option maxHeartbeats 4000000 in
set_option maxRecDepth 100000 in
theorem kX7_copy (c : tv_c) (s r : ts_T)  (p0 p1 p2 p3 p4 : Int32) (hI : iv s) : tv_Fi c 60 yX7_copy wsX7_copy { frames := 2, cells := 0, slots := 0, locals := 60 } [.ref (tv_ad c 0), .int p0, .int p1, .int p2, .int p3, .int p4] (eX c s r) ((sp_copy s p0 p1 p2 p3 p4).1) (eX c (sp_copy s p0 p1 p2 p3 p4).2 r) := by
  refine tv_metI (by decide +kernel) rfl rfl (Nat.le_of_ble_eq_true rfl) (fun X C hR => ?_)
  show tv_V c 60 X (eX c s r) 0 [(0, .ref (tv_ad c 0)), (1, .int p0), (2, .int p1), (3, .int p2), (4, .int p3), (5, .int p4)] []
  have hC := iv.hC hI
  obtain ⟨h, w, n, nk, nl, ny, nm, li, e2, e3, e9, hnw, hh, hw, hn, hz, hp, e7, hk, e8, hl, e4, hy, e5, hm, e6, hli, hcel, hkin, hban, hwei, hshe⟩ := id hI
  refine tv_aload_n C dX7_copy_0 rfl 0 rfl ?_
  refine tv_iconst (v := 0) C dX7_copy_1 (by decide) ?_
  refine tv_put (ci := 7) (Cn := RX7) (T := TX7) (Nf := 7) (ty := .int) (E' := (eX c (ts_s s 0 0) r)) C 0 (by decide) rfl rfl in_X7_copy_X7 tyX7 tyX7_ok nmX7 6 (by decide) lk_X7_copy_50 rfl (by decide +kernel) rfl rfl (Nat.le_of_ble_eq_true rfl) (eX_u_latestFault c s r 0) dX7_copy_2 ?_
  refine tv_iload_n C dX7_copy_5 rfl 1 rfl ?_
  refine tv_callis (As := [.int p0]) (rest := []) C (kX7_isSheet c (ts_s s 0 0) r  p0 ) gX7_copy_X7_isSheet rfl yd_X7_isSheet ⟨rfl, rfl⟩ (by decide) rfl rfl (Nat.le_of_ble_eq_true rfl) dX7_copy_6 (fun q_1 u_1 z_1 => ?_)
  obtain ⟨rfl, rfl⟩ := z_1
  show tv_V c 60 X (eX c (ts_s s 0 0) r) 9 [(0, .ref (tv_ad c 0)), (1, .int p0), (2, .int p1), (3, .int p2), (4, .int p3), (5, .int p4)] [.int (sp_in p0 0 3)]
  refine tv_if_eq C 19 dX7_copy_9 (by decide) (fun c_2 => ?_) (fun c_2 => ?_)
  · skip
    refine tv_iconst (v := (-1)) C dX7_copy_19 (by decide) ?_
    exact hR _ _ _ _ dX7_copy_20 ⟨by first | (simp only [sp_copy, eq_true c_2, if_true, ↓reduceIte]; done) | rfl | (simp [sp_copy, eq_true c_2, if_true]; done) | (exfalso; clear hR C; simp_all; done), by first | (simp only [sp_copy, eq_true c_2, if_true, ts_ss, ts_aa, ↓reduceIte]; done) | rfl | (simp [sp_copy, eq_true c_2, if_true, ts_ss, ts_aa]; done) | (exfalso; clear hR C; simp_all; done)⟩
  · skip
    obtain ⟨j_p0, hj_p0, ej_p0, ek_p0⟩ := in_in (b := 3) (by decide) c_2
    refine tv_iload_n C dX7_copy_12 rfl 3 rfl ?_
    refine tv_callis (As := [.int p2]) (rest := []) C (kX7_isSheet c (ts_s s 0 0) r  p2 ) gX7_copy_X7_isSheet rfl yd_X7_isSheet ⟨rfl, rfl⟩ (by decide) rfl rfl (Nat.le_of_ble_eq_true rfl) dX7_copy_13 (fun q_3 u_3 z_3 => ?_)
    obtain ⟨rfl, rfl⟩ := z_3
    show tv_V c 60 X (eX c (ts_s s 0 0) r) 16 [(0, .ref (tv_ad c 0)), (1, .int p0), (2, .int p1), (3, .int p2), (4, .int p3), (5, .int p4)] [.int (sp_in p2 0 3)]
    refine tv_if_ne C 21 dX7_copy_16 (by decide) (fun c_4 => ?_) (fun c_4 => ?_)
    · skip
      obtain ⟨j_p2, hj_p2, ej_p2, ek_p2⟩ := in_in (b := 3) (by decide) c_4
      refine tv_aload_n C dX7_copy_21 rfl 0 rfl ?_
      refine tv_get (ci := 7) (Cn := RX7) (T := TX7) (Nf := 7) (v := .ref (tv_ad c 1)) C 0 (by decide) rfl rfl in_X7_copy_X7 0 (by decide) lk_X7_copy_13 rfl dX7_copy_22 ?_
      refine tv_iload_n C dX7_copy_25 rfl 1 rfl ?_
      refine tv_aald (Cn := RX5) (a := tv_ad c (16 + j_p0)) C 1 (by decide) rfl 2 rfl j_p0 ej_p0 (show j_p0 < 4 by omega) (by decide) rfl dX7_copy_26 ?_
      refine tv_astore (lv' := [(6, .ref (tv_ad c (16 + j_p0))), (0, .ref (tv_ad c 0)), (1, .int p0), (2, .int p1), (3, .int p2), (4, .int p3), (5, .int p4)]) C dX7_copy_27 (by decide) rfl ?_
      refine tv_aload_n C dX7_copy_29 rfl 1 rfl ?_
      refine tv_get (ci := 7) (Cn := RX7) (T := TX7) (Nf := 7) (v := .ref (tv_ad c 1)) C 0 (by decide) rfl rfl in_X7_copy_X7 0 (by decide) lk_X7_copy_13 rfl dX7_copy_30 ?_
      refine tv_iload_n C dX7_copy_33 rfl 4 rfl ?_
      refine tv_aald (Cn := RX5) (a := tv_ad c (16 + j_p2)) C 1 (by decide) rfl 2 rfl j_p2 ej_p2 (show j_p2 < 4 by omega) (by decide) rfl dX7_copy_34 ?_
      refine tv_astore (lv' := [(7, .ref (tv_ad c (16 + j_p2))), (6, .ref (tv_ad c (16 + j_p0))), (0, .ref (tv_ad c 0)), (1, .int p0), (2, .int p1), (3, .int p2), (4, .int p3), (5, .int p4)]) C dX7_copy_35 (by decide) rfl ?_
      refine tv_aload C dX7_copy_37 1 rfl ?_
      refine tv_get (ci := 5) (Cn := RX5) (T := TX5) (Nf := 4) (v := .int (s 18 j_p0)) C (16 + j_p0) (by omega) (eX_at_s c (ts_s s 0 0) r (by omega)) rfl in_X7_copy_X5 1 (by decide) lk_X7_copy_251 rfl dX7_copy_39 ?_
      refine tv_if_eq C 53 dX7_copy_42 (by decide) (fun c_5 => ?_) (fun c_5 => ?_)
      · skip
        refine tv_aload_n C dX7_copy_53 rfl 2 rfl ?_
        refine tv_iconst (v := 1) C dX7_copy_54 (by decide) ?_
        refine tv_calli (As := [.int 1]) (rest := []) (ci := 7) (cn := RX7) (T := TX7) (Nf := 7) C 0 (kX7_failed c (ts_s s 0 0) r  1 ) gX7_copy_X7_failed rfl yd_X7_failed ⟨rfl, rfl⟩ (by decide) (by decide) rfl rfl rfl rfl (Nat.le_of_ble_eq_true rfl) dX7_copy_55 (fun q_6 u_6 z_6 => ?_)
        obtain ⟨rfl, rfl⟩ := z_6
        show tv_V c 60 X (eX c (ts_s (ts_s s 0 0) 0 1) r) 58 [(7, .ref (tv_ad c (16 + j_p2))), (6, .ref (tv_ad c (16 + j_p0))), (0, .ref (tv_ad c 0)), (1, .int p0), (2, .int p1), (3, .int p2), (4, .int p3), (5, .int p4)] [.int ((-10) - 1)]
        refine tv_eqE (E' := (eX c (ts_s s 0 1) r)) (congrArg (fun z => eX c z r) (by funext zz; rcases Classical.em (zz = 0) with hzz | h_0; (subst hzz; rfl); simp only [ts_s, ts_a, h_0, ↓reduceIte])) ?_
        show tv_V c 60 X (eX c (ts_s s 0 1) r) 58 [(7, .ref (tv_ad c (16 + j_p2))), (6, .ref (tv_ad c (16 + j_p0))), (0, .ref (tv_ad c 0)), (1, .int p0), (2, .int p1), (3, .int p2), (4, .int p3), (5, .int p4)] [.int ((-10) - 1)]
        exact hR _ _ _ _ dX7_copy_58 ⟨by first | (simp only [sp_copy, c_2, ek_p0, c_4, ek_p2, eq_true c_5, if_true, ↓reduceIte]; done) | rfl | (simp [sp_copy, c_2, ek_p0, c_4, ek_p2, eq_true c_5, if_true]; done) | (exfalso; clear hR C; simp_all; done), by first | (simp only [sp_copy, c_2, ek_p0, c_4, ek_p2, eq_true c_5, if_true, ts_ss, ts_aa, ↓reduceIte]; done) | rfl | (simp [sp_copy, c_2, ek_p0, c_4, ek_p2, eq_true c_5, if_true, ts_ss, ts_aa]; done) | (exfalso; clear hR C; simp_all; done)⟩
      · skip
        refine tv_aload C dX7_copy_45 0 rfl ?_
        refine tv_get (ci := 5) (Cn := RX5) (T := TX5) (Nf := 4) (v := .int (s 18 j_p2)) C (16 + j_p2) (by omega) (eX_at_s c (ts_s s 0 0) r (by omega)) rfl in_X7_copy_X5 1 (by decide) lk_X7_copy_251 rfl dX7_copy_47 ?_
        refine tv_if_ne C 59 dX7_copy_50 (by decide) (fun c_7 => ?_) (fun c_7 => ?_)
        · skip
          refine tv_aload C dX7_copy_59 1 rfl ?_
          refine tv_get (ci := 5) (Cn := RX5) (T := TX5) (Nf := 4) (v := .int (s 19 j_p0)) C (16 + j_p0) (by omega) (eX_at_s c (ts_s s 0 0) r (by omega)) rfl in_X7_copy_X5 2 (by decide) lk_X7_copy_260 rfl dX7_copy_61 ?_
          refine tv_aload C dX7_copy_64 0 rfl ?_
          refine tv_get (ci := 5) (Cn := RX5) (T := TX5) (Nf := 4) (v := .int (s 19 j_p2)) C (16 + j_p2) (by omega) (eX_at_s c (ts_s s 0 0) r (by omega)) rfl in_X7_copy_X5 2 (by decide) lk_X7_copy_260 rfl dX7_copy_66 ?_
          refine tv_icmp_eq C 78 dX7_copy_69 (by decide) (fun c_8 => ?_) (fun c_8 => ?_)
          · skip
            refine tv_aload C dX7_copy_78 1 rfl ?_
            refine tv_iload_n C dX7_copy_80 rfl 4 rfl ?_
            refine tv_iload C dX7_copy_81 7 rfl ?_
            refine tv_calli (As := [.int p1, .int p4]) (rest := []) (ci := 5) (cn := RX5) (T := TX5) (Nf := 4) C (16 + j_p0) (kX5_reaches c (ts_s s 0 0) r j_p0 p1 p4 (show j_p0 < 4 by omega)) gX7_copy_X5_reaches rfl yd_X5_reaches ⟨rfl, rfl⟩ (by decide) (by omega) (eX_at_s c (ts_s s 0 0) r (by omega)) rfl rfl rfl (Nat.le_of_ble_eq_true rfl) dX7_copy_83 (fun q_9 u_9 z_9 => ?_)
            obtain ⟨rfl, rfl⟩ := z_9
            show tv_V c 60 X (eX c (ts_s s 0 0) r) 86 [(7, .ref (tv_ad c (16 + j_p2))), (6, .ref (tv_ad c (16 + j_p0))), (0, .ref (tv_ad c 0)), (1, .int p0), (2, .int p1), (3, .int p2), (4, .int p3), (5, .int p4)] [.int (sp_rc (s 20 j_p0) p1 p4)]
            refine tv_if_eq C 101 dX7_copy_86 (by decide) (fun c_10 => ?_) (fun c_10 => ?_)
            · skip
              refine tv_aload_n C dX7_copy_101 rfl 2 rfl ?_
              refine tv_iconst (v := 3) C dX7_copy_102 (by decide) ?_
              refine tv_calli (As := [.int 3]) (rest := []) (ci := 7) (cn := RX7) (T := TX7) (Nf := 7) C 0 (kX7_failed c (ts_s s 0 0) r  3 ) gX7_copy_X7_failed rfl yd_X7_failed ⟨rfl, rfl⟩ (by decide) (by decide) rfl rfl rfl rfl (Nat.le_of_ble_eq_true rfl) dX7_copy_103 (fun q_11 u_11 z_11 => ?_)
              obtain ⟨rfl, rfl⟩ := z_11
              show tv_V c 60 X (eX c (ts_s (ts_s s 0 0) 0 3) r) 106 [(7, .ref (tv_ad c (16 + j_p2))), (6, .ref (tv_ad c (16 + j_p0))), (0, .ref (tv_ad c 0)), (1, .int p0), (2, .int p1), (3, .int p2), (4, .int p3), (5, .int p4)] [.int ((-10) - 3)]
              refine tv_eqE (E' := (eX c (ts_s s 0 3) r)) (congrArg (fun z => eX c z r) (by funext zz; rcases Classical.em (zz = 0) with hzz | h_0; (subst hzz; rfl); simp only [ts_s, ts_a, h_0, ↓reduceIte])) ?_
              show tv_V c 60 X (eX c (ts_s s 0 3) r) 106 [(7, .ref (tv_ad c (16 + j_p2))), (6, .ref (tv_ad c (16 + j_p0))), (0, .ref (tv_ad c 0)), (1, .int p0), (2, .int p1), (3, .int p2), (4, .int p3), (5, .int p4)] [.int ((-10) - 3)]
              exact hR _ _ _ _ dX7_copy_106 ⟨by first | (simp only [sp_copy, c_2, ek_p0, c_4, ek_p2, c_5, c_7, eq_true c_8, eq_true c_10, if_true, ↓reduceIte]; done) | rfl | (simp [sp_copy, c_2, ek_p0, c_4, ek_p2, c_5, c_7, eq_true c_8, eq_true c_10, if_true]; done) | (exfalso; clear hR C; simp_all; done), by first | (simp only [sp_copy, c_2, ek_p0, c_4, ek_p2, c_5, c_7, eq_true c_8, eq_true c_10, if_true, ts_ss, ts_aa, ↓reduceIte]; done) | rfl | (simp [sp_copy, c_2, ek_p0, c_4, ek_p2, c_5, c_7, eq_true c_8, eq_true c_10, if_true, ts_ss, ts_aa]; done) | (exfalso; clear hR C; simp_all; done)⟩
            · skip
              refine tv_aload C dX7_copy_89 0 rfl ?_
              refine tv_iload C dX7_copy_91 6 rfl ?_
              refine tv_iload C dX7_copy_93 7 rfl ?_
              refine tv_calli (As := [.int p3, .int p4]) (rest := []) (ci := 5) (cn := RX5) (T := TX5) (Nf := 4) C (16 + j_p2) (kX5_reaches c (ts_s s 0 0) r j_p2 p3 p4 (show j_p2 < 4 by omega)) gX7_copy_X5_reaches rfl yd_X5_reaches ⟨rfl, rfl⟩ (by decide) (by omega) (eX_at_s c (ts_s s 0 0) r (by omega)) rfl rfl rfl (Nat.le_of_ble_eq_true rfl) dX7_copy_95 (fun q_12 u_12 z_12 => ?_)
              obtain ⟨rfl, rfl⟩ := z_12
              show tv_V c 60 X (eX c (ts_s s 0 0) r) 98 [(7, .ref (tv_ad c (16 + j_p2))), (6, .ref (tv_ad c (16 + j_p0))), (0, .ref (tv_ad c 0)), (1, .int p0), (2, .int p1), (3, .int p2), (4, .int p3), (5, .int p4)] [.int (sp_rc (s 20 j_p2) p3 p4)]
              refine tv_if_ne C 107 dX7_copy_98 (by decide) (fun c_13 => ?_) (fun c_13 => ?_)
              · skip
                obtain ⟨a, d, L1, ea, ed, eL1, hL1, had1, eka, ekd⟩ := rc_n1 (hshe j_p0 (by omega)).2.2 (i := p1) (n := p4) (by assumption)
                obtain ⟨b, d2, L2, eb, ed2, eL2, hL2, had2, ekb, ekd2⟩ := rc_n1 (hshe j_p2 (by omega)).2.2 (i := p3) (n := p4) (by assumption)
                have hdd : d = d2 := by rw [← ekd2, ekd]
                subst hdd
                refine tv_aload C dX7_copy_107 1 rfl ?_
                refine tv_get (ci := 5) (Cn := RX5) (T := TX5) (Nf := 4) (v := .ref (tv_ad c (20 + j_p0))) C (16 + j_p0) (by omega) (eX_at_s c (ts_s s 0 0) r (by omega)) rfl in_X7_copy_X5 0 (by decide) lk_X7_copy_254 rfl dX7_copy_109 ?_
                refine tv_iload_n C dX7_copy_112 rfl 4 rfl ?_
                refine tv_aload C dX7_copy_113 0 rfl ?_
                refine tv_get (ci := 5) (Cn := RX5) (T := TX5) (Nf := 4) (v := .ref (tv_ad c (20 + j_p2))) C (16 + j_p2) (by omega) (eX_at_s c (ts_s s 0 0) r (by omega)) rfl in_X7_copy_X5 0 (by decide) lk_X7_copy_254 rfl dX7_copy_115 ?_
                refine tv_iload C dX7_copy_118 6 rfl ?_
                refine tv_iload C dX7_copy_120 7 rfl ?_
                refine tv_copy (f := eX_rf (ts_s s 0 0) j_p0) (g := eX_rf (ts_s s 0 0) j_p2) (E' := (eX c (ts_a (ts_s s 0 0) 21 (ts_cp (s 21) (40 * j_p0 + a) (40 * j_p2 + b) d)) r)) C wd_X7_copy_m263 wd_X7_copy_nat wd_X7_copy_stc wd_X7_copy_inis (by decide) (by decide) (20 + j_p0) (20 + j_p2) (by omega) (by omega) (eX_at_r c (ts_s s 0 0) r (by omega)) (eX_at_r c (ts_s s 0 0) r (by omega)) a b d ea eb ed (by omega) (by omega) (by decide) (by decide) (cpX c (ts_s s 0 0) r j_p0 (by omega) (by omega) (by omega)) dX7_copy_122 ?_
                show tv_V c 60 X (eX c (ts_a (ts_s s 0 0) 21 (ts_cp (s 21) (40 * j_p0 + a) (40 * j_p2 + b) d)) r) 125 [(7, .ref (tv_ad c (16 + j_p2))), (6, .ref (tv_ad c (16 + j_p0))), (0, .ref (tv_ad c 0)), (1, .int p0), (2, .int p1), (3, .int p2), (4, .int p3), (5, .int p4)] []
                refine tv_iload C dX7_copy_125 7 rfl ?_
                exact hR _ _ _ _ dX7_copy_127 ⟨by first | (simp only [sp_copy, c_2, ek_p0, c_4, ek_p2, c_5, c_7, eq_true c_8, c_10, c_13, eka, ekb, ekd2, if_true, ↓reduceIte]; done) | rfl | (simp [sp_copy, c_2, ek_p0, c_4, ek_p2, c_5, c_7, eq_true c_8, c_10, c_13, eka, ekb, ekd2, if_true]; done) | (exfalso; clear hR C; simp_all; done), by first | (simp only [sp_copy, c_2, ek_p0, c_4, ek_p2, c_5, c_7, eq_true c_8, c_10, c_13, eka, ekb, ekd2, if_true, ts_ss, ts_aa, ↓reduceIte]; done) | rfl | (simp [sp_copy, c_2, ek_p0, c_4, ek_p2, c_5, c_7, eq_true c_8, c_10, c_13, eka, ekb, ekd2, if_true, ts_ss, ts_aa]; done) | (exfalso; clear hR C; simp_all; done)⟩
              · skip
                refine tv_aload_n C dX7_copy_101 rfl 2 rfl ?_
                refine tv_iconst (v := 3) C dX7_copy_102 (by decide) ?_
                refine tv_calli (As := [.int 3]) (rest := []) (ci := 7) (cn := RX7) (T := TX7) (Nf := 7) C 0 (kX7_failed c (ts_s s 0 0) r  3 ) gX7_copy_X7_failed rfl yd_X7_failed ⟨rfl, rfl⟩ (by decide) (by decide) rfl rfl rfl rfl (Nat.le_of_ble_eq_true rfl) dX7_copy_103 (fun q_14 u_14 z_14 => ?_)
                obtain ⟨rfl, rfl⟩ := z_14
                show tv_V c 60 X (eX c (ts_s (ts_s s 0 0) 0 3) r) 106 [(7, .ref (tv_ad c (16 + j_p2))), (6, .ref (tv_ad c (16 + j_p0))), (0, .ref (tv_ad c 0)), (1, .int p0), (2, .int p1), (3, .int p2), (4, .int p3), (5, .int p4)] [.int ((-10) - 3)]
                refine tv_eqE (E' := (eX c (ts_s s 0 3) r)) (congrArg (fun z => eX c z r) (by funext zz; rcases Classical.em (zz = 0) with hzz | h_0; (subst hzz; rfl); simp only [ts_s, ts_a, h_0, ↓reduceIte])) ?_
                show tv_V c 60 X (eX c (ts_s s 0 3) r) 106 [(7, .ref (tv_ad c (16 + j_p2))), (6, .ref (tv_ad c (16 + j_p0))), (0, .ref (tv_ad c 0)), (1, .int p0), (2, .int p1), (3, .int p2), (4, .int p3), (5, .int p4)] [.int ((-10) - 3)]
                exact hR _ _ _ _ dX7_copy_106 ⟨by first | (simp only [sp_copy, c_2, ek_p0, c_4, ek_p2, c_5, c_7, eq_true c_8, c_10, eq_true c_13, if_true, ↓reduceIte]; done) | rfl | (simp [sp_copy, c_2, ek_p0, c_4, ek_p2, c_5, c_7, eq_true c_8, c_10, eq_true c_13, if_true]; done) | (exfalso; clear hR C; simp_all; done), by first | (simp only [sp_copy, c_2, ek_p0, c_4, ek_p2, c_5, c_7, eq_true c_8, c_10, eq_true c_13, if_true, ts_ss, ts_aa, ↓reduceIte]; done) | rfl | (simp [sp_copy, c_2, ek_p0, c_4, ek_p2, c_5, c_7, eq_true c_8, c_10, eq_true c_13, if_true, ts_ss, ts_aa]; done) | (exfalso; clear hR C; simp_all; done)⟩
          · skip
            refine tv_aload_n C dX7_copy_72 rfl 2 rfl ?_
            refine tv_iconst (v := 2) C dX7_copy_73 (by decide) ?_
            refine tv_calli (As := [.int 2]) (rest := []) (ci := 7) (cn := RX7) (T := TX7) (Nf := 7) C 0 (kX7_failed c (ts_s s 0 0) r  2 ) gX7_copy_X7_failed rfl yd_X7_failed ⟨rfl, rfl⟩ (by decide) (by decide) rfl rfl rfl rfl (Nat.le_of_ble_eq_true rfl) dX7_copy_74 (fun q_15 u_15 z_15 => ?_)
            obtain ⟨rfl, rfl⟩ := z_15
            show tv_V c 60 X (eX c (ts_s (ts_s s 0 0) 0 2) r) 77 [(7, .ref (tv_ad c (16 + j_p2))), (6, .ref (tv_ad c (16 + j_p0))), (0, .ref (tv_ad c 0)), (1, .int p0), (2, .int p1), (3, .int p2), (4, .int p3), (5, .int p4)] [.int ((-10) - 2)]
            refine tv_eqE (E' := (eX c (ts_s s 0 2) r)) (congrArg (fun z => eX c z r) (by funext zz; rcases Classical.em (zz = 0) with hzz | h_0; (subst hzz; rfl); simp only [ts_s, ts_a, h_0, ↓reduceIte])) ?_
            show tv_V c 60 X (eX c (ts_s s 0 2) r) 77 [(7, .ref (tv_ad c (16 + j_p2))), (6, .ref (tv_ad c (16 + j_p0))), (0, .ref (tv_ad c 0)), (1, .int p0), (2, .int p1), (3, .int p2), (4, .int p3), (5, .int p4)] [.int ((-10) - 2)]
            exact hR _ _ _ _ dX7_copy_77 ⟨by first | (simp only [sp_copy, c_2, ek_p0, c_4, ek_p2, c_5, c_7, c_8, if_true, ↓reduceIte]; done) | rfl | (simp [sp_copy, c_2, ek_p0, c_4, ek_p2, c_5, c_7, c_8, if_true]; done) | (exfalso; clear hR C; simp_all; done), by first | (simp only [sp_copy, c_2, ek_p0, c_4, ek_p2, c_5, c_7, c_8, if_true, ts_ss, ts_aa, ↓reduceIte]; done) | rfl | (simp [sp_copy, c_2, ek_p0, c_4, ek_p2, c_5, c_7, c_8, if_true, ts_ss, ts_aa]; done) | (exfalso; clear hR C; simp_all; done)⟩
        · skip
          refine tv_aload_n C dX7_copy_53 rfl 2 rfl ?_
          refine tv_iconst (v := 1) C dX7_copy_54 (by decide) ?_
          refine tv_calli (As := [.int 1]) (rest := []) (ci := 7) (cn := RX7) (T := TX7) (Nf := 7) C 0 (kX7_failed c (ts_s s 0 0) r  1 ) gX7_copy_X7_failed rfl yd_X7_failed ⟨rfl, rfl⟩ (by decide) (by decide) rfl rfl rfl rfl (Nat.le_of_ble_eq_true rfl) dX7_copy_55 (fun q_16 u_16 z_16 => ?_)
          obtain ⟨rfl, rfl⟩ := z_16
          show tv_V c 60 X (eX c (ts_s (ts_s s 0 0) 0 1) r) 58 [(7, .ref (tv_ad c (16 + j_p2))), (6, .ref (tv_ad c (16 + j_p0))), (0, .ref (tv_ad c 0)), (1, .int p0), (2, .int p1), (3, .int p2), (4, .int p3), (5, .int p4)] [.int ((-10) - 1)]
          refine tv_eqE (E' := (eX c (ts_s s 0 1) r)) (congrArg (fun z => eX c z r) (by funext zz; rcases Classical.em (zz = 0) with hzz | h_0; (subst hzz; rfl); simp only [ts_s, ts_a, h_0, ↓reduceIte])) ?_
          show tv_V c 60 X (eX c (ts_s s 0 1) r) 58 [(7, .ref (tv_ad c (16 + j_p2))), (6, .ref (tv_ad c (16 + j_p0))), (0, .ref (tv_ad c 0)), (1, .int p0), (2, .int p1), (3, .int p2), (4, .int p3), (5, .int p4)] [.int ((-10) - 1)]
          exact hR _ _ _ _ dX7_copy_58 ⟨by first | (simp only [sp_copy, c_2, ek_p0, c_4, ek_p2, c_5, eq_true c_7, if_true, ↓reduceIte]; done) | rfl | (simp [sp_copy, c_2, ek_p0, c_4, ek_p2, c_5, eq_true c_7, if_true]; done) | (exfalso; clear hR C; simp_all; done), by first | (simp only [sp_copy, c_2, ek_p0, c_4, ek_p2, c_5, eq_true c_7, if_true, ts_ss, ts_aa, ↓reduceIte]; done) | rfl | (simp [sp_copy, c_2, ek_p0, c_4, ek_p2, c_5, eq_true c_7, if_true, ts_ss, ts_aa]; done) | (exfalso; clear hR C; simp_all; done)⟩
    · skip
      refine tv_iconst (v := (-1)) C dX7_copy_19 (by decide) ?_
      exact hR _ _ _ _ dX7_copy_20 ⟨by first | (simp only [sp_copy, c_2, ek_p0, eq_true c_4, if_true, ↓reduceIte]; done) | rfl | (simp [sp_copy, c_2, ek_p0, eq_true c_4, if_true]; done) | (exfalso; clear hR C; simp_all; done), by first | (simp only [sp_copy, c_2, ek_p0, eq_true c_4, if_true, ts_ss, ts_aa, ↓reduceIte]; done) | rfl | (simp [sp_copy, c_2, ek_p0, eq_true c_4, if_true, ts_ss, ts_aa]; done) | (exfalso; clear hR C; simp_all; done)⟩
set_option maxHeartbeats 4000000 in
set_option maxRecDepth 100000 in
theorem kX7_mix (c : tv_c) (s r : ts_T)  (p0 p1 p2 p3 : Int32) (hI : iv s) : tv_Mi c 60 yX7_mix wsX7_mix { frames := 2, cells := 0, slots := 0, locals := 48 } [.ref (tv_ad c 0), .int p0, .int p1, .int p2, .int p3] (eX c s r) (fun q_0 u_0 => q_0 = (sp_mix s p0 p1 p2 p3).1 ∧ ∃ r_0, u_0 = eX c (sp_mix s p0 p1 p2 p3).2 r_0) := by
  refine tv_metI (by decide +kernel) rfl rfl (Nat.le_of_ble_eq_true rfl) (fun X C hR => ?_)
  show tv_V c 60 X (eX c s r) 0 [(0, .ref (tv_ad c 0)), (1, .int p0), (2, .int p1), (3, .int p2), (4, .int p3)] []
  have hC := iv.hC hI
  obtain ⟨h, w, n, nk, nl, ny, nm, li, e2, e3, e9, hnw, hh, hw, hn, hz, hp, e7, hk, e8, hl, e4, hy, e5, hm, e6, hli, hcel, hkin, hban, hwei, hshe⟩ := id hI
  have ek7 := tk_e e7 (by omega)
  refine tv_aload_n C dX7_mix_0 rfl 0 rfl ?_
  refine tv_get (ci := 7) (Cn := RX7) (T := TX7) (Nf := 7) (v := .ref (tv_ad c 9)) C 0 (by decide) rfl rfl in_X7_mix_X7 3 (by decide) lk_X7_mix_36 rfl dX7_mix_1 ?_
  refine tv_iload_n C dX7_mix_4 rfl 1 rfl ?_
  refine tv_iload_n C dX7_mix_5 rfl 2 rfl ?_
  refine tv_iload_n C dX7_mix_6 rfl 3 rfl ?_
  refine tv_iload C dX7_mix_7 4 rfl ?_
  refine tv_callv (As := [.int p0, .int p1, .int p2, .int p3]) (rest := []) (ci := 3) (cn := RX3) (T := TX3) (Nf := 7) C 9 (kX3_pour c s r  p0 p1 p2 p3 ) gX7_mix_X3_pour rfl yd_X3_pour ⟨rfl, rfl⟩ (by decide) (by decide) rfl rfl rfl rfl (Nat.le_of_ble_eq_true rfl) dX7_mix_9 (fun u_1 z_1 => ?_)
  subst z_1
  refine tv_aload_n C dX7_mix_12 rfl 0 rfl ?_
  refine tv_get (ci := 7) (Cn := RX7) (T := TX7) (Nf := 7) (v := .ref (tv_ad c 9)) C 0 (by decide) rfl rfl in_X7_mix_X7 3 (by decide) lk_X7_mix_36 rfl dX7_mix_13 ?_
  refine tv_calli (As := []) (rest := []) (ci := 3) (cn := RX3) (T := TX3) (Nf := 7) C 9 (kX3_isMix c s (ts_a r 2 (sp_d4 (r 2) p0 p1 p2 p3))   ) gX7_mix_X3_isMix rfl yd_X3_isMix ⟨rfl, rfl⟩ (by decide) (by decide) rfl rfl rfl rfl (Nat.le_of_ble_eq_true rfl) dX7_mix_16 (fun q_2 u_2 z_2 => ?_)
  obtain ⟨rfl, rfl⟩ := z_2
  show tv_V c 60 X (eX c s (ts_a r 2 (sp_d4 (r 2) p0 p1 p2 p3))) 19 [(0, .ref (tv_ad c 0)), (1, .int p0), (2, .int p1), (3, .int p2), (4, .int p3)] [.int (sp_ad s (sp_d4 (fun _ => 0) p0 p1 p2 p3))]
  refine tv_if_ne C 25 dX7_mix_19 (by decide) (fun c_3 => ?_) (fun c_3 => ?_)
  · skip
    refine tv_aload_n C dX7_mix_25 rfl 0 rfl ?_
    refine tv_get (ci := 7) (Cn := RX7) (T := TX7) (Nf := 7) (v := .ref (tv_ad c 2)) C 0 (by decide) rfl rfl in_X7_mix_X7 1 (by decide) lk_X7_mix_20 rfl dX7_mix_26 ?_
    refine tv_get (ci := 6) (Cn := RX6) (T := TX6) (Nf := 11) (v := .int (s 7 0)) C 2 (by decide) rfl rfl in_X7_mix_X6 6 (by decide) lk_X7_mix_136 rfl dX7_mix_29 ?_
    refine tv_bipush (v := 6) C dX7_mix_32 (by decide) ?_
    refine tv_icmp_lt C 40 dX7_mix_34 (by decide) (fun c_4 => ?_) (fun c_4 => ?_)
    · skip
      have nc_4 : nk < 6 := (tn_ltI e7 (tn_l 6) (by omega) (by omega)).mp c_4
      have h76 : ¬ s 7 0 = 6 := fun q => absurd ((tn_eqI e7 (tn_l 6) (by omega) (by omega)).mp q) (by omega)
      refine tv_aload_n C dX7_mix_40 rfl 0 rfl ?_
      refine tv_get (ci := 7) (Cn := RX7) (T := TX7) (Nf := 7) (v := .ref (tv_ad c 9)) C 0 (by decide) rfl rfl in_X7_mix_X7 3 (by decide) lk_X7_mix_36 rfl dX7_mix_41 ?_
      refine tv_callr (As := []) (rest := []) (ci := 3) (cn := RX3) (T := TX3) (Nf := 7) C 9 (kX3_stir c s (ts_a r 2 (sp_d4 (r 2) p0 p1 p2 p3))   (by assumption)) gX7_mix_X3_stir rfl yd_X3_stir ⟨rfl, rfl⟩ (by decide) (by decide) rfl rfl rfl rfl (Nat.le_of_ble_eq_true rfl) dX7_mix_44 (fun u_5 z_5 => ?_)
      subst z_5
      show tv_V c 60 X (eX c s (ts_s (ts_a (ts_a r 2 (sp_d4 (r 2) p0 p1 p2 p3)) 3 (upd (upd (upd (r 3) 0 (sp_mb s ((sp_d4 (r 2) p0 p1 p2 p3)) 0)) 1 (sp_mb s ((sp_d4 (r 2) p0 p1 p2 p3)) 1)) 2 (sp_mb s ((sp_d4 (r 2) p0 p1 p2 p3)) 2))) 6 (s 15 (sp_li ((sp_d4 (r 2) p0 p1 p2 p3)))))) 47 [(0, .ref (tv_ad c 0)), (1, .int p0), (2, .int p1), (3, .int p2), (4, .int p3)] [.ref (tv_ad c 11)]
      refine tv_astore (lv' := [(5, .ref (tv_ad c 11)), (0, .ref (tv_ad c 0)), (1, .int p0), (2, .int p1), (3, .int p2), (4, .int p3)]) C dX7_mix_47 (by decide) rfl ?_
      refine tv_aload_n C dX7_mix_49 rfl 1 rfl ?_
      refine tv_get (ci := 7) (Cn := RX7) (T := TX7) (Nf := 7) (v := .ref (tv_ad c 2)) C 0 (by decide) rfl rfl in_X7_mix_X7 1 (by decide) lk_X7_mix_20 rfl dX7_mix_50 ?_
      refine tv_aload C dX7_mix_53 0 rfl ?_
      refine tv_get (ci := 1) (Cn := RX1) (T := TX1) (Nf := 2) (v := .int (s 15 (sp_li ((sp_d4 (r 2) p0 p1 p2 p3))))) C 11 (by decide) rfl rfl in_X7_mix_X1 1 (by decide) lk_X7_mix_150 rfl dX7_mix_55 ?_
      refine tv_aload C dX7_mix_58 0 rfl ?_
      refine tv_get (ci := 1) (Cn := RX1) (T := TX1) (Nf := 2) (v := .ref (tv_ad c 12)) C 11 (by decide) rfl rfl in_X7_mix_X1 0 (by decide) lk_X7_mix_155 rfl dX7_mix_60 ?_
      refine tv_iconst (v := 0) C dX7_mix_63 (by decide) ?_
      refine tv_iald (f := (upd (upd (upd (r 3) 0 (sp_mb s ((sp_d4 (r 2) p0 p1 p2 p3)) 0)) 1 (sp_mb s ((sp_d4 (r 2) p0 p1 p2 p3)) 1)) 2 (sp_mb s ((sp_d4 (r 2) p0 p1 p2 p3)) 2))) (v := (sp_mb s ((sp_d4 (r 2) p0 p1 p2 p3)) 0)) C 12 (by decide) rfl 0 (tn_l 0) (show 0 < 3 by omega) (by decide) rfl dX7_mix_64 ?_
      refine tv_aload C dX7_mix_65 0 rfl ?_
      refine tv_get (ci := 1) (Cn := RX1) (T := TX1) (Nf := 2) (v := .ref (tv_ad c 12)) C 11 (by decide) rfl rfl in_X7_mix_X1 0 (by decide) lk_X7_mix_155 rfl dX7_mix_67 ?_
      refine tv_iconst (v := 1) C dX7_mix_70 (by decide) ?_
      refine tv_iald (f := (upd (upd (upd (r 3) 0 (sp_mb s ((sp_d4 (r 2) p0 p1 p2 p3)) 0)) 1 (sp_mb s ((sp_d4 (r 2) p0 p1 p2 p3)) 1)) 2 (sp_mb s ((sp_d4 (r 2) p0 p1 p2 p3)) 2))) (v := (sp_mb s ((sp_d4 (r 2) p0 p1 p2 p3)) 1)) C 12 (by decide) rfl 1 (tn_l 1) (show 1 < 3 by omega) (by decide) rfl dX7_mix_71 ?_
      refine tv_aload C dX7_mix_72 0 rfl ?_
      refine tv_get (ci := 1) (Cn := RX1) (T := TX1) (Nf := 2) (v := .ref (tv_ad c 12)) C 11 (by decide) rfl rfl in_X7_mix_X1 0 (by decide) lk_X7_mix_155 rfl dX7_mix_74 ?_
      refine tv_iconst (v := 2) C dX7_mix_77 (by decide) ?_
      refine tv_iald (f := (upd (upd (upd (r 3) 0 (sp_mb s ((sp_d4 (r 2) p0 p1 p2 p3)) 0)) 1 (sp_mb s ((sp_d4 (r 2) p0 p1 p2 p3)) 1)) 2 (sp_mb s ((sp_d4 (r 2) p0 p1 p2 p3)) 2))) (v := (sp_mb s ((sp_d4 (r 2) p0 p1 p2 p3)) 2)) C 12 (by decide) rfl 2 (tn_l 2) (show 2 < 3 by omega) (by decide) rfl dX7_mix_78 ?_
      refine tv_calli (As := [.int (s 15 (sp_li ((sp_d4 (r 2) p0 p1 p2 p3)))), .int (sp_mb s ((sp_d4 (r 2) p0 p1 p2 p3)) 0), .int (sp_mb s ((sp_d4 (r 2) p0 p1 p2 p3)) 1), .int (sp_mb s ((sp_d4 (r 2) p0 p1 p2 p3)) 2)]) (rest := []) (ci := 6) (cn := RX6) (T := TX6) (Nf := 11) C 2 (kX6_addCoat c s (ts_s (ts_a (ts_a r 2 (sp_d4 (r 2) p0 p1 p2 p3)) 3 (upd (upd (upd (r 3) 0 (sp_mb s ((sp_d4 (r 2) p0 p1 p2 p3)) 0)) 1 (sp_mb s ((sp_d4 (r 2) p0 p1 p2 p3)) 1)) 2 (sp_mb s ((sp_d4 (r 2) p0 p1 p2 p3)) 2))) 6 (s 15 (sp_li ((sp_d4 (r 2) p0 p1 p2 p3))))) nk (s 15 (sp_li ((sp_d4 (r 2) p0 p1 p2 p3)))) (sp_mb s ((sp_d4 (r 2) p0 p1 p2 p3)) 0) (sp_mb s ((sp_d4 (r 2) p0 p1 p2 p3)) 1) (sp_mb s ((sp_d4 (r 2) p0 p1 p2 p3)) 2) (by omega) e7) gX7_mix_X6_addCoat rfl yd_X6_addCoat ⟨rfl, rfl⟩ (by decide) (by decide) rfl rfl rfl rfl (Nat.le_of_ble_eq_true rfl) dX7_mix_79 (fun q_6 u_6 z_6 => ?_)
      obtain ⟨rfl, rfl⟩ := z_6
      show tv_V c 60 X (eX c (sp_add s nk (s 15 (sp_li ((sp_d4 (r 2) p0 p1 p2 p3)))) (sp_mb s ((sp_d4 (r 2) p0 p1 p2 p3)) 0) (sp_mb s ((sp_d4 (r 2) p0 p1 p2 p3)) 1) (sp_mb s ((sp_d4 (r 2) p0 p1 p2 p3)) 2)) (ts_s (ts_a (ts_a r 2 (sp_d4 (r 2) p0 p1 p2 p3)) 3 (upd (upd (upd (r 3) 0 (sp_mb s ((sp_d4 (r 2) p0 p1 p2 p3)) 0)) 1 (sp_mb s ((sp_d4 (r 2) p0 p1 p2 p3)) 1)) 2 (sp_mb s ((sp_d4 (r 2) p0 p1 p2 p3)) 2))) 6 (s 15 (sp_li ((sp_d4 (r 2) p0 p1 p2 p3)))))) 82 [(5, .ref (tv_ad c 11)), (0, .ref (tv_ad c 0)), (1, .int p0), (2, .int p1), (3, .int p2), (4, .int p3)] [.int (s 7 0 + 1 - 1)]
      exact hR _ _ _ _ dX7_mix_82 ⟨by first | (simp only [sp_mix, ek7, c_3, c_4, nc_4, tn_d_lt c_4, h76, if_true, ↓reduceIte]; done) | rfl | (simp [sp_mix, ek7, c_3, c_4, nc_4, tn_d_lt c_4, h76, if_true]; done) | (exfalso; clear hR C; simp_all; done), (ts_s (ts_a (ts_a r 2 (sp_d4 (r 2) p0 p1 p2 p3)) 3 (upd (upd (upd (r 3) 0 (sp_mb s ((sp_d4 (r 2) p0 p1 p2 p3)) 0)) 1 (sp_mb s ((sp_d4 (r 2) p0 p1 p2 p3)) 1)) 2 (sp_mb s ((sp_d4 (r 2) p0 p1 p2 p3)) 2))) 6 (s 15 (sp_li ((sp_d4 (r 2) p0 p1 p2 p3))))), by simp only [sp_mix, ek7, c_3, c_4, nc_4, tn_d_lt c_4, h76, ↓reduceIte]; rw [mk_li (s := s) (d := (sp_d4 (fun _ => 0) p0 p1 p2 p3)) (by assumption) hkin]; rfl⟩
    · skip
      have nc_4 : ¬ nk < 6 := tn_nf (tn_ltI e7 (tn_l 6) (by omega) (by omega)) c_4
      have h76 : s 7 0 = 6 := by rw [e7, show nk = 6 by omega]; rfl
      refine tv_bipush (v := (-4)) C dX7_mix_37 (by decide) ?_
      exact hR _ _ _ _ dX7_mix_39 ⟨by first | (simp only [sp_mix, ek7, c_3, c_4, nc_4, tn_d_nlt c_4, eq_true h76, if_true, ↓reduceIte]; done) | rfl | (simp [sp_mix, ek7, c_3, c_4, nc_4, tn_d_nlt c_4, eq_true h76, if_true]; done) | (exfalso; clear hR C; simp_all; done), (ts_a r 2 (sp_d4 (r 2) p0 p1 p2 p3)), by first | (simp only [sp_mix, ek7, c_3, c_4, nc_4, tn_d_nlt c_4, eq_true h76, if_true, ts_ss, ts_aa, ↓reduceIte]; done) | rfl | (simp [sp_mix, ek7, c_3, c_4, nc_4, tn_d_nlt c_4, eq_true h76, if_true, ts_ss, ts_aa]; done) | (exfalso; clear hR C; simp_all; done)⟩
  · skip
    refine tv_bipush (v := (-2)) C dX7_mix_22 (by decide) ?_
    exact hR _ _ _ _ dX7_mix_24 ⟨by first | (simp only [sp_mix, ek7, eq_true c_3, if_true, ↓reduceIte]; done) | rfl | (simp [sp_mix, ek7, eq_true c_3, if_true]; done) | (exfalso; clear hR C; simp_all; done), (ts_a r 2 (sp_d4 (r 2) p0 p1 p2 p3)), by first | (simp only [sp_mix, ek7, eq_true c_3, if_true, ts_ss, ts_aa, ↓reduceIte]; done) | rfl | (simp [sp_mix, ek7, eq_true c_3, if_true, ts_ss, ts_aa]; done) | (exfalso; clear hR C; simp_all; done)⟩
