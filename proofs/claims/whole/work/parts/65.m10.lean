set_option maxRecDepth 20000 in
theorem in_X8_readWall_X8 : ∀ w ∈ u_ws RX8 TX8 35, w ∈ wsX8_readWall := by decide +kernel
set_option maxRecDepth 20000 in
theorem lk_X8_readWall_85 : Cond.fieldLink RX8 85 (TX8 15).1 (TX8 15).2.1 (TX8 15).2.2.1 ∈ wsX8_readWall := by decide +kernel
set_option maxRecDepth 20000 in
theorem lk_X8_readWall_16 : Cond.fieldLink RX8 16 (TX8 4).1 (TX8 4).2.1 (TX8 4).2.2.1 ∈ wsX8_readWall := by decide +kernel
theorem yd_X8_digit : yX8_digit.cls = RX8 ∧ yX8_digit.cls ≠ "java/lang/invoke/MethodHandle" ∧ yX8_digit.cls ≠ "java/lang/invoke/VarHandle" ∧ (parseMethodDescriptor yX8_digit.desc).map (fun d => d.parameters.length) = some 3 := by decide +kernel
set_option maxRecDepth 20000 in
theorem lk_X8_readWall_106 : Cond.fieldLink RX8 106 (TX8 16).1 (TX8 16).2.1 (TX8 16).2.2.1 ∈ wsX8_readWall := by decide +kernel
set_option maxRecDepth 20000 in
theorem lk_X8_readWall_109 : Cond.fieldLink RX8 109 (TX8 17).1 (TX8 17).2.1 (TX8 17).2.2.1 ∈ wsX8_readWall := by decide +kernel
set_option maxRecDepth 20000 in
theorem lk_X8_readWall_35 : Cond.fieldLink RX8 35 (TX8 18).1 (TX8 18).2.1 (TX8 18).2.2.1 ∈ wsX8_readWall := by decide +kernel
set_option maxRecDepth 20000 in
theorem in_X8_wall_X8 : ∀ w ∈ u_ws RX8 TX8 35, w ∈ wsX8_wall := by decide +kernel
set_option maxRecDepth 20000 in
theorem lk_X8_wall_65 : Cond.fieldLink RX8 65 (TX8 0).1 (TX8 0).2.1 (TX8 0).2.2.1 ∈ wsX8_wall := by decide +kernel
set_option maxRecDepth 20000 in
theorem lk_X8_wall_85 : Cond.fieldLink RX8 85 (TX8 15).1 (TX8 15).2.1 (TX8 15).2.2.1 ∈ wsX8_wall := by decide +kernel
theorem yd_X8_readWall : yX8_readWall.cls = RX8 ∧ yX8_readWall.cls ≠ "java/lang/invoke/MethodHandle" ∧ yX8_readWall.cls ≠ "java/lang/invoke/VarHandle" ∧ (parseMethodDescriptor yX8_readWall.desc).map (fun d => d.parameters.length) = some 1 := by decide +kernel
set_option maxRecDepth 20000 in
theorem lk_X8_wall_106 : Cond.fieldLink RX8 106 (TX8 16).1 (TX8 16).2.1 (TX8 16).2.2.1 ∈ wsX8_wall := by decide +kernel
set_option maxRecDepth 20000 in
theorem lk_X8_wall_75 : Cond.fieldLink RX8 75 (TX8 5).1 (TX8 5).2.1 (TX8 5).2.2.1 ∈ wsX8_wall := by decide +kernel
set_option maxRecDepth 20000 in
theorem lk_X8_wall_109 : Cond.fieldLink RX8 109 (TX8 17).1 (TX8 17).2.1 (TX8 17).2.2.1 ∈ wsX8_wall := by decide +kernel
set_option maxRecDepth 20000 in
theorem lk_X8_wall_78 : Cond.fieldLink RX8 78 (TX8 6).1 (TX8 6).2.1 (TX8 6).2.2.1 ∈ wsX8_wall := by decide +kernel
set_option maxRecDepth 20000 in
theorem lk_X8_wall_112 : Cond.fieldLink RX8 112 (TX8 7).1 (TX8 7).2.1 (TX8 7).2.2.1 ∈ wsX8_wall := by decide +kernel
set_option maxRecDepth 20000 in
theorem lk_X8_wall_115 : Cond.fieldLink RX8 115 (TX8 8).1 (TX8 8).2.1 (TX8 8).2.2.1 ∈ wsX8_wall := by decide +kernel
set_option maxRecDepth 20000 in
theorem lk_X8_wall_118 : Cond.fieldLink RX8 118 (TX8 9).1 (TX8 9).2.1 (TX8 9).2.2.1 ∈ wsX8_wall := by decide +kernel
set_option maxRecDepth 20000 in
theorem lk_X8_wall_121 : Cond.fieldLink RX8 121 (TX8 22).1 (TX8 22).2.1 (TX8 22).2.2.1 ∈ wsX8_wall := by decide +kernel
set_option maxRecDepth 20000 in
theorem lk_X8_wall_124 : Cond.fieldLink RX8 124 (TX8 19).1 (TX8 19).2.1 (TX8 19).2.2.1 ∈ wsX8_wall := by decide +kernel
set_option maxRecDepth 20000 in
theorem lk_X8_wall_19 : Cond.fieldLink RX8 19 (TX8 10).1 (TX8 10).2.1 (TX8 10).2.2.1 ∈ wsX8_wall := by decide +kernel
set_option maxRecDepth 20000 in
theorem lk_X8_wall_35 : Cond.fieldLink RX8 35 (TX8 18).1 (TX8 18).2.1 (TX8 18).2.2.1 ∈ wsX8_wall := by decide +kernel
set_option maxRecDepth 20000 in
theorem lk_X8_wall_22 : Cond.fieldLink RX8 22 (TX8 11).1 (TX8 11).2.1 (TX8 11).2.2.1 ∈ wsX8_wall := by decide +kernel
set_option maxRecDepth 20000 in
theorem lk_X8_wall_25 : Cond.fieldLink RX8 25 (TX8 12).1 (TX8 12).2.1 (TX8 12).2.2.1 ∈ wsX8_wall := by decide +kernel
set_option maxRecDepth 20000 in
theorem lk_X8_wall_28 : Cond.fieldLink RX8 28 (TX8 13).1 (TX8 13).2.1 (TX8 13).2.2.1 ∈ wsX8_wall := by decide +kernel
set_option maxRecDepth 20000 in
theorem lk_X8_wall_31 : Cond.fieldLink RX8 31 (TX8 14).1 (TX8 14).2.1 (TX8 14).2.2.1 ∈ wsX8_wall := by decide +kernel
set_option maxHeartbeats 1000000 in
set_option maxRecDepth 100000 in
theorem kX8_readWall (c : tv_c) (s r : ts_T) (A N : Nat) (p0 : Int32) (ea : r 0 0 = nI A) (hA : A + N ≤ 160) (e_p0 : p0 = nI (A + N)) : tv_Mi c 19 yX8_readWall wsX8_readWall { frames := 2, cells := 0, slots := 0, locals := 45 } [.ref (tv_ad c 0), .int p0] (eM c s r) (fun q_0 u_0 => ∃ r_0, u_0 = eM c s r_0 ∧ rd_p s A N q_0 r_0) := by
  refine tv_metZ (by decide +kernel) rfl rfl (Nat.le_of_ble_eq_true rfl) (fun X C hR => ?_)
  show tv_V c 19 X (eM c s r) 0 [(0, .ref (tv_ad c 0)), (1, .int p0)] []
  refine tv_aload_n C dX8_readWall_0 rfl 0 rfl ?_
  refine tv_get (ci := 8) (Cn := RX8) (T := TX8) (Nf := 35) (v := .int (r 0 0)) C 0 (by decide) rfl rfl in_X8_readWall_X8 15 (by decide) lk_X8_readWall_85 rfl dX8_readWall_1 ?_
  refine tv_iload_n C dX8_readWall_4 rfl 1 rfl ?_
  refine tv_icmp_ge C 22 dX8_readWall_5 (by decide) (fun c_1 => ?_) (fun c_1 => ?_)
  · skip
    have nc_1 : (A + N) ≤ A := (tn_geI ea e_p0 (by omega) (by omega)).mp c_1
    refine tv_iconst (v := 0) C dX8_readWall_22 (by decide) ?_
    exact hR _ _ _ _ dX8_readWall_23 (by first | rfl | exact tn_nz (sp_in_z _ _ _) | exact tn_nz (sp_ix_z _ _)) (by first | exact ⟨_, rfl, rd_0l ea (by omega)⟩ | exact ⟨_, rfl, rd_0r ea (by assumption)⟩)
  · skip
    have nc_1 : ¬ (A + N) ≤ A := tn_nf (tn_geI ea e_p0 (by omega) (by omega)) c_1
    refine tv_aload_n C dX8_readWall_8 rfl 0 rfl ?_
    refine tv_get (ci := 8) (Cn := RX8) (T := TX8) (Nf := 35) (v := .ref (tv_ad c 3)) C 0 (by decide) rfl rfl in_X8_readWall_X8 4 (by decide) lk_X8_readWall_16 rfl dX8_readWall_9 ?_
    refine tv_aload_n C dX8_readWall_12 rfl 0 rfl ?_
    refine tv_get (ci := 8) (Cn := RX8) (T := TX8) (Nf := 35) (v := .int (r 0 0)) C 0 (by decide) rfl rfl in_X8_readWall_X8 15 (by decide) lk_X8_readWall_85 rfl dX8_readWall_13 ?_
    refine tv_iald (f := (s 21)) (v := (s 21 A)) C 3 (by decide) rfl A ea (show A < 160 by omega) (by decide) rfl dX8_readWall_16 ?_
    refine tv_bipush (v := 119) C dX8_readWall_17 (by decide) ?_
    refine tv_icmp_eq C 24 dX8_readWall_19 (by decide) (fun c_2 => ?_) (fun c_2 => ?_)
    · skip
      have h119 : s 21 A = 119 := by assumption
      refine tv_aload_n C dX8_readWall_24 rfl 0 rfl ?_
      refine tv_dup C dX8_readWall_25 rfl ?_
      refine tv_get (ci := 8) (Cn := RX8) (T := TX8) (Nf := 35) (v := .int (r 0 0)) C 0 (by decide) rfl rfl in_X8_readWall_X8 15 (by decide) lk_X8_readWall_85 rfl dX8_readWall_26 ?_
      refine tv_iconst (v := 1) C dX8_readWall_29 (by decide) ?_
      refine tv_iadd C dX8_readWall_30 ?_
      refine tv_put (ci := 8) (Cn := RX8) (T := TX8) (Nf := 35) (ty := .int) (E' := (eM c s (ts_s r 0 ((r 0 0) + 1)))) C 0 (by decide) rfl rfl in_X8_readWall_X8 tyX8 tyX8_ok nmX8 15 (by decide) lk_X8_readWall_85 rfl (by decide +kernel) rfl rfl (Nat.le_of_ble_eq_true rfl) (eM_u_at c s r ((r 0 0) + 1)) dX8_readWall_31 ?_
      refine tv_aload_n C dX8_readWall_34 rfl 0 rfl ?_
      refine tv_aload_n C dX8_readWall_35 rfl 0 rfl ?_
      refine tv_iload_n C dX8_readWall_36 rfl 1 rfl ?_
      refine tv_iconst (v := 1) C dX8_readWall_37 (by decide) ?_
      refine tv_iconst (v := 4) C dX8_readWall_38 (by decide) ?_
      refine tv_calli (As := [.int p0, .int 1, .int 4]) (rest := [.ref (tv_ad c 0)]) (ci := 8) (cn := RX8) (T := TX8) (Nf := 35) C 0 (kX8_digit c s (ts_s r 0 ((r 0 0) + 1)) (A + 1) (A + N) p0 1 4 e_p0 (by omega) (tn_add ea (tn_l 1)) (by omega)) gX8_readWall_X8_digit rfl yd_X8_digit ⟨rfl, rfl⟩ (by decide) (by decide) rfl rfl rfl rfl (Nat.le_of_ble_eq_true rfl) dX8_readWall_39 (fun q_3 u_3 z_3 => ?_)
      obtain ⟨rfl, rfl⟩ := z_3
      show tv_V c 19 X (eM c s (sp_dr s (ts_s r 0 ((r 0 0) + 1)) (A + 1) (A + N) 1 4)) 42 [(0, .ref (tv_ad c 0)), (1, .int p0)] [.int (sp_dv s (A + 1) (A + N) 1 4), .ref (tv_ad c 0)]
      refine tv_put (ci := 8) (Cn := RX8) (T := TX8) (Nf := 35) (ty := .int) (E' := (eM c s (ts_s (sp_dr s (ts_s r 0 ((r 0 0) + 1)) (A + 1) (A + N) 1 4) 1 (sp_dv s (A + 1) (A + N) 1 4)))) C 0 (by decide) rfl rfl in_X8_readWall_X8 tyX8 tyX8_ok nmX8 16 (by decide) lk_X8_readWall_106 rfl (by decide +kernel) rfl rfl (Nat.le_of_ble_eq_true rfl) (eM_u_readHigh c s (sp_dr s (ts_s r 0 ((r 0 0) + 1)) (A + 1) (A + N) 1 4) (sp_dv s (A + 1) (A + N) 1 4)) dX8_readWall_42 ?_
      refine tv_aload_n C dX8_readWall_45 rfl 0 rfl ?_
      refine tv_get (ci := 8) (Cn := RX8) (T := TX8) (Nf := 35) (v := .int (sp_dv s (A + 1) (A + N) 1 4)) C 0 (by decide) rfl rfl in_X8_readWall_X8 16 (by decide) lk_X8_readWall_106 rfl dX8_readWall_46 ?_
      refine tv_bipush (v := (-9)) C dX8_readWall_49 (by decide) ?_
      refine tv_icmp_ne C 56 dX8_readWall_51 (by decide) (fun c_4 => ?_) (fun c_4 => ?_)
      · skip
        have u0 : ¬ sp_dv s (A + 1) (A + N) 1 4 = -9 := by assumption
        have u1 := dv_ok1 u0
        obtain ⟨th, t1, t2, eth, ekth, -⟩ := dig (a := 49) (b := 52) u1.2 (by decide) (by decide) (by decide)
        refine tv_eqE (E' := (eM c s (ts_s (ts_s r 0 (nI (A + 1 + 1))) 1 (nI th)))) (congrArg (eM c s) (dv_st 1 (by decide) u0 (tn_add ea (tn_l 1)) eth)) ?_
        refine tv_aload_n C dX8_readWall_56 rfl 0 rfl ?_
        refine tv_aload_n C dX8_readWall_57 rfl 0 rfl ?_
        refine tv_iload_n C dX8_readWall_58 rfl 1 rfl ?_
        refine tv_iconst (v := 2) C dX8_readWall_59 (by decide) ?_
        refine tv_bipush (v := 6) C dX8_readWall_60 (by decide) ?_
        refine tv_calli (As := [.int p0, .int 2, .int 6]) (rest := [.ref (tv_ad c 0)]) (ci := 8) (cn := RX8) (T := TX8) (Nf := 35) C 0 (kX8_digit c s (ts_s (ts_s r 0 (nI (A + 1 + 1))) 1 (nI th)) (A + 1 + 1) (A + N) p0 2 6 e_p0 (by omega) rfl (by omega)) gX8_readWall_X8_digit rfl yd_X8_digit ⟨rfl, rfl⟩ (by decide) (by decide) rfl rfl rfl rfl (Nat.le_of_ble_eq_true rfl) dX8_readWall_62 (fun q_5 u_5 z_5 => ?_)
        obtain ⟨rfl, rfl⟩ := z_5
        show tv_V c 19 X (eM c s (sp_dr s (ts_s (ts_s r 0 (nI (A + 1 + 1))) 1 (nI th)) (A + 1 + 1) (A + N) 2 6)) 65 [(0, .ref (tv_ad c 0)), (1, .int p0)] [.int (sp_dv s (A + 1 + 1) (A + N) 2 6), .ref (tv_ad c 0)]
        refine tv_put (ci := 8) (Cn := RX8) (T := TX8) (Nf := 35) (ty := .int) (E' := (eM c s (ts_s (sp_dr s (ts_s (ts_s r 0 (nI (A + 1 + 1))) 1 (nI th)) (A + 1 + 1) (A + N) 2 6) 2 (sp_dv s (A + 1 + 1) (A + N) 2 6)))) C 0 (by decide) rfl rfl in_X8_readWall_X8 tyX8 tyX8_ok nmX8 17 (by decide) lk_X8_readWall_109 rfl (by decide +kernel) rfl rfl (Nat.le_of_ble_eq_true rfl) (eM_u_readWide c s (sp_dr s (ts_s (ts_s r 0 (nI (A + 1 + 1))) 1 (nI th)) (A + 1 + 1) (A + N) 2 6) (sp_dv s (A + 1 + 1) (A + N) 2 6)) dX8_readWall_65 ?_
        refine tv_aload_n C dX8_readWall_68 rfl 0 rfl ?_
        refine tv_get (ci := 8) (Cn := RX8) (T := TX8) (Nf := 35) (v := .int (sp_dv s (A + 1 + 1) (A + N) 2 6)) C 0 (by decide) rfl rfl in_X8_readWall_X8 17 (by decide) lk_X8_readWall_109 rfl dX8_readWall_69 ?_
        refine tv_bipush (v := (-9)) C dX8_readWall_72 (by decide) ?_
        refine tv_icmp_ne C 79 dX8_readWall_74 (by decide) (fun c_6 => ?_) (fun c_6 => ?_)
        · skip
          have u2 : ¬ sp_dv s (A + 1 + 1) (A + N) 2 6 = -9 := by assumption
          have u3 := dv_ok2 u2
          obtain ⟨tw, t3, t4, etw, ektw, -⟩ := dig (a := 50) (b := 54) u3.2 (by decide) (by decide) (by decide)
          refine tv_eqE (E' := (eM c s (ts_s (ts_s (ts_s (ts_s r 0 (nI (A + 1 + 1))) 1 (nI th)) 0 (nI (A + 1 + 1 + 1))) 2 (nI tw)))) (congrArg (eM c s) (dv_st2 (v := 0) u2 rfl etw)) ?_
          have f3 : fw (fun q => s 21 (A + q)) N = fw_r (fun q => s 21 (A + q)) N th tw := fw_3 h119 (by omega) u1.2 u3.2 eth etw (by omega) (by omega)
          refine tv_iconst (v := 0) C dX8_readWall_79 (by decide) ?_
          refine tv_istore_n (lv' := [(2, .int 0), (0, .ref (tv_ad c 0)), (1, .int p0)]) C dX8_readWall_80 rfl (by decide) rfl ?_
          have hL81 : ∀ (k_81 i : Nat) (x_81_2 : Int32) (rr : ts_T), i + k_81 = th → (rr 0 0 = nI (A + (3 + i * (tw + 1)))) → (rr 1 0 = nI th) → (rr 2 0 = nI tw) → (∀ q, q < i * (tw + 1) → fw_ok (fun q => s 21 (A + q)) N tw q = true) → (∀ q, q < i * tw → rr 3 q = fw_sun (fun q => s 21 (A + q)) tw q) → x_81_2 = (nI i) → tv_V c 19 X (eM c s rr) 81 [(0, .ref (tv_ad c 0)), (1, .int p0), (2, .int x_81_2)] [] := by
            intro k_81
            induction k_81 with
            | zero =>
              intro i x_81_2 rr hi81 h0 h1 h2 h3 h4 ex_81_2
              subst ex_81_2
              have hN81 : i = th := by omega
              have hB : i * (tw + 1) ≤ 4 * 7 := Nat.mul_le_mul (by omega) (by omega)
              refine tv_iload_n C dX8_readWall_81 rfl 2 rfl ?_
              refine tv_aload_n C dX8_readWall_82 rfl 0 rfl ?_
              refine tv_get (ci := 8) (Cn := RX8) (T := TX8) (Nf := 35) (v := .int (rr 1 0)) C 0 (by decide) rfl rfl in_X8_readWall_X8 16 (by decide) lk_X8_readWall_106 rfl dX8_readWall_83 ?_
              refine tv_icmp_ge C 179 dX8_readWall_86 (by decide) (fun c_7 => ?_) (fun c_7 => absurd (tn_le h1 (rfl : nI i = nI i) (by omega) (by omega)) c_7)
              refine tv_aload_n C dX8_readWall_179 rfl 0 rfl ?_
              refine tv_get (ci := 8) (Cn := RX8) (T := TX8) (Nf := 35) (v := .int (rr 0 0)) C 0 (by decide) rfl rfl in_X8_readWall_X8 15 (by decide) lk_X8_readWall_85 rfl dX8_readWall_180 ?_
              refine tv_iload_n C dX8_readWall_183 rfl 1 rfl ?_
              refine tv_icmp_ne C 191 dX8_readWall_184 (by decide) (fun c_8 => ?_) (fun c_8 => ?_)
              · skip
                have nc_8 : ¬ (A + (3 + i * (tw + 1))) = (A + N) := tn_nf (tn_eqI h0 e_p0 (by omega) (by omega)) c_8
                refine tv_iconst (v := 0) C dX8_readWall_191 (by decide) ?_
                exact hR _ _ _ _ dX8_readWall_192 (by first | rfl | exact tn_nz (sp_in_z _ _ _) | exact tn_nz (sp_ix_z _ _)) (by subst hN81; exact ⟨_, rfl, rd_e f3 h3 (by omega) h0 (by first | exact Or.inl ⟨rfl, by assumption⟩ | exact Or.inr ⟨rfl, by assumption⟩) (by omega) (by omega) eth etw h1 h2 h4⟩)
              · skip
                have nc_8 : (A + (3 + i * (tw + 1))) = (A + N) := (tn_eqI h0 e_p0 (by omega) (by omega)).mp c_8
                refine tv_iconst (v := 1) C dX8_readWall_187 (by decide) ?_
                refine tv_goto C 192 dX8_readWall_188 (by decide) ?_
                exact hR _ _ _ _ dX8_readWall_192 (by first | rfl | exact tn_nz (sp_in_z _ _ _) | exact tn_nz (sp_ix_z _ _)) (by subst hN81; exact ⟨_, rfl, rd_e f3 h3 (by omega) h0 (by first | exact Or.inl ⟨rfl, by assumption⟩ | exact Or.inr ⟨rfl, by assumption⟩) (by omega) (by omega) eth etw h1 h2 h4⟩)
            | succ k_81 ih81 =>
              intro i x_81_2 rr hi81 h0 h1 h2 h3 h4 ex_81_2
              subst ex_81_2
              have hN81 : i < th := by omega
              have hB : i * (tw + 1) ≤ 4 * 7 := Nat.mul_le_mul (by omega) (by omega)
              have hD : tw * i + tw ≤ 6 * 4 := by rw [← Nat.mul_succ]; exact Nat.mul_le_mul (by omega) (by omega)
              have hS : (i + 1) * (tw + 1) ≤ th * (tw + 1) := Nat.mul_le_mul_right _ hN81
              rw [Nat.succ_mul] at hS
              refine tv_iload_n C dX8_readWall_81 rfl 2 rfl ?_
              refine tv_aload_n C dX8_readWall_82 rfl 0 rfl ?_
              refine tv_get (ci := 8) (Cn := RX8) (T := TX8) (Nf := 35) (v := .int (rr 1 0)) C 0 (by decide) rfl rfl in_X8_readWall_X8 16 (by decide) lk_X8_readWall_106 rfl dX8_readWall_83 ?_
              refine tv_icmp_ge C 179 dX8_readWall_86 (by decide) (fun c_9 => absurd c_9 (tn_nle h1 (rfl : nI i = nI i) (by omega) (by omega))) (fun c_9 => ?_)
              refine tv_aload_n C dX8_readWall_89 rfl 0 rfl ?_
              refine tv_get (ci := 8) (Cn := RX8) (T := TX8) (Nf := 35) (v := .int (rr 0 0)) C 0 (by decide) rfl rfl in_X8_readWall_X8 15 (by decide) lk_X8_readWall_85 rfl dX8_readWall_90 ?_
              refine tv_iload_n C dX8_readWall_93 rfl 1 rfl ?_
              refine tv_icmp_ge C 111 dX8_readWall_94 (by decide) (fun c_10 => ?_) (fun c_10 => ?_)
              · skip
                have nc_10 : (A + N) ≤ (A + (3 + i * (tw + 1))) := (tn_geI h0 e_p0 (by omega) (by omega)).mp c_10
                refine tv_iconst (v := 0) C dX8_readWall_111 (by decide) ?_
                exact hR _ _ _ _ dX8_readWall_112 (by first | rfl | exact tn_nz (sp_in_z _ _ _) | exact tn_nz (sp_ix_z _ _)) (by first | exact ⟨_, rfl, rd_f f3 h3 (ok_f1 (by omega)) (by omega) h0⟩ | exact ⟨_, rfl, rd_f f3 h3 (ok_f2 (by rw [fit_0]; exact decide_eq_false (by assumption))) (by omega) h0⟩)
              · skip
                have nc_10 : ¬ (A + N) ≤ (A + (3 + i * (tw + 1))) := tn_nf (tn_geI h0 e_p0 (by omega) (by omega)) c_10
                refine tv_aload_n C dX8_readWall_97 rfl 0 rfl ?_
                refine tv_get (ci := 8) (Cn := RX8) (T := TX8) (Nf := 35) (v := .ref (tv_ad c 3)) C 0 (by decide) rfl rfl in_X8_readWall_X8 4 (by decide) lk_X8_readWall_16 rfl dX8_readWall_98 ?_
                refine tv_aload_n C dX8_readWall_101 rfl 0 rfl ?_
                refine tv_get (ci := 8) (Cn := RX8) (T := TX8) (Nf := 35) (v := .int (rr 0 0)) C 0 (by decide) rfl rfl in_X8_readWall_X8 15 (by decide) lk_X8_readWall_85 rfl dX8_readWall_102 ?_
                refine tv_iald (f := (s 21)) (v := (s 21 (A + (3 + i * (tw + 1))))) C 3 (by decide) rfl (A + (3 + i * (tw + 1))) h0 (show (A + (3 + i * (tw + 1))) < 160 by omega) (by decide) rfl dX8_readWall_105 ?_
                refine tv_bipush (v := 59) C dX8_readWall_106 (by decide) ?_
                refine tv_icmp_eq C 113 dX8_readWall_108 (by decide) (fun c_11 => ?_) (fun c_11 => ?_)
                · skip
                  refine tv_aload_n C dX8_readWall_113 rfl 0 rfl ?_
                  refine tv_dup C dX8_readWall_114 rfl ?_
                  refine tv_get (ci := 8) (Cn := RX8) (T := TX8) (Nf := 35) (v := .int (rr 0 0)) C 0 (by decide) rfl rfl in_X8_readWall_X8 15 (by decide) lk_X8_readWall_85 rfl dX8_readWall_115 ?_
                  refine tv_iconst (v := 1) C dX8_readWall_118 (by decide) ?_
                  refine tv_iadd C dX8_readWall_119 ?_
                  refine tv_put (ci := 8) (Cn := RX8) (T := TX8) (Nf := 35) (ty := .int) (E' := (eM c s (ts_s rr 0 ((rr 0 0) + 1)))) C 0 (by decide) rfl rfl in_X8_readWall_X8 tyX8 tyX8_ok nmX8 15 (by decide) lk_X8_readWall_85 rfl (by decide +kernel) rfl rfl (Nat.le_of_ble_eq_true rfl) (eM_u_at c s rr ((rr 0 0) + 1)) dX8_readWall_120 ?_
                  refine tv_iconst (v := 0) C dX8_readWall_123 (by decide) ?_
                  refine tv_istore_n (lv' := [(3, .int 0), (0, .ref (tv_ad c 0)), (1, .int p0), (2, .int (nI i))]) C dX8_readWall_124 rfl (by decide) rfl ?_
                  have hL125 : ∀ (k_125 m : Nat) (x_125_3 : Int32) (r2 : ts_T), m + k_125 = tw → (r2 0 0 = nI (A + (3 + (i * (tw + 1) + 1 + m)))) → (r2 1 0 = nI th) → (r2 2 0 = nI tw) → (∀ q, q < i * (tw + 1) + 1 + m → fw_ok (fun q => s 21 (A + q)) N tw q = true) → (∀ q, q < i * tw + m → r2 3 q = fw_sun (fun q => s 21 (A + q)) tw q) → x_125_3 = (nI m) → tv_V c 19 X (eM c s r2) 125 [(0, .ref (tv_ad c 0)), (1, .int p0), (2, .int (nI i)), (3, .int x_125_3)] [] := by
                    intro k_125
                    induction k_125 with
                    | zero =>
                      intro m x_125_3 r2 hi125 g0 g1 g2 g3 g4 ex_125_3
                      subst ex_125_3
                      have hN125 : m = tw := by omega
                      refine tv_iload_n C dX8_readWall_125 rfl 3 rfl ?_
                      refine tv_aload_n C dX8_readWall_126 rfl 0 rfl ?_
                      refine tv_get (ci := 8) (Cn := RX8) (T := TX8) (Nf := 35) (v := .int (r2 2 0)) C 0 (by decide) rfl rfl in_X8_readWall_X8 17 (by decide) lk_X8_readWall_109 rfl dX8_readWall_127 ?_
                      refine tv_icmp_ge C 173 dX8_readWall_130 (by decide) (fun c_12 => ?_) (fun c_12 => absurd (tn_le g2 (rfl : nI m = nI m) (by omega) (by omega)) c_12)
                      refine tv_iinc (v := ((nI i) + 1)) (lv' := [(2, .int ((nI i) + 1)), (0, .ref (tv_ad c 0)), (1, .int p0), (3, .int (nI m))]) C dX8_readWall_173 2 rfl rfl (by decide) rfl ?_
                      refine tv_goto C 81 dX8_readWall_176 (by decide) ?_
                      refine tv_lsub [1, 2, 0] rfl ?_
                      exact ih81 (i + 1) _ r2 (by omega) (by rw [g0, Nat.succ_mul]; congr 1; omega) (by exact g1) (by exact g2) (by rw [Nat.succ_mul]; intro q hq; exact g3 q (by omega)) (by rw [Nat.succ_mul]; intro q hq; exact g4 q (by omega)) (by first | rfl | exact nI_1 _ | (simp only [c_1, nc_1, tn_d_nle c_1, eq_true c_2, c_4, c_6, c_9, c_10, nc_10, tn_d_nle c_10, eq_true c_11, c_12, if_true, ↓reduceIte]; done) | (simp [c_1, nc_1, tn_d_nle c_1, eq_true c_2, c_4, c_6, c_9, c_10, nc_10, tn_d_nle c_10, eq_true c_11, c_12, if_true]; done) | (exfalso; clear hR C; simp_all; done))
                    | succ k_125 ih125 =>
                      intro m x_125_3 r2 hi125 g0 g1 g2 g3 g4 ex_125_3
                      subst ex_125_3
                      have hN125 : m < tw := by omega
                      have hM := ok_lt (g3 (i * (tw + 1) + m) (by omega))
                      refine tv_iload_n C dX8_readWall_125 rfl 3 rfl ?_
                      refine tv_aload_n C dX8_readWall_126 rfl 0 rfl ?_
                      refine tv_get (ci := 8) (Cn := RX8) (T := TX8) (Nf := 35) (v := .int (r2 2 0)) C 0 (by decide) rfl rfl in_X8_readWall_X8 17 (by decide) lk_X8_readWall_109 rfl dX8_readWall_127 ?_
                      refine tv_icmp_ge C 173 dX8_readWall_130 (by decide) (fun c_13 => absurd c_13 (tn_nle g2 (rfl : nI m = nI m) (by omega) (by omega))) (fun c_13 => ?_)
                      refine tv_aload_n C dX8_readWall_133 rfl 0 rfl ?_
                      refine tv_iload_n C dX8_readWall_134 rfl 1 rfl ?_
                      refine tv_iconst (v := 0) C dX8_readWall_135 (by decide) ?_
                      refine tv_bipush (v := 9) C dX8_readWall_136 (by decide) ?_
                      refine tv_calli (As := [.int p0, .int 0, .int 9]) (rest := []) (ci := 8) (cn := RX8) (T := TX8) (Nf := 35) C 0 (kX8_digit c s r2 (A + (3 + (i * (tw + 1) + 1 + m))) (A + N) p0 0 9 e_p0 (by omega) g0 (by omega)) gX8_readWall_X8_digit rfl yd_X8_digit ⟨rfl, rfl⟩ (by decide) (by decide) rfl rfl rfl rfl (Nat.le_of_ble_eq_true rfl) dX8_readWall_138 (fun q_14 u_14 z_14 => ?_)
                      obtain ⟨rfl, rfl⟩ := z_14
                      refine tv_istore (lv' := [(4, .int (sp_dv s (A + (3 + (i * (tw + 1) + 1 + m))) (A + N) 0 9)), (0, .ref (tv_ad c 0)), (1, .int p0), (2, .int (nI i)), (3, .int (nI m))]) C dX8_readWall_141 (by decide) rfl ?_
                      refine tv_iload C dX8_readWall_143 0 rfl ?_
                      refine tv_bipush (v := (-9)) C dX8_readWall_145 (by decide) ?_
                      refine tv_icmp_ne C 152 dX8_readWall_147 (by decide) (fun c_15 => ?_) (fun c_15 => ?_)
                      · skip
                        have u4 : ¬ sp_dv s (A + (3 + (i * (tw + 1) + 1 + m))) (A + N) 0 9 = -9 := by assumption
                        have u5 := dv_ok3 u4
                        refine tv_eqE (E' := (eM c s (ts_s r2 0 (nI ((A + (3 + (i * (tw + 1) + 1 + m))) + 1))))) (congrArg (eM c s) (dv_st3 u4 g0)) ?_
                        refine tv_aload_n C dX8_readWall_152 rfl 1 rfl ?_
                        refine tv_get (ci := 8) (Cn := RX8) (T := TX8) (Nf := 35) (v := .ref (tv_ad c 9)) C 0 (by decide) rfl rfl in_X8_readWall_X8 18 (by decide) lk_X8_readWall_35 rfl dX8_readWall_153 ?_
                        refine tv_aload_n C dX8_readWall_156 rfl 1 rfl ?_
                        refine tv_get (ci := 8) (Cn := RX8) (T := TX8) (Nf := 35) (v := .int (r2 2 0)) C 0 (by decide) rfl rfl in_X8_readWall_X8 17 (by decide) lk_X8_readWall_109 rfl dX8_readWall_157 ?_
                        refine tv_iload_n C dX8_readWall_160 rfl 3 rfl ?_
                        refine tv_imul C dX8_readWall_161 ?_
                        refine tv_iload_n C dX8_readWall_162 rfl 4 rfl ?_
                        refine tv_iadd C dX8_readWall_163 ?_
                        refine tv_iload C dX8_readWall_164 0 rfl ?_
                        refine tv_iast (E' := (eM c s (ts_a (ts_s r2 0 (nI ((A + (3 + (i * (tw + 1) + 1 + m))) + 1))) 3 (upd (r2 3) ((tw * i) + m) (sp_dv s (A + (3 + (i * (tw + 1) + 1 + m))) (A + N) 0 9))))) C 9 (by decide) rfl ((tw * i) + m) (tn_add (tn_mul g2 (rfl : nI i = nI i)) (rfl : nI m = nI m)) (show ((tw * i) + m) < 24 by omega) (by decide) (eM_u_readSun c s (ts_s r2 0 (nI ((A + (3 + (i * (tw + 1) + 1 + m))) + 1))) (upd (r2 3) ((tw * i) + m) (sp_dv s (A + (3 + (i * (tw + 1) + 1 + m))) (A + N) 0 9))) dX8_readWall_166 ?_
                        refine tv_iinc (v := ((nI m) + 1)) (lv' := [(3, .int ((nI m) + 1)), (4, .int (sp_dv s (A + (3 + (i * (tw + 1) + 1 + m))) (A + N) 0 9)), (0, .ref (tv_ad c 0)), (1, .int p0), (2, .int (nI i))]) C dX8_readWall_167 4 rfl rfl (by decide) rfl ?_
                        refine tv_goto C 125 dX8_readWall_170 (by decide) ?_
                        refine tv_lsub [2, 3, 4, 0] rfl ?_
                        exact ih125 (m + 1) _ (ts_a (ts_s r2 0 (nI ((A + (3 + (i * (tw + 1) + 1 + m))) + 1))) 3 (upd (r2 3) ((tw * i) + m) (sp_dv s (A + (3 + (i * (tw + 1) + 1 + m))) (A + N) 0 9))) (by omega) (by show nI ((A + (3 + (i * (tw + 1) + 1 + m))) + 1) = _; congr 1) (by exact g1) (by exact g2) (by exact ok_s g3 (ok_t (q := i * (tw + 1) + 1 + m) (by omega) (by rw [fit_m hN125]; exact fun z => absurd u5.2.1 (of_decide_eq_false z)))) (by exact sun_s hN125 g4 u5.2.2) (by first | rfl | exact nI_1 _ | (simp only [c_1, nc_1, tn_d_nle c_1, eq_true c_2, c_4, c_6, c_9, c_10, nc_10, tn_d_nle c_10, eq_true c_11, c_13, c_15, if_true, ↓reduceIte]; done) | (simp [c_1, nc_1, tn_d_nle c_1, eq_true c_2, c_4, c_6, c_9, c_10, nc_10, tn_d_nle c_10, eq_true c_11, c_13, c_15, if_true]; done) | (exfalso; clear hR C; simp_all; done))
                      · skip
                        refine tv_iconst (v := 0) C dX8_readWall_150 (by decide) ?_
                        exact hR _ _ _ _ dX8_readWall_151 (by first | rfl | exact tn_nz (sp_in_z _ _ _) | exact tn_nz (sp_ix_z _ _)) (by exact ⟨_, rfl, rd_fd hN125 f3 g3 (by omega) g0 (by assumption)⟩)
                  refine tv_lsub [1, 2, 3, 0] rfl ?_
                  exact hL125 (tw - 0) 0 _ (ts_s rr 0 ((rr 0 0) + 1)) (by omega) (by show rr 0 0 + 1 = _; rw [h0, nI_1]; congr 1) (by exact h1) (by exact h2) (by exact ok_s h3 (ok_t (q := i * (tw + 1)) (by omega) (by rw [fit_0]; exact fun z => absurd (by assumption) (of_decide_eq_false z)))) (by exact h4) (by first | (simp only [c_1, nc_1, tn_d_nle c_1, eq_true c_2, c_4, c_6, c_9, c_10, nc_10, tn_d_nle c_10, eq_true c_11, if_true, ↓reduceIte]; done) | rfl | (simp [c_1, nc_1, tn_d_nle c_1, eq_true c_2, c_4, c_6, c_9, c_10, nc_10, tn_d_nle c_10, eq_true c_11, if_true]; done) | (exfalso; clear hR C; simp_all; done))
                · skip
                  refine tv_iconst (v := 0) C dX8_readWall_111 (by decide) ?_
                  exact hR _ _ _ _ dX8_readWall_112 (by first | rfl | exact tn_nz (sp_in_z _ _ _) | exact tn_nz (sp_ix_z _ _)) (by first | exact ⟨_, rfl, rd_f f3 h3 (ok_f1 (by omega)) (by omega) h0⟩ | exact ⟨_, rfl, rd_f f3 h3 (ok_f2 (by rw [fit_0]; exact decide_eq_false (by assumption))) (by omega) h0⟩)
          refine tv_lsub [1, 2, 0] rfl ?_
          exact hL81 (th - 0) 0 _ (ts_s (ts_s (ts_s (ts_s r 0 (nI (A + 1 + 1))) 1 (nI th)) 0 (nI (A + 1 + 1 + 1))) 2 (nI tw)) (by omega) (by show nI (A + 1 + 1 + 1) = _; rw [Nat.zero_mul]) (by rfl) (by rfl) (by rw [Nat.zero_mul]; intro q hq; exact absurd hq (Nat.not_lt_zero q)) (by rw [Nat.zero_mul]; intro q hq; exact absurd hq (Nat.not_lt_zero q)) (by first | (simp only [c_1, nc_1, tn_d_nle c_1, eq_true c_2, c_4, c_6, if_true, ↓reduceIte]; done) | rfl | (simp [c_1, nc_1, tn_d_nle c_1, eq_true c_2, c_4, c_6, if_true]; done) | (exfalso; clear hR C; simp_all; done))
        · skip
          refine tv_iconst (v := 0) C dX8_readWall_77 (by decide) ?_
          exact hR _ _ _ _ dX8_readWall_78 (by first | rfl | exact tn_nz (sp_in_z _ _ _) | exact tn_nz (sp_ix_z _ _)) (by exact ⟨_, rfl, rd_2 h119 u1.1 u1.2 (by assumption)⟩)
      · skip
        refine tv_iconst (v := 0) C dX8_readWall_54 (by decide) ?_
        exact hR _ _ _ _ dX8_readWall_55 (by first | rfl | exact tn_nz (sp_in_z _ _ _) | exact tn_nz (sp_ix_z _ _)) (by exact ⟨_, rfl, rd_1 ea h119 (by omega) (by assumption)⟩)
    · skip
      refine tv_iconst (v := 0) C dX8_readWall_22 (by decide) ?_
      exact hR _ _ _ _ dX8_readWall_23 (by first | rfl | exact tn_nz (sp_in_z _ _ _) | exact tn_nz (sp_ix_z _ _)) (by first | exact ⟨_, rfl, rd_0l ea (by omega)⟩ | exact ⟨_, rfl, rd_0r ea (by assumption)⟩)
set_option maxHeartbeats 1000000 in
set_option maxRecDepth 100000 in
theorem kX8_wall (c : tv_c) (s r : ts_T)  (p0 p1 p2 p3 : Int32) (hI : iv s) : tv_Mi c 19 yX8_wall wsX8_wall { frames := 3, cells := 0, slots := 0, locals := 69 } [.ref (tv_ad c 0), .int p0, .int p1, .int p2, .int p3] (eM c s r) (fun q_0 u_0 => q_0 = (sp_wall s p0 p1 p2 p3).1 ∧ ∃ r_0, u_0 = eM c (sp_wall s p0 p1 p2 p3).2 r_0) := by
  refine tv_metI (by decide +kernel) rfl rfl (Nat.le_of_ble_eq_true rfl) (fun X C hR => ?_)
  show tv_V c 19 X (eM c s r) 0 [(0, .ref (tv_ad c 0)), (1, .int p0), (2, .int p1), (3, .int p2), (4, .int p3)] []
  have hC := iv.hC hI
  obtain ⟨h, w, n, nk, nl, ny, nm, li, e2, e3, e9, hnw, hh, hw, hn, hz, hp, e7, hk, e8, hl, e4, hy, e5, hm, e6, hli, hcel, hkin, hban, hwei, hshe⟩ := id hI
  refine tv_aload_n C dX8_wall_0 rfl 0 rfl ?_
  refine tv_iconst (v := 0) C dX8_wall_1 (by decide) ?_
  refine tv_put (ci := 8) (Cn := RX8) (T := TX8) (Nf := 35) (ty := .int) (E' := (eM c (ts_s s 0 0) r)) C 0 (by decide) rfl rfl in_X8_wall_X8 tyX8 tyX8_ok nmX8 0 (by decide) lk_X8_wall_65 rfl (by decide +kernel) rfl rfl (Nat.le_of_ble_eq_true rfl) (eM_u_fault c s r 0) dX8_wall_2 ?_
  refine tv_iload_n C dX8_wall_5 rfl 1 rfl ?_
  refine tv_callis (As := [.int p0]) (rest := []) C (kX8_isSheet c (ts_s s 0 0) r  p0 ) gX8_wall_X8_isSheet rfl yd_X8_isSheet ⟨rfl, rfl⟩ (by decide) rfl rfl (Nat.le_of_ble_eq_true rfl) dX8_wall_6 (fun q_1 u_1 z_1 => ?_)
  obtain ⟨rfl, rfl⟩ := z_1
  show tv_V c 19 X (eM c (ts_s s 0 0) r) 9 [(0, .ref (tv_ad c 0)), (1, .int p0), (2, .int p1), (3, .int p2), (4, .int p3)] [.int (sp_in p0 0 3)]
  refine tv_if_ne C 14 dX8_wall_9 (by decide) (fun c_2 => ?_) (fun c_2 => ?_)
  · skip
    obtain ⟨j_p0, hj_p0, ej_p0, ek_p0⟩ := in_in (b := 3) (by decide) c_2
    refine tv_iload_n C dX8_wall_14 rfl 2 rfl ?_
    refine tv_callis (As := [.int p1]) (rest := []) C (kX8_isSort c (ts_s s 0 0) r  p1 ) gX8_wall_X8_isSort rfl yd_X8_isSort ⟨rfl, rfl⟩ (by decide) rfl rfl (Nat.le_of_ble_eq_true rfl) dX8_wall_15 (fun q_3 u_3 z_3 => ?_)
    obtain ⟨rfl, rfl⟩ := z_3
    show tv_V c 19 X (eM c (ts_s s 0 0) r) 18 [(0, .ref (tv_ad c 0)), (1, .int p0), (2, .int p1), (3, .int p2), (4, .int p3)] [.int (sp_in p1 0 2)]
    refine tv_if_ne C 24 dX8_wall_18 (by decide) (fun c_4 => ?_) (fun c_4 => ?_)
    · skip
      obtain ⟨j_p1, hj_p1, ej_p1, ek_p1⟩ := in_in (b := 2) (by decide) c_4
      refine tv_aload_n C dX8_wall_24 rfl 0 rfl ?_
      refine tv_iload_n C dX8_wall_25 rfl 1 rfl ?_
      refine tv_iload_n C dX8_wall_26 rfl 2 rfl ?_
      refine tv_iload_n C dX8_wall_27 rfl 3 rfl ?_
      refine tv_iload C dX8_wall_28 4 rfl ?_
      refine tv_calli (As := [.int p0, .int p1, .int p2, .int p3]) (rest := []) (ci := 8) (cn := RX8) (T := TX8) (Nf := 35) C 0 (kX8_against c (ts_s s 0 0) r j_p0 p0 p1 p2 p3 ej_p0 (by omega) (hshe j_p0 (by omega))) gX8_wall_X8_against rfl yd_X8_against ⟨rfl, rfl⟩ (by decide) (by decide) rfl rfl rfl rfl (Nat.le_of_ble_eq_true rfl) dX8_wall_30 (fun q_5 u_5 z_5 => ?_)
      obtain ⟨rfl, rfl⟩ := z_5
      rw [show sp_ag (ts_s s 0 0) j_p0 p1 p2 p3 = sp_wf s j_p0 p1 p2 p3 from ag_wf s j_p0 p1 p2 p3]
      show tv_V c 19 X (eM c (ts_s s 0 0) r) 33 [(0, .ref (tv_ad c 0)), (1, .int p0), (2, .int p1), (3, .int p2), (4, .int p3)] [.int (sp_wf s j_p0 p1 p2 p3)]
      refine tv_istore (lv' := [(5, .int (sp_wf s j_p0 p1 p2 p3)), (0, .ref (tv_ad c 0)), (1, .int p0), (2, .int p1), (3, .int p2), (4, .int p3)]) C dX8_wall_33 (by decide) rfl ?_
      refine tv_iload C dX8_wall_35 0 rfl ?_
      refine tv_if_eq C 47 dX8_wall_37 (by decide) (fun c_6 => ?_) (fun c_6 => ?_)
      · skip
        obtain ⟨a, d, L1, ea, ed, eL1, hL1, hab0, eka, ekd⟩ := rc_n1 (hshe j_p0 (by omega)).2.2 (i := p2) (n := p3) (wf_0 (by assumption))
        have ewf : (fun q => s 21 (40 * j_p0 + a + q)) = (wl_f s p0 p2) := by unfold wl_f; rw [ek_p0, eka]
        refine tv_bipush (v := 40) C dX8_wall_47 (by decide) ?_
        refine tv_iload_n C dX8_wall_49 rfl 2 rfl ?_
        refine tv_imul C dX8_wall_50 ?_
        refine tv_iload_n C dX8_wall_51 rfl 4 rfl ?_
        refine tv_iadd C dX8_wall_52 ?_
        rw [tn_add (tn_mul (tn_l 40) ej_p0) ea]
        refine tv_istore (lv' := [(6, .int (nI (40 * j_p0 + a))), (5, .int (sp_wf s j_p0 p1 p2 p3)), (0, .ref (tv_ad c 0)), (1, .int p0), (2, .int p1), (3, .int p2), (4, .int p3)]) C dX8_wall_53 (by decide) rfl ?_
        refine tv_aload_n C dX8_wall_55 rfl 2 rfl ?_
        refine tv_iload C dX8_wall_56 0 rfl ?_
        refine tv_put (ci := 8) (Cn := RX8) (T := TX8) (Nf := 35) (ty := .int) (E' := (eM c (ts_s s 0 0) (ts_s r 0 (nI (40 * j_p0 + a))))) C 0 (by decide) rfl rfl in_X8_wall_X8 tyX8 tyX8_ok nmX8 15 (by decide) lk_X8_wall_85 rfl (by decide +kernel) rfl rfl (Nat.le_of_ble_eq_true rfl) (eM_u_at c (ts_s s 0 0) r (nI (40 * j_p0 + a))) dX8_wall_58 ?_
        refine tv_aload_n C dX8_wall_61 rfl 2 rfl ?_
        refine tv_iload C dX8_wall_62 0 rfl ?_
        refine tv_iload C dX8_wall_64 6 rfl ?_
        refine tv_iadd C dX8_wall_66 ?_
        refine tv_calli (As := [.int ((nI (40 * j_p0 + a)) + p3)]) (rest := []) (ci := 8) (cn := RX8) (T := TX8) (Nf := 35) C 0 (kX8_readWall c (ts_s s 0 0) (ts_s r 0 (nI (40 * j_p0 + a))) (40 * j_p0 + a) d ((nI (40 * j_p0 + a)) + p3) rfl (by omega) (tn_add (rfl : nI (40 * j_p0 + a) = nI (40 * j_p0 + a)) ed)) gX8_wall_X8_readWall rfl yd_X8_readWall ⟨rfl, rfl⟩ (by decide) (by decide) rfl rfl rfl rfl (Nat.le_of_ble_eq_true rfl) dX8_wall_67 (fun q_7 u_7 z_7 => ?_)
        obtain ⟨r2, rfl, hrd0⟩ := z_7
        show tv_V c 19 X (eM c (ts_s s 0 0) r2) 70 [(6, .int (nI (40 * j_p0 + a))), (5, .int (sp_wf s j_p0 p1 p2 p3)), (0, .ref (tv_ad c 0)), (1, .int p0), (2, .int p1), (3, .int p2), (4, .int p3)] [.int q_7]
        have hrd : rd_p s (40 * j_p0 + a) d q_7 r2 := hrd0
        show tv_V c 19 X (eM c (ts_s s 0 0) r2) 70 [(6, .int (nI (40 * j_p0 + a))), (5, .int (sp_wf s j_p0 p1 p2 p3)), (0, .ref (tv_ad c 0)), (1, .int p0), (2, .int p1), (3, .int p2), (4, .int p3)] [.int q_7]
        refine tv_if_ne C 84 dX8_wall_70 (by decide) (fun c_8 => ?_) (fun c_8 => ?_)
        · skip
          obtain ⟨en, th, tw, b4, b6, eh, ew, g1, g2, g4⟩ := rd_n hrd (by assumption)
          rw [ewf] at en g4
          have kh : tk ((wl_f s p0 p2) 1 - 48) = th := by rw [← ewf]; exact tk_e eh (by omega)
          have kw : tk ((wl_f s p0 p2) 2 - 48) = tw := by rw [← ewf]; exact tk_e ew (by omega)
          have hTW : th * tw ≤ 4 * 6 := Nat.mul_le_mul b4 b6
          refine tv_aload_n C dX8_wall_84 rfl 2 rfl ?_
          refine tv_aload_n C dX8_wall_85 rfl 2 rfl ?_
          refine tv_get (ci := 8) (Cn := RX8) (T := TX8) (Nf := 35) (v := .int (r2 1 0)) C 0 (by decide) rfl rfl in_X8_wall_X8 16 (by decide) lk_X8_wall_106 rfl dX8_wall_86 ?_
          rw [g1]
          refine tv_put (ci := 8) (Cn := RX8) (T := TX8) (Nf := 35) (ty := .int) (E' := (eM c (ts_s (ts_s s 0 0) 2 (nI th)) r2)) C 0 (by decide) rfl rfl in_X8_wall_X8 tyX8 tyX8_ok nmX8 5 (by decide) lk_X8_wall_75 rfl (by decide +kernel) rfl rfl (Nat.le_of_ble_eq_true rfl) (eM_u_high c (ts_s s 0 0) r2 (nI th)) dX8_wall_89 ?_
          refine tv_aload_n C dX8_wall_92 rfl 2 rfl ?_
          refine tv_aload_n C dX8_wall_93 rfl 2 rfl ?_
          refine tv_get (ci := 8) (Cn := RX8) (T := TX8) (Nf := 35) (v := .int (r2 2 0)) C 0 (by decide) rfl rfl in_X8_wall_X8 17 (by decide) lk_X8_wall_109 rfl dX8_wall_94 ?_
          rw [g2]
          refine tv_put (ci := 8) (Cn := RX8) (T := TX8) (Nf := 35) (ty := .int) (E' := (eM c (ts_s (ts_s (ts_s s 0 0) 2 (nI th)) 3 (nI tw)) r2)) C 0 (by decide) rfl rfl in_X8_wall_X8 tyX8 tyX8_ok nmX8 6 (by decide) lk_X8_wall_78 rfl (by decide +kernel) rfl rfl (Nat.le_of_ble_eq_true rfl) (eM_u_wide c (ts_s (ts_s s 0 0) 2 (nI th)) r2 (nI tw)) dX8_wall_97 ?_
          refine tv_eqE (E' := (eM c (ts_s (ts_s (ts_s (ts_s s 0 0) 2 (nI th)) 3 (nI tw)) 9 (nI (th * tw))) r2)) (eM_9 c (ts_s (ts_s (ts_s s 0 0) 2 (nI th)) 3 (nI tw)) r2 (nI (th * tw))).symm ?_
          refine tv_iconst (v := 0) C dX8_wall_100 (by decide) ?_
          refine tv_istore (lv' := [(7, .int 0), (6, .int (nI (40 * j_p0 + a))), (5, .int (sp_wf s j_p0 p1 p2 p3)), (0, .ref (tv_ad c 0)), (1, .int p0), (2, .int p1), (3, .int p2), (4, .int p3)]) C dX8_wall_101 (by decide) rfl ?_
          have hL103 : ∀ (k_103 m : Nat) (x_103_7 : Int32) (w_103 : Nat → va_E), m + k_103 = (th * tw) → x_103_7 = (nI m) → w_103 = (eM c (ts_a (ts_a (ts_a (ts_a (ts_a (ts_s (ts_s (ts_s (ts_s s 0 0) 2 (nI th)) 3 (nI tw)) 9 (nI (th * tw))) 10 (ts_f (fw_sun (wl_f s p0 p2) tw) (s 10) m)) 14 (ts_f (fun _ => 0) (s 14) m)) 11 (ts_f (fun _ => 0) (s 11) m)) 12 (ts_f (fun _ => 0) (s 12) m)) 13 (ts_f (fun _ => 0) (s 13) m)) r2) → tv_V c 19 X w_103 103 [(0, .ref (tv_ad c 0)), (1, .int p0), (2, .int p1), (3, .int p2), (4, .int p3), (5, .int (sp_wf s j_p0 p1 p2 p3)), (6, .int (nI (40 * j_p0 + a))), (7, .int x_103_7)] [] := by
            intro k_103
            induction k_103 with
            | zero =>
              intro m x_103_7 w_103 hi103  ex_103_7 ew_103
              subst ex_103_7
              subst ew_103
              have hN103 : m = (th * tw) := by omega
              refine tv_iload C dX8_wall_103 7 rfl ?_
              refine tv_aload_n C dX8_wall_105 rfl 0 rfl ?_
              refine tv_calli (As := []) (rest := [.int (nI m)]) (ci := 8) (cn := RX8) (T := TX8) (Nf := 35) C 0 (kX8_all c (ts_a (ts_a (ts_a (ts_a (ts_a (ts_s (ts_s (ts_s (ts_s s 0 0) 2 (nI th)) 3 (nI tw)) 9 (nI (th * tw))) 10 (ts_f (fw_sun (wl_f s p0 p2) tw) (s 10) m)) 14 (ts_f (fun _ => 0) (s 14) m)) 11 (ts_f (fun _ => 0) (s 11) m)) 12 (ts_f (fun _ => 0) (s 12) m)) 13 (ts_f (fun _ => 0) (s 13) m)) r2   (tn_mul (rfl : nI th = nI th) (rfl : nI tw = nI tw))) gX8_wall_X8_all rfl yd_X8_all ⟨rfl, rfl⟩ (by decide) (by decide) rfl rfl rfl rfl (Nat.le_of_ble_eq_true rfl) dX8_wall_106 (fun q_9 u_9 z_9 => ?_)
              obtain ⟨rfl, rfl⟩ := z_9
              show tv_V c 19 X (eM c (ts_a (ts_a (ts_a (ts_a (ts_a (ts_s (ts_s (ts_s (ts_s s 0 0) 2 (nI th)) 3 (nI tw)) 9 (nI (th * tw))) 10 (ts_f (fw_sun (wl_f s p0 p2) tw) (s 10) m)) 14 (ts_f (fun _ => 0) (s 14) m)) 11 (ts_f (fun _ => 0) (s 11) m)) 12 (ts_f (fun _ => 0) (s 12) m)) 13 (ts_f (fun _ => 0) (s 13) m)) r2) 109 [(0, .ref (tv_ad c 0)), (1, .int p0), (2, .int p1), (3, .int p2), (4, .int p3), (5, .int (sp_wf s j_p0 p1 p2 p3)), (6, .int (nI (40 * j_p0 + a))), (7, .int (nI m))] [.int (nI (th * tw)), .int (nI m)]
              refine tv_icmp_ge C 164 dX8_wall_109 (by decide) (fun c_10 => ?_) (fun c_10 => absurd (tn_le (rfl : nI (th * tw) = nI (th * tw)) (rfl : nI m = nI m) (by omega) (by omega)) c_10)
              refine tv_aload_n C dX8_wall_164 rfl 0 rfl ?_
              refine tv_iconst (v := 0) C dX8_wall_165 (by decide) ?_
              refine tv_put (ci := 8) (Cn := RX8) (T := TX8) (Nf := 35) (ty := .int) (E' := (eM c (ts_s (ts_a (ts_a (ts_a (ts_a (ts_a (ts_s (ts_s (ts_s (ts_s s 0 0) 2 (nI th)) 3 (nI tw)) 9 (nI (th * tw))) 10 (ts_f (fw_sun (wl_f s p0 p2) tw) (s 10) m)) 14 (ts_f (fun _ => 0) (s 14) m)) 11 (ts_f (fun _ => 0) (s 11) m)) 12 (ts_f (fun _ => 0) (s 12) m)) 13 (ts_f (fun _ => 0) (s 13) m)) 4 0) r2)) C 0 (by decide) rfl rfl in_X8_wall_X8 tyX8 tyX8_ok nmX8 7 (by decide) lk_X8_wall_112 rfl (by decide +kernel) rfl rfl (Nat.le_of_ble_eq_true rfl) (eM_u_year c (ts_a (ts_a (ts_a (ts_a (ts_a (ts_s (ts_s (ts_s (ts_s s 0 0) 2 (nI th)) 3 (nI tw)) 9 (nI (th * tw))) 10 (ts_f (fw_sun (wl_f s p0 p2) tw) (s 10) m)) 14 (ts_f (fun _ => 0) (s 14) m)) 11 (ts_f (fun _ => 0) (s 11) m)) 12 (ts_f (fun _ => 0) (s 12) m)) 13 (ts_f (fun _ => 0) (s 13) m)) r2 0) dX8_wall_166 ?_
              refine tv_aload_n C dX8_wall_169 rfl 0 rfl ?_
              refine tv_iconst (v := 0) C dX8_wall_170 (by decide) ?_
              refine tv_put (ci := 8) (Cn := RX8) (T := TX8) (Nf := 35) (ty := .int) (E' := (eM c (ts_s (ts_s (ts_a (ts_a (ts_a (ts_a (ts_a (ts_s (ts_s (ts_s (ts_s s 0 0) 2 (nI th)) 3 (nI tw)) 9 (nI (th * tw))) 10 (ts_f (fw_sun (wl_f s p0 p2) tw) (s 10) m)) 14 (ts_f (fun _ => 0) (s 14) m)) 11 (ts_f (fun _ => 0) (s 11) m)) 12 (ts_f (fun _ => 0) (s 12) m)) 13 (ts_f (fun _ => 0) (s 13) m)) 4 0) 5 0) r2)) C 0 (by decide) rfl rfl in_X8_wall_X8 tyX8 tyX8_ok nmX8 8 (by decide) lk_X8_wall_115 rfl (by decide +kernel) rfl rfl (Nat.le_of_ble_eq_true rfl) (eM_u_smoke c (ts_s (ts_a (ts_a (ts_a (ts_a (ts_a (ts_s (ts_s (ts_s (ts_s s 0 0) 2 (nI th)) 3 (nI tw)) 9 (nI (th * tw))) 10 (ts_f (fw_sun (wl_f s p0 p2) tw) (s 10) m)) 14 (ts_f (fun _ => 0) (s 14) m)) 11 (ts_f (fun _ => 0) (s 11) m)) 12 (ts_f (fun _ => 0) (s 12) m)) 13 (ts_f (fun _ => 0) (s 13) m)) 4 0) r2 0) dX8_wall_171 ?_
              refine tv_aload_n C dX8_wall_174 rfl 0 rfl ?_
              refine tv_bipush (v := 10) C dX8_wall_175 (by decide) ?_
              refine tv_put (ci := 8) (Cn := RX8) (T := TX8) (Nf := 35) (ty := .int) (E' := (eM c (ts_s (ts_s (ts_s (ts_a (ts_a (ts_a (ts_a (ts_a (ts_s (ts_s (ts_s (ts_s s 0 0) 2 (nI th)) 3 (nI tw)) 9 (nI (th * tw))) 10 (ts_f (fw_sun (wl_f s p0 p2) tw) (s 10) m)) 14 (ts_f (fun _ => 0) (s 14) m)) 11 (ts_f (fun _ => 0) (s 11) m)) 12 (ts_f (fun _ => 0) (s 12) m)) 13 (ts_f (fun _ => 0) (s 13) m)) 4 0) 5 0) 6 10) r2)) C 0 (by decide) rfl rfl in_X8_wall_X8 tyX8 tyX8_ok nmX8 9 (by decide) lk_X8_wall_118 rfl (by decide +kernel) rfl rfl (Nat.le_of_ble_eq_true rfl) (eM_u_line c (ts_s (ts_s (ts_a (ts_a (ts_a (ts_a (ts_a (ts_s (ts_s (ts_s (ts_s s 0 0) 2 (nI th)) 3 (nI tw)) 9 (nI (th * tw))) 10 (ts_f (fw_sun (wl_f s p0 p2) tw) (s 10) m)) 14 (ts_f (fun _ => 0) (s 14) m)) 11 (ts_f (fun _ => 0) (s 11) m)) 12 (ts_f (fun _ => 0) (s 12) m)) 13 (ts_f (fun _ => 0) (s 13) m)) 4 0) 5 0) r2 10) dX8_wall_177 ?_
              refine tv_aload_n C dX8_wall_180 rfl 0 rfl ?_
              refine tv_iconst (v := 0) C dX8_wall_181 (by decide) ?_
              refine tv_put (ci := 8) (Cn := RX8) (T := TX8) (Nf := 35) (ty := .int) (E' := (eM c (ts_s (ts_s (ts_s (ts_s (ts_a (ts_a (ts_a (ts_a (ts_a (ts_s (ts_s (ts_s (ts_s s 0 0) 2 (nI th)) 3 (nI tw)) 9 (nI (th * tw))) 10 (ts_f (fw_sun (wl_f s p0 p2) tw) (s 10) m)) 14 (ts_f (fun _ => 0) (s 14) m)) 11 (ts_f (fun _ => 0) (s 11) m)) 12 (ts_f (fun _ => 0) (s 12) m)) 13 (ts_f (fun _ => 0) (s 13) m)) 4 0) 5 0) 6 10) 8 0) r2)) C 0 (by decide) rfl rfl in_X8_wall_X8 tyX8 tyX8_ok nmX8 22 (by decide) lk_X8_wall_121 rfl (by decide +kernel) rfl rfl (Nat.le_of_ble_eq_true rfl) (eM_u_lights c (ts_s (ts_s (ts_s (ts_a (ts_a (ts_a (ts_a (ts_a (ts_s (ts_s (ts_s (ts_s s 0 0) 2 (nI th)) 3 (nI tw)) 9 (nI (th * tw))) 10 (ts_f (fw_sun (wl_f s p0 p2) tw) (s 10) m)) 14 (ts_f (fun _ => 0) (s 14) m)) 11 (ts_f (fun _ => 0) (s 11) m)) 12 (ts_f (fun _ => 0) (s 12) m)) 13 (ts_f (fun _ => 0) (s 13) m)) 4 0) 5 0) 6 10) r2 0) dX8_wall_182 ?_
              refine tv_aload_n C dX8_wall_185 rfl 0 rfl ?_
              refine tv_iconst (v := 0) C dX8_wall_186 (by decide) ?_
              refine tv_put (ci := 8) (Cn := RX8) (T := TX8) (Nf := 35) (ty := .int) (E' := (eM c (ts_s (ts_s (ts_s (ts_s (ts_s (ts_a (ts_a (ts_a (ts_a (ts_a (ts_s (ts_s (ts_s (ts_s s 0 0) 2 (nI th)) 3 (nI tw)) 9 (nI (th * tw))) 10 (ts_f (fw_sun (wl_f s p0 p2) tw) (s 10) m)) 14 (ts_f (fun _ => 0) (s 14) m)) 11 (ts_f (fun _ => 0) (s 11) m)) 12 (ts_f (fun _ => 0) (s 12) m)) 13 (ts_f (fun _ => 0) (s 13) m)) 4 0) 5 0) 6 10) 8 0) 7 0) r2)) C 0 (by decide) rfl rfl in_X8_wall_X8 tyX8 tyX8_ok nmX8 19 (by decide) lk_X8_wall_124 rfl (by decide +kernel) rfl rfl (Nat.le_of_ble_eq_true rfl) (eM_u_coats c (ts_s (ts_s (ts_s (ts_s (ts_a (ts_a (ts_a (ts_a (ts_a (ts_s (ts_s (ts_s (ts_s s 0 0) 2 (nI th)) 3 (nI tw)) 9 (nI (th * tw))) 10 (ts_f (fw_sun (wl_f s p0 p2) tw) (s 10) m)) 14 (ts_f (fun _ => 0) (s 14) m)) 11 (ts_f (fun _ => 0) (s 11) m)) 12 (ts_f (fun _ => 0) (s 12) m)) 13 (ts_f (fun _ => 0) (s 13) m)) 4 0) 5 0) 6 10) 8 0) r2 0) dX8_wall_187 ?_
              refine tv_aload_n C dX8_wall_190 rfl 0 rfl ?_
              refine tv_iconst (v := 0) C dX8_wall_191 (by decide) ?_
              refine tv_bipush (v := 90) C dX8_wall_192 (by decide) ?_
              refine tv_bipush (v := 90) C dX8_wall_194 (by decide) ?_
              refine tv_bipush (v := 90) C dX8_wall_196 (by decide) ?_
              refine tv_calli (As := [.int 0, .int 90, .int 90, .int 90]) (rest := []) (ci := 8) (cn := RX8) (T := TX8) (Nf := 35) C 0 (kX8_addCoat c (ts_s (ts_s (ts_s (ts_s (ts_s (ts_a (ts_a (ts_a (ts_a (ts_a (ts_s (ts_s (ts_s (ts_s s 0 0) 2 (nI th)) 3 (nI tw)) 9 (nI (th * tw))) 10 (ts_f (fw_sun (wl_f s p0 p2) tw) (s 10) m)) 14 (ts_f (fun _ => 0) (s 14) m)) 11 (ts_f (fun _ => 0) (s 11) m)) 12 (ts_f (fun _ => 0) (s 12) m)) 13 (ts_f (fun _ => 0) (s 13) m)) 4 0) 5 0) 6 10) 8 0) 7 0) r2 0 0 90 90 90 (by decide) rfl) gX8_wall_X8_addCoat rfl yd_X8_addCoat ⟨rfl, rfl⟩ (by decide) (by decide) rfl rfl rfl rfl (Nat.le_of_ble_eq_true rfl) dX8_wall_198 (fun q_11 u_11 z_11 => ?_)
              obtain ⟨rfl, rfl⟩ := z_11
              show tv_V c 19 X (eM c (sp_add (ts_s (ts_s (ts_s (ts_s (ts_s (ts_a (ts_a (ts_a (ts_a (ts_a (ts_s (ts_s (ts_s (ts_s s 0 0) 2 (nI th)) 3 (nI tw)) 9 (nI (th * tw))) 10 (ts_f (fw_sun (wl_f s p0 p2) tw) (s 10) m)) 14 (ts_f (fun _ => 0) (s 14) m)) 11 (ts_f (fun _ => 0) (s 11) m)) 12 (ts_f (fun _ => 0) (s 12) m)) 13 (ts_f (fun _ => 0) (s 13) m)) 4 0) 5 0) 6 10) 8 0) 7 0) 0 0 90 90 90) r2) 201 [(0, .ref (tv_ad c 0)), (1, .int p0), (2, .int p1), (3, .int p2), (4, .int p3), (5, .int (sp_wf s j_p0 p1 p2 p3)), (6, .int (nI (40 * j_p0 + a))), (7, .int (nI m))] [.int (id 0 + 1 - 1)]
              refine tv_pop C dX8_wall_201 rfl ?_
              refine tv_aload_n C dX8_wall_202 rfl 0 rfl ?_
              refine tv_calli (As := []) (rest := []) (ci := 8) (cn := RX8) (T := TX8) (Nf := 35) C 0 (kX8_all c (sp_add (ts_s (ts_s (ts_s (ts_s (ts_s (ts_a (ts_a (ts_a (ts_a (ts_a (ts_s (ts_s (ts_s (ts_s s 0 0) 2 (nI th)) 3 (nI tw)) 9 (nI (th * tw))) 10 (ts_f (fw_sun (wl_f s p0 p2) tw) (s 10) m)) 14 (ts_f (fun _ => 0) (s 14) m)) 11 (ts_f (fun _ => 0) (s 11) m)) 12 (ts_f (fun _ => 0) (s 12) m)) 13 (ts_f (fun _ => 0) (s 13) m)) 4 0) 5 0) 6 10) 8 0) 7 0) 0 0 90 90 90) r2   (tn_mul (rfl : nI th = nI th) (rfl : nI tw = nI tw))) gX8_wall_X8_all rfl yd_X8_all ⟨rfl, rfl⟩ (by decide) (by decide) rfl rfl rfl rfl (Nat.le_of_ble_eq_true rfl) dX8_wall_203 (fun q_12 u_12 z_12 => ?_)
              obtain ⟨rfl, rfl⟩ := z_12
              exact hR _ _ _ _ dX8_wall_206 ⟨by simp only [sp_wall, c_2, ek_p0, c_4, ek_p1, eq_true c_6, ekd, c_8, en, kh, kw, c_10, ts_ss, ↓reduceIte]; rfl, r2, by simp only [sp_wall, c_2, ek_p0, c_4, ek_p1, eq_true c_6, ekd, c_8, en, kh, kw, c_10, ts_ss, ↓reduceIte]; rw [hN103]; rfl⟩
            | succ k_103 ih103 =>
              intro m x_103_7 w_103 hi103  ex_103_7 ew_103
              subst ex_103_7
              subst ew_103
              have hN103 : m < (th * tw) := by omega
              refine tv_iload C dX8_wall_103 7 rfl ?_
              refine tv_aload_n C dX8_wall_105 rfl 0 rfl ?_
              refine tv_calli (As := []) (rest := [.int (nI m)]) (ci := 8) (cn := RX8) (T := TX8) (Nf := 35) C 0 (kX8_all c (ts_a (ts_a (ts_a (ts_a (ts_a (ts_s (ts_s (ts_s (ts_s s 0 0) 2 (nI th)) 3 (nI tw)) 9 (nI (th * tw))) 10 (ts_f (fw_sun (wl_f s p0 p2) tw) (s 10) m)) 14 (ts_f (fun _ => 0) (s 14) m)) 11 (ts_f (fun _ => 0) (s 11) m)) 12 (ts_f (fun _ => 0) (s 12) m)) 13 (ts_f (fun _ => 0) (s 13) m)) r2   (tn_mul (rfl : nI th = nI th) (rfl : nI tw = nI tw))) gX8_wall_X8_all rfl yd_X8_all ⟨rfl, rfl⟩ (by decide) (by decide) rfl rfl rfl rfl (Nat.le_of_ble_eq_true rfl) dX8_wall_106 (fun q_13 u_13 z_13 => ?_)
              obtain ⟨rfl, rfl⟩ := z_13
              show tv_V c 19 X (eM c (ts_a (ts_a (ts_a (ts_a (ts_a (ts_s (ts_s (ts_s (ts_s s 0 0) 2 (nI th)) 3 (nI tw)) 9 (nI (th * tw))) 10 (ts_f (fw_sun (wl_f s p0 p2) tw) (s 10) m)) 14 (ts_f (fun _ => 0) (s 14) m)) 11 (ts_f (fun _ => 0) (s 11) m)) 12 (ts_f (fun _ => 0) (s 12) m)) 13 (ts_f (fun _ => 0) (s 13) m)) r2) 109 [(0, .ref (tv_ad c 0)), (1, .int p0), (2, .int p1), (3, .int p2), (4, .int p3), (5, .int (sp_wf s j_p0 p1 p2 p3)), (6, .int (nI (40 * j_p0 + a))), (7, .int (nI m))] [.int (nI (th * tw)), .int (nI m)]
              refine tv_icmp_ge C 164 dX8_wall_109 (by decide) (fun c_14 => absurd c_14 (tn_nle (rfl : nI (th * tw) = nI (th * tw)) (rfl : nI m = nI m) (by omega) (by omega))) (fun c_14 => ?_)
              refine tv_aload_n C dX8_wall_112 rfl 0 rfl ?_
              refine tv_get (ci := 8) (Cn := RX8) (T := TX8) (Nf := 35) (v := .ref (tv_ad c 4)) C 0 (by decide) rfl rfl in_X8_wall_X8 10 (by decide) lk_X8_wall_19 rfl dX8_wall_113 ?_
              refine tv_iload C dX8_wall_116 7 rfl ?_
              refine tv_aload_n C dX8_wall_118 rfl 0 rfl ?_
              refine tv_get (ci := 8) (Cn := RX8) (T := TX8) (Nf := 35) (v := .ref (tv_ad c 9)) C 0 (by decide) rfl rfl in_X8_wall_X8 18 (by decide) lk_X8_wall_35 rfl dX8_wall_119 ?_
              refine tv_iload C dX8_wall_122 7 rfl ?_
              refine tv_iald (f := (r2 3)) (v := (r2 3 m)) C 9 (by decide) rfl m (rfl : nI m = nI m) (show m < 24 by omega) (by decide) rfl dX8_wall_124 ?_
              refine tv_iast (E' := (eM c (ts_a (ts_a (ts_a (ts_a (ts_a (ts_s (ts_s (ts_s (ts_s s 0 0) 2 (nI th)) 3 (nI tw)) 9 (nI (th * tw))) 10 (upd (ts_f (fw_sun (wl_f s p0 p2) tw) (s 10) m) m (r2 3 m))) 14 (ts_f (fun _ => 0) (s 14) m)) 11 (ts_f (fun _ => 0) (s 11) m)) 12 (ts_f (fun _ => 0) (s 12) m)) 13 (ts_f (fun _ => 0) (s 13) m)) r2)) C 4 (by decide) rfl m (rfl : nI m = nI m) (show m < 24 by omega) (by decide) ((eM_u_sun c (ts_a (ts_a (ts_a (ts_a (ts_a (ts_s (ts_s (ts_s (ts_s s 0 0) 2 (nI th)) 3 (nI tw)) 9 (nI (th * tw))) 10 (ts_f (fw_sun (wl_f s p0 p2) tw) (s 10) m)) 14 (ts_f (fun _ => 0) (s 14) m)) 11 (ts_f (fun _ => 0) (s 11) m)) 12 (ts_f (fun _ => 0) (s 12) m)) 13 (ts_f (fun _ => 0) (s 13) m)) r2 (upd (ts_f (fw_sun (wl_f s p0 p2) tw) (s 10) m) m (r2 3 m))).trans (congrArg (fun z => eM c z r2) (by funext zz; rcases Classical.em (zz = 0) with hzz | h_0; (subst hzz; rfl); rcases Classical.em (zz = 2) with hzz | h_2; (subst hzz; rfl); rcases Classical.em (zz = 3) with hzz | h_3; (subst hzz; rfl); rcases Classical.em (zz = 9) with hzz | h_9; (subst hzz; rfl); rcases Classical.em (zz = 10) with hzz | h_10; (subst hzz; rfl); rcases Classical.em (zz = 14) with hzz | h_14; (subst hzz; rfl); rcases Classical.em (zz = 11) with hzz | h_11; (subst hzz; rfl); rcases Classical.em (zz = 12) with hzz | h_12; (subst hzz; rfl); rcases Classical.em (zz = 13) with hzz | h_13; (subst hzz; rfl); simp only [ts_s, ts_a, h_0, h_2, h_3, h_9, h_10, h_14, h_11, h_12, h_13, ↓reduceIte]))) dX8_wall_125 ?_
              refine tv_aload_n C dX8_wall_126 rfl 0 rfl ?_
              refine tv_get (ci := 8) (Cn := RX8) (T := TX8) (Nf := 35) (v := .ref (tv_ad c 5)) C 0 (by decide) rfl rfl in_X8_wall_X8 11 (by decide) lk_X8_wall_22 rfl dX8_wall_127 ?_
              refine tv_iload C dX8_wall_130 7 rfl ?_
              refine tv_iconst (v := 0) C dX8_wall_132 (by decide) ?_
              refine tv_iast (E' := (eM c (ts_a (ts_a (ts_a (ts_a (ts_a (ts_s (ts_s (ts_s (ts_s s 0 0) 2 (nI th)) 3 (nI tw)) 9 (nI (th * tw))) 10 (upd (ts_f (fw_sun (wl_f s p0 p2) tw) (s 10) m) m (r2 3 m))) 14 (ts_f (fun _ => 0) (s 14) m)) 11 (upd (ts_f (fun _ => 0) (s 11) m) m 0)) 12 (ts_f (fun _ => 0) (s 12) m)) 13 (ts_f (fun _ => 0) (s 13) m)) r2)) C 5 (by decide) rfl m (rfl : nI m = nI m) (show m < 24 by omega) (by decide) ((eM_u_coatOf c (ts_a (ts_a (ts_a (ts_a (ts_a (ts_s (ts_s (ts_s (ts_s s 0 0) 2 (nI th)) 3 (nI tw)) 9 (nI (th * tw))) 10 (upd (ts_f (fw_sun (wl_f s p0 p2) tw) (s 10) m) m (r2 3 m))) 14 (ts_f (fun _ => 0) (s 14) m)) 11 (ts_f (fun _ => 0) (s 11) m)) 12 (ts_f (fun _ => 0) (s 12) m)) 13 (ts_f (fun _ => 0) (s 13) m)) r2 (upd (ts_f (fun _ => 0) (s 11) m) m 0)).trans (congrArg (fun z => eM c z r2) (by funext zz; rcases Classical.em (zz = 0) with hzz | h_0; (subst hzz; rfl); rcases Classical.em (zz = 2) with hzz | h_2; (subst hzz; rfl); rcases Classical.em (zz = 3) with hzz | h_3; (subst hzz; rfl); rcases Classical.em (zz = 9) with hzz | h_9; (subst hzz; rfl); rcases Classical.em (zz = 10) with hzz | h_10; (subst hzz; rfl); rcases Classical.em (zz = 14) with hzz | h_14; (subst hzz; rfl); rcases Classical.em (zz = 11) with hzz | h_11; (subst hzz; rfl); rcases Classical.em (zz = 12) with hzz | h_12; (subst hzz; rfl); rcases Classical.em (zz = 13) with hzz | h_13; (subst hzz; rfl); simp only [ts_s, ts_a, h_0, h_2, h_3, h_9, h_10, h_14, h_11, h_12, h_13, ↓reduceIte]))) dX8_wall_133 ?_
              refine tv_aload_n C dX8_wall_134 rfl 0 rfl ?_
              refine tv_get (ci := 8) (Cn := RX8) (T := TX8) (Nf := 35) (v := .ref (tv_ad c 6)) C 0 (by decide) rfl rfl in_X8_wall_X8 12 (by decide) lk_X8_wall_25 rfl dX8_wall_135 ?_
              refine tv_iload C dX8_wall_138 7 rfl ?_
              refine tv_iconst (v := 0) C dX8_wall_140 (by decide) ?_
              refine tv_iast (E' := (eM c (ts_a (ts_a (ts_a (ts_a (ts_a (ts_s (ts_s (ts_s (ts_s s 0 0) 2 (nI th)) 3 (nI tw)) 9 (nI (th * tw))) 10 (upd (ts_f (fw_sun (wl_f s p0 p2) tw) (s 10) m) m (r2 3 m))) 14 (ts_f (fun _ => 0) (s 14) m)) 11 (upd (ts_f (fun _ => 0) (s 11) m) m 0)) 12 (upd (ts_f (fun _ => 0) (s 12) m) m 0)) 13 (ts_f (fun _ => 0) (s 13) m)) r2)) C 6 (by decide) rfl m (rfl : nI m = nI m) (show m < 24 by omega) (by decide) ((eM_u_had c (ts_a (ts_a (ts_a (ts_a (ts_a (ts_s (ts_s (ts_s (ts_s s 0 0) 2 (nI th)) 3 (nI tw)) 9 (nI (th * tw))) 10 (upd (ts_f (fw_sun (wl_f s p0 p2) tw) (s 10) m) m (r2 3 m))) 14 (ts_f (fun _ => 0) (s 14) m)) 11 (upd (ts_f (fun _ => 0) (s 11) m) m 0)) 12 (ts_f (fun _ => 0) (s 12) m)) 13 (ts_f (fun _ => 0) (s 13) m)) r2 (upd (ts_f (fun _ => 0) (s 12) m) m 0)).trans (congrArg (fun z => eM c z r2) (by funext zz; rcases Classical.em (zz = 0) with hzz | h_0; (subst hzz; rfl); rcases Classical.em (zz = 2) with hzz | h_2; (subst hzz; rfl); rcases Classical.em (zz = 3) with hzz | h_3; (subst hzz; rfl); rcases Classical.em (zz = 9) with hzz | h_9; (subst hzz; rfl); rcases Classical.em (zz = 10) with hzz | h_10; (subst hzz; rfl); rcases Classical.em (zz = 14) with hzz | h_14; (subst hzz; rfl); rcases Classical.em (zz = 11) with hzz | h_11; (subst hzz; rfl); rcases Classical.em (zz = 12) with hzz | h_12; (subst hzz; rfl); rcases Classical.em (zz = 13) with hzz | h_13; (subst hzz; rfl); simp only [ts_s, ts_a, h_0, h_2, h_3, h_9, h_10, h_14, h_11, h_12, h_13, ↓reduceIte]))) dX8_wall_141 ?_
              refine tv_aload_n C dX8_wall_142 rfl 0 rfl ?_
              refine tv_get (ci := 8) (Cn := RX8) (T := TX8) (Nf := 35) (v := .ref (tv_ad c 7)) C 0 (by decide) rfl rfl in_X8_wall_X8 13 (by decide) lk_X8_wall_28 rfl dX8_wall_143 ?_
              refine tv_iload C dX8_wall_146 7 rfl ?_
              refine tv_iconst (v := 0) C dX8_wall_148 (by decide) ?_
              refine tv_iast (E' := (eM c (ts_a (ts_a (ts_a (ts_a (ts_a (ts_s (ts_s (ts_s (ts_s s 0 0) 2 (nI th)) 3 (nI tw)) 9 (nI (th * tw))) 10 (upd (ts_f (fw_sun (wl_f s p0 p2) tw) (s 10) m) m (r2 3 m))) 14 (ts_f (fun _ => 0) (s 14) m)) 11 (upd (ts_f (fun _ => 0) (s 11) m) m 0)) 12 (upd (ts_f (fun _ => 0) (s 12) m) m 0)) 13 (upd (ts_f (fun _ => 0) (s 13) m) m 0)) r2)) C 7 (by decide) rfl m (rfl : nI m = nI m) (show m < 24 by omega) (by decide) ((eM_u_air c (ts_a (ts_a (ts_a (ts_a (ts_a (ts_s (ts_s (ts_s (ts_s s 0 0) 2 (nI th)) 3 (nI tw)) 9 (nI (th * tw))) 10 (upd (ts_f (fw_sun (wl_f s p0 p2) tw) (s 10) m) m (r2 3 m))) 14 (ts_f (fun _ => 0) (s 14) m)) 11 (upd (ts_f (fun _ => 0) (s 11) m) m 0)) 12 (upd (ts_f (fun _ => 0) (s 12) m) m 0)) 13 (ts_f (fun _ => 0) (s 13) m)) r2 (upd (ts_f (fun _ => 0) (s 13) m) m 0)).trans (by first | (rw [ts_mg]; done) | (rw [ts_mg]; rfl) | (rw [ts_ss]; done) | (rw [ts_ss]; rfl))) dX8_wall_149 ?_
              refine tv_aload_n C dX8_wall_150 rfl 0 rfl ?_
              refine tv_get (ci := 8) (Cn := RX8) (T := TX8) (Nf := 35) (v := .ref (tv_ad c 8)) C 0 (by decide) rfl rfl in_X8_wall_X8 14 (by decide) lk_X8_wall_31 rfl dX8_wall_151 ?_
              refine tv_iload C dX8_wall_154 7 rfl ?_
              refine tv_iconst (v := 0) C dX8_wall_156 (by decide) ?_
              refine tv_zast (E' := (eM c (ts_a (ts_a (ts_a (ts_a (ts_a (ts_s (ts_s (ts_s (ts_s s 0 0) 2 (nI th)) 3 (nI tw)) 9 (nI (th * tw))) 10 (upd (ts_f (fw_sun (wl_f s p0 p2) tw) (s 10) m) m (r2 3 m))) 14 (upd (ts_f (fun _ => 0) (s 14) m) m 0)) 11 (upd (ts_f (fun _ => 0) (s 11) m) m 0)) 12 (upd (ts_f (fun _ => 0) (s 12) m) m 0)) 13 (upd (ts_f (fun _ => 0) (s 13) m) m 0)) r2)) C 8 (by decide) rfl m (rfl : nI m = nI m) (show m < 24 by omega) (by decide) rfl ((eM_u_isHung c (ts_a (ts_a (ts_a (ts_a (ts_a (ts_s (ts_s (ts_s (ts_s s 0 0) 2 (nI th)) 3 (nI tw)) 9 (nI (th * tw))) 10 (upd (ts_f (fw_sun (wl_f s p0 p2) tw) (s 10) m) m (r2 3 m))) 14 (ts_f (fun _ => 0) (s 14) m)) 11 (upd (ts_f (fun _ => 0) (s 11) m) m 0)) 12 (upd (ts_f (fun _ => 0) (s 12) m) m 0)) 13 (upd (ts_f (fun _ => 0) (s 13) m) m 0)) r2 (upd (ts_f (fun _ => 0) (s 14) m) m 0)).trans (congrArg (fun z => eM c z r2) (by funext zz; rcases Classical.em (zz = 0) with hzz | h_0; (subst hzz; rfl); rcases Classical.em (zz = 2) with hzz | h_2; (subst hzz; rfl); rcases Classical.em (zz = 3) with hzz | h_3; (subst hzz; rfl); rcases Classical.em (zz = 9) with hzz | h_9; (subst hzz; rfl); rcases Classical.em (zz = 10) with hzz | h_10; (subst hzz; rfl); rcases Classical.em (zz = 14) with hzz | h_14; (subst hzz; rfl); rcases Classical.em (zz = 11) with hzz | h_11; (subst hzz; rfl); rcases Classical.em (zz = 12) with hzz | h_12; (subst hzz; rfl); rcases Classical.em (zz = 13) with hzz | h_13; (subst hzz; rfl); simp only [ts_s, ts_a, h_0, h_2, h_3, h_9, h_10, h_14, h_11, h_12, h_13, ↓reduceIte]))) dX8_wall_157 ?_
              refine tv_iinc (v := ((nI m) + 1)) (lv' := [(7, .int ((nI m) + 1)), (0, .ref (tv_ad c 0)), (1, .int p0), (2, .int p1), (3, .int p2), (4, .int p3), (5, .int (sp_wf s j_p0 p1 p2 p3)), (6, .int (nI (40 * j_p0 + a)))]) C dX8_wall_158 7 rfl rfl (by decide) rfl ?_
              refine tv_goto C 103 dX8_wall_161 (by decide) ?_
              refine tv_lsub [1, 2, 3, 4, 5, 6, 7, 0] rfl ?_
              exact ih103 (m + 1) _ _ (by omega)  (by first | rfl | exact nI_1 _ | (simp only [c_2, ek_p0, c_4, ek_p1, eq_true c_6, ekd, c_8, en, kh, kw, c_14, if_true, ↓reduceIte]; done) | (simp [c_2, ek_p0, c_4, ek_p1, eq_true c_6, ekd, c_8, en, kh, kw, c_14, if_true]; done) | (exfalso; clear hR C; simp_all; done)) (by rw [ts_f_u (f := fw_sun (wl_f s p0 p2) tw) (g4 m hN103), ts_f_u (f := fun _ => 0) rfl, ts_f_u (f := fun _ => 0) rfl, ts_f_u (f := fun _ => 0) rfl, ts_f_u (f := fun _ => 0) rfl])
          refine tv_lsub [3, 4, 5, 6, 7, 2, 1, 0] rfl ?_
          exact hL103 ((th * tw) - 0) 0 _ _ (by omega)  (by first | (simp only [c_2, ek_p0, c_4, ek_p1, eq_true c_6, ekd, c_8, en, kh, kw, if_true, ↓reduceIte]; done) | rfl | (simp [c_2, ek_p0, c_4, ek_p1, eq_true c_6, ekd, c_8, en, kh, kw, if_true]; done) | (exfalso; clear hR C; simp_all; done)) (by rw [ts_f_0, ts_f_0, ts_f_0, ts_f_0, ts_f_0]; exact congrArg (fun z => eM c z r2) (by funext a; simp only [ts_s, ts_a]; (repeat' split) <;> first | rfl | (subst_vars; rfl) | (exfalso; omega)))
        · skip
          obtain ⟨p, ep, er⟩ := rd_z hrd (by assumption)
          rw [ewf] at ep
          refine tv_bipush (v := (-100)) C dX8_wall_73 (by decide) ?_
          refine tv_aload_n C dX8_wall_75 rfl 2 rfl ?_
          refine tv_get (ci := 8) (Cn := RX8) (T := TX8) (Nf := 35) (v := .int (r2 0 0)) C 0 (by decide) rfl rfl in_X8_wall_X8 15 (by decide) lk_X8_wall_85 rfl dX8_wall_76 ?_
          refine tv_iload C dX8_wall_79 0 rfl ?_
          refine tv_isub C dX8_wall_81 ?_
          refine tv_isub C dX8_wall_82 ?_
          exact hR _ _ _ _ dX8_wall_83 ⟨by rw [er, pk_sub (by omega), Nat.add_sub_cancel_left]; simp only [sp_wall, c_2, ek_p0, c_4, ek_p1, eq_true c_6, ekd, eq_true c_8, ep, ts_ss, ↓reduceIte], r2, by simp only [sp_wall, c_2, ek_p0, c_4, ek_p1, eq_true c_6, ekd, eq_true c_8, ep, ts_ss, ↓reduceIte]⟩
      · skip
        refine tv_aload_n C dX8_wall_40 rfl 1 rfl ?_
        refine tv_iload C dX8_wall_41 0 rfl ?_
        refine tv_calli (As := [.int (sp_wf s j_p0 p1 p2 p3)]) (rest := []) (ci := 8) (cn := RX8) (T := TX8) (Nf := 35) C 0 (kX8_fails c (ts_s s 0 0) r  (sp_wf s j_p0 p1 p2 p3) ) gX8_wall_X8_fails rfl yd_X8_fails ⟨rfl, rfl⟩ (by decide) (by decide) rfl rfl rfl rfl (Nat.le_of_ble_eq_true rfl) dX8_wall_43 (fun q_15 u_15 z_15 => ?_)
        obtain ⟨rfl, rfl⟩ := z_15
        show tv_V c 19 X (eM c (ts_s (ts_s s 0 0) 0 (sp_wf s j_p0 p1 p2 p3)) r) 46 [(5, .int (sp_wf s j_p0 p1 p2 p3)), (0, .ref (tv_ad c 0)), (1, .int p0), (2, .int p1), (3, .int p2), (4, .int p3)] [.int ((-10) - (sp_wf s j_p0 p1 p2 p3))]
        refine tv_eqE (E' := (eM c (ts_s s 0 (sp_wf s j_p0 p1 p2 p3)) r)) (congrArg (fun z => eM c z r) (by funext zz; rcases Classical.em (zz = 0) with hzz | h_0; (subst hzz; rfl); simp only [ts_s, ts_a, h_0, ↓reduceIte])) ?_
        show tv_V c 19 X (eM c (ts_s s 0 (sp_wf s j_p0 p1 p2 p3)) r) 46 [(5, .int (sp_wf s j_p0 p1 p2 p3)), (0, .ref (tv_ad c 0)), (1, .int p0), (2, .int p1), (3, .int p2), (4, .int p3)] [.int ((-10) - (sp_wf s j_p0 p1 p2 p3))]
        exact hR _ _ _ _ dX8_wall_46 ⟨by simp only [sp_wall, c_2, ek_p0, c_4, ek_p1, c_6, ts_ss, ↓reduceIte], r, by simp only [sp_wall, c_2, ek_p0, c_4, ek_p1, c_6, ts_ss, ↓reduceIte]⟩
    · skip
      refine tv_bipush (v := (-2)) C dX8_wall_21 (by decide) ?_
      exact hR _ _ _ _ dX8_wall_23 ⟨by simp only [sp_wall, c_2, ek_p0, eq_true c_4, ts_ss, ↓reduceIte], r, by simp only [sp_wall, c_2, ek_p0, eq_true c_4, ts_ss, ↓reduceIte]⟩
  · skip
    refine tv_iconst (v := (-1)) C dX8_wall_12 (by decide) ?_
    exact hR _ _ _ _ dX8_wall_13 ⟨by simp only [sp_wall, eq_true c_2, ts_ss, ↓reduceIte], r, by simp only [sp_wall, eq_true c_2, ts_ss, ↓reduceIte]⟩
