set_option maxRecDepth 20000 in
theorem in_X8_seenOf_X8 : ∀ w ∈ u_ws RX8 TX8 35, w ∈ wsX8_seenOf := by decide +kernel
set_option maxRecDepth 20000 in
theorem lk_X8_seenOf_78 : Cond.fieldLink RX8 78 (TX8 6).1 (TX8 6).2.1 (TX8 6).2.2.1 ∈ wsX8_seenOf := by decide +kernel
theorem yd_X8_isEdge : yX8_isEdge.cls = RX8 ∧ yX8_isEdge.cls ≠ "java/lang/invoke/MethodHandle" ∧ yX8_isEdge.cls ≠ "java/lang/invoke/VarHandle" ∧ (parseMethodDescriptor yX8_isEdge.desc).map (fun d => d.parameters.length) = some 2 := by decide +kernel
set_option maxRecDepth 20000 in
theorem lk_X8_seenOf_75 : Cond.fieldLink RX8 75 (TX8 5).1 (TX8 5).2.1 (TX8 5).2.2.1 ∈ wsX8_seenOf := by decide +kernel
theorem yd_X8_seenOf : yX8_seenOf.cls = RX8 ∧ yX8_seenOf.cls ≠ "java/lang/invoke/MethodHandle" ∧ yX8_seenOf.cls ≠ "java/lang/invoke/VarHandle" ∧ (parseMethodDescriptor yX8_seenOf.desc).map (fun d => d.parameters.length) = some 1 := by decide +kernel
set_option maxRecDepth 20000 in
theorem in_X8_keepAll_X8 : ∀ w ∈ u_ws RX8 TX8 35, w ∈ wsX8_keepAll := by decide +kernel
set_option maxRecDepth 20000 in
theorem lk_X8_keepAll_56 : Cond.fieldLink RX8 56 (TX8 29).1 (TX8 29).2.1 (TX8 29).2.2.1 ∈ wsX8_keepAll := by decide +kernel
set_option maxRecDepth 20000 in
theorem lk_X8_keepAll_22 : Cond.fieldLink RX8 22 (TX8 11).1 (TX8 11).2.1 (TX8 11).2.2.1 ∈ wsX8_keepAll := by decide +kernel
set_option maxRecDepth 20000 in
theorem lk_X8_keepAll_59 : Cond.fieldLink RX8 59 (TX8 30).1 (TX8 30).2.1 (TX8 30).2.2.1 ∈ wsX8_keepAll := by decide +kernel
set_option maxRecDepth 20000 in
theorem lk_X8_keepAll_25 : Cond.fieldLink RX8 25 (TX8 12).1 (TX8 12).2.1 (TX8 12).2.2.1 ∈ wsX8_keepAll := by decide +kernel
set_option maxRecDepth 20000 in
theorem lk_X8_keepAll_62 : Cond.fieldLink RX8 62 (TX8 31).1 (TX8 31).2.1 (TX8 31).2.2.1 ∈ wsX8_keepAll := by decide +kernel
set_option maxRecDepth 20000 in
theorem lk_X8_keepAll_28 : Cond.fieldLink RX8 28 (TX8 13).1 (TX8 13).2.1 (TX8 13).2.2.1 ∈ wsX8_keepAll := by decide +kernel
set_option maxRecDepth 20000 in
theorem in_X8_takeAll_X8 : ∀ w ∈ u_ws RX8 TX8 35, w ∈ wsX8_takeAll := by decide +kernel
set_option maxRecDepth 20000 in
theorem lk_X8_takeAll_22 : Cond.fieldLink RX8 22 (TX8 11).1 (TX8 11).2.1 (TX8 11).2.2.1 ∈ wsX8_takeAll := by decide +kernel
set_option maxRecDepth 20000 in
theorem lk_X8_takeAll_56 : Cond.fieldLink RX8 56 (TX8 29).1 (TX8 29).2.1 (TX8 29).2.2.1 ∈ wsX8_takeAll := by decide +kernel
set_option maxRecDepth 20000 in
theorem lk_X8_takeAll_25 : Cond.fieldLink RX8 25 (TX8 12).1 (TX8 12).2.1 (TX8 12).2.2.1 ∈ wsX8_takeAll := by decide +kernel
set_option maxRecDepth 20000 in
theorem lk_X8_takeAll_59 : Cond.fieldLink RX8 59 (TX8 30).1 (TX8 30).2.1 (TX8 30).2.2.1 ∈ wsX8_takeAll := by decide +kernel
set_option maxRecDepth 20000 in
theorem lk_X8_takeAll_28 : Cond.fieldLink RX8 28 (TX8 13).1 (TX8 13).2.1 (TX8 13).2.2.1 ∈ wsX8_takeAll := by decide +kernel
set_option maxRecDepth 20000 in
theorem lk_X8_takeAll_62 : Cond.fieldLink RX8 62 (TX8 31).1 (TX8 31).2.1 (TX8 31).2.2.1 ∈ wsX8_takeAll := by decide +kernel
set_option maxRecDepth 20000 in
theorem in_X8_areDrops_X8 : ∀ w ∈ u_ws RX8 TX8 35, w ∈ wsX8_areDrops := by decide +kernel
set_option maxRecDepth 20000 in
theorem lk_X8_areDrops_47 : Cond.fieldLink RX8 47 (TX8 24).1 (TX8 24).2.1 (TX8 24).2.2.1 ∈ wsX8_areDrops := by decide +kernel
set_option maxRecDepth 20000 in
theorem in_X8_layMix_X8 : ∀ w ∈ u_ws RX8 TX8 35, w ∈ wsX8_layMix := by decide +kernel
set_option maxRecDepth 20000 in
theorem lk_X8_layMix_168 : Cond.fieldLink RX8 168 (TX8 25).1 (TX8 25).2.1 (TX8 25).2.2.1 ∈ wsX8_layMix := by decide +kernel
set_option maxRecDepth 20000 in
theorem lk_X8_layMix_47 : Cond.fieldLink RX8 47 (TX8 24).1 (TX8 24).2.1 (TX8 24).2.2.1 ∈ wsX8_layMix := by decide +kernel
set_option maxRecDepth 20000 in
theorem lk_X8_layMix_41 : Cond.fieldLink RX8 41 (TX8 21).1 (TX8 21).2.1 (TX8 21).2.2.1 ∈ wsX8_layMix := by decide +kernel
set_option maxRecDepth 20000 in
theorem lk_X8_layMix_50 : Cond.fieldLink RX8 50 (TX8 26).1 (TX8 26).2.1 (TX8 26).2.2.1 ∈ wsX8_layMix := by decide +kernel
set_option maxRecDepth 20000 in
theorem lk_X8_layMix_38 : Cond.fieldLink RX8 38 (TX8 20).1 (TX8 20).2.1 (TX8 20).2.2.1 ∈ wsX8_layMix := by decide +kernel
set_option maxRecDepth 20000 in
theorem in_X8_mixUnlike_X8 : ∀ w ∈ u_ws RX8 TX8 35, w ∈ wsX8_mixUnlike := by decide +kernel
set_option maxRecDepth 20000 in
theorem lk_X8_mixUnlike_121 : Cond.fieldLink RX8 121 (TX8 22).1 (TX8 22).2.1 (TX8 22).2.2.1 ∈ wsX8_mixUnlike := by decide +kernel
set_option maxRecDepth 20000 in
theorem lk_X8_mixUnlike_168 : Cond.fieldLink RX8 168 (TX8 25).1 (TX8 25).2.1 (TX8 25).2.2.1 ∈ wsX8_mixUnlike := by decide +kernel
set_option maxRecDepth 20000 in
theorem lk_X8_mixUnlike_50 : Cond.fieldLink RX8 50 (TX8 26).1 (TX8 26).2.1 (TX8 26).2.2.1 ∈ wsX8_mixUnlike := by decide +kernel
set_option maxRecDepth 20000 in
theorem lk_X8_mixUnlike_44 : Cond.fieldLink RX8 44 (TX8 23).1 (TX8 23).2.1 (TX8 23).2.2.1 ∈ wsX8_mixUnlike := by decide +kernel
set_option maxRecDepth 20000 in
theorem in_X8_traitors_X8 : ∀ w ∈ u_ws RX8 TX8 35, w ∈ wsX8_traitors := by decide +kernel
set_option maxRecDepth 20000 in
theorem lk_X8_traitors_124 : Cond.fieldLink RX8 124 (TX8 19).1 (TX8 19).2.1 (TX8 19).2.2.1 ∈ wsX8_traitors := by decide +kernel
theorem yd_X8_freshUnlike : yX8_freshUnlike.cls = RX8 ∧ yX8_freshUnlike.cls ≠ "java/lang/invoke/MethodHandle" ∧ yX8_freshUnlike.cls ≠ "java/lang/invoke/VarHandle" ∧ (parseMethodDescriptor yX8_freshUnlike.desc).map (fun d => d.parameters.length) = some 3 := by decide +kernel
set_option maxRecDepth 20000 in
theorem lk_X8_traitors_118 : Cond.fieldLink RX8 118 (TX8 9).1 (TX8 9).2.1 (TX8 9).2.2.1 ∈ wsX8_traitors := by decide +kernel
set_option maxRecDepth 20000 in
theorem in_X8_mix_X8 : ∀ w ∈ u_ws RX8 TX8 35, w ∈ wsX8_mix := by decide +kernel
set_option maxRecDepth 20000 in
theorem lk_X8_mix_47 : Cond.fieldLink RX8 47 (TX8 24).1 (TX8 24).2.1 (TX8 24).2.2.1 ∈ wsX8_mix := by decide +kernel
theorem yd_X8_areDrops : yX8_areDrops.cls = RX8 ∧ yX8_areDrops.cls ≠ "java/lang/invoke/MethodHandle" ∧ yX8_areDrops.cls ≠ "java/lang/invoke/VarHandle" ∧ (parseMethodDescriptor yX8_areDrops.desc).map (fun d => d.parameters.length) = some 0 := by decide +kernel
set_option maxRecDepth 20000 in
theorem lk_X8_mix_124 : Cond.fieldLink RX8 124 (TX8 19).1 (TX8 19).2.1 (TX8 19).2.2.1 ∈ wsX8_mix := by decide +kernel
theorem yd_X8_layMix : yX8_layMix.cls = RX8 ∧ yX8_layMix.cls ≠ "java/lang/invoke/MethodHandle" ∧ yX8_layMix.cls ≠ "java/lang/invoke/VarHandle" ∧ (parseMethodDescriptor yX8_layMix.desc).map (fun d => d.parameters.length) = some 0 := by decide +kernel
set_option maxRecDepth 20000 in
theorem lk_X8_mix_168 : Cond.fieldLink RX8 168 (TX8 25).1 (TX8 25).2.1 (TX8 25).2.2.1 ∈ wsX8_mix := by decide +kernel
set_option maxRecDepth 20000 in
theorem lk_X8_mix_50 : Cond.fieldLink RX8 50 (TX8 26).1 (TX8 26).2.1 (TX8 26).2.2.1 ∈ wsX8_mix := by decide +kernel
set_option maxHeartbeats 4000000 in
set_option maxRecDepth 100000 in
theorem kX8_seenOf (c : tv_c) (s r : ts_T)  (p0 : Int32) (hI : iv s) : tv_Fi c 19 yX8_seenOf wsX8_seenOf { frames := 5, cells := 0, slots := 0, locals := 127 } [.ref (tv_ad c 0), .int p0] (eM c s r) (sp_sn s p0 (tk (s 9 0))) (eM c s r) := by
  refine tv_metI (by decide +kernel) rfl rfl (Nat.le_of_ble_eq_true rfl) (fun X C hR => ?_)
  show tv_V c 19 X (eM c s r) 0 [(0, .ref (tv_ad c 0)), (1, .int p0)] []
  have hC := iv.hC hI
  obtain ⟨h, w, n, nk, nl, ny, nm, li, e2, e3, e9, hnw, hh, hw, hn, hz, hp, e7, hk, e8, hl, e4, hy, e5, hm, e6, hli, hcel, hkin, hban, hwei, hshe⟩ := id hI
  have ek2 := tk_e e2 (by omega)
  have ek3 := tk_e e3 (by omega)
  have ek9 := tk_e e9 (by omega)
  refine tv_iconst (v := 0) C dX8_seenOf_0 (by decide) ?_
  refine tv_istore_n (lv' := [(2, .int 0), (0, .ref (tv_ad c 0)), (1, .int p0)]) C dX8_seenOf_1 rfl (by decide) rfl ?_
  refine tv_iconst (v := 0) C dX8_seenOf_2 (by decide) ?_
  refine tv_istore_n (lv' := [(3, .int 0), (2, .int 0), (0, .ref (tv_ad c 0)), (1, .int p0)]) C dX8_seenOf_3 rfl (by decide) rfl ?_
  have hL4 : ∀ (k_4 i : Nat) (x_4_2 : Int32) (x_4_3 : Int32), i + k_4 = n → x_4_2 = (sp_sn s p0 i) → x_4_3 = (nI i) → tv_V c 19 X (eM c s r) 4 [(0, .ref (tv_ad c 0)), (1, .int p0), (2, .int x_4_2), (3, .int x_4_3)] [] := by
    intro k_4
    induction k_4 with
    | zero =>
      intro i x_4_2 x_4_3 hi4  ex_4_2 ex_4_3
      subst ex_4_2
      subst ex_4_3
      have hN4 : i = n := by omega
      refine tv_iload_n C dX8_seenOf_4 rfl 3 rfl ?_
      refine tv_aload_n C dX8_seenOf_5 rfl 0 rfl ?_
      refine tv_calli (As := []) (rest := [.int (nI i)]) (ci := 8) (cn := RX8) (T := TX8) (Nf := 35) C 0 (kX8_all c s r   hC) gX8_seenOf_X8_all rfl yd_X8_all ⟨rfl, rfl⟩ (by decide) (by decide) rfl rfl rfl rfl (Nat.le_of_ble_eq_true rfl) dX8_seenOf_6 (fun q_1 u_1 z_1 => ?_)
      obtain ⟨rfl, rfl⟩ := z_1
      refine tv_icmp_ge C 152 dX8_seenOf_9 (by decide) (fun c_2 => ?_) (fun c_2 => absurd (tn_le e9 (rfl : nI i = nI i) (by omega) (by omega)) c_2)
      refine tv_iload_n C dX8_seenOf_152 rfl 2 rfl ?_
      exact hR _ _ _ _ dX8_seenOf_153 ⟨by first | (simp only [sp_sn, ek2, ek3, ek9, hN4, c_2, if_true, ↓reduceIte]; done) | rfl | (simp [sp_sn, ek2, ek3, ek9, hN4, c_2, if_true]; done) | (exfalso; clear hR C; simp_all; done), by first | (simp only [sp_sn, ek2, ek3, ek9, hN4, c_2, if_true, ts_ss, ts_aa, ↓reduceIte]; done) | rfl | (simp [sp_sn, ek2, ek3, ek9, hN4, c_2, if_true, ts_ss, ts_aa]; done) | (exfalso; clear hR C; simp_all; done)⟩
    | succ k_4 ih4 =>
      intro i x_4_2 x_4_3 hi4  ex_4_2 ex_4_3
      subst ex_4_2
      subst ex_4_3
      have hN4 : i < n := by omega
      have hdv : i / w ≤ i := Nat.div_le_self i w
      have hmd : i % w ≤ i := Nat.mod_le i w
      refine tv_iload_n C dX8_seenOf_4 rfl 3 rfl ?_
      refine tv_aload_n C dX8_seenOf_5 rfl 0 rfl ?_
      refine tv_calli (As := []) (rest := [.int (nI i)]) (ci := 8) (cn := RX8) (T := TX8) (Nf := 35) C 0 (kX8_all c s r   hC) gX8_seenOf_X8_all rfl yd_X8_all ⟨rfl, rfl⟩ (by decide) (by decide) rfl rfl rfl rfl (Nat.le_of_ble_eq_true rfl) dX8_seenOf_6 (fun q_3 u_3 z_3 => ?_)
      obtain ⟨rfl, rfl⟩ := z_3
      refine tv_icmp_ge C 152 dX8_seenOf_9 (by decide) (fun c_4 => absurd c_4 (tn_nle e9 (rfl : nI i = nI i) (by omega) (by omega))) (fun c_4 => ?_)
      have hJ50 : ∀ j_12_0 : Int32, j_12_0 = (sp_rt s p0 i) → tv_V c 19 X (eM c s r) 50 [(0, .ref (tv_ad c 0)), (1, .int p0), (2, .int (sp_sn s p0 i)), (3, .int (nI i))] [.int j_12_0] := by
        intro j_12_0 ej_12_0
        subst ej_12_0
        refine tv_istore (lv' := [(4, .int (sp_rt s p0 i)), (0, .ref (tv_ad c 0)), (1, .int p0), (2, .int (sp_sn s p0 i)), (3, .int (nI i))]) C dX8_seenOf_50 (by decide) rfl ?_
        have hJ93 : ∀ j_52_0 : Int32, j_52_0 = (sp_dn s p0 i) → tv_V c 19 X (eM c s r) 93 [(0, .ref (tv_ad c 0)), (1, .int p0), (2, .int (sp_sn s p0 i)), (3, .int (nI i)), (4, .int (sp_rt s p0 i))] [.int j_52_0] := by
          intro j_52_0 ej_52_0
          subst ej_52_0
          refine tv_istore (lv' := [(5, .int (sp_dn s p0 i)), (0, .ref (tv_ad c 0)), (1, .int p0), (2, .int (sp_sn s p0 i)), (3, .int (nI i)), (4, .int (sp_rt s p0 i))]) C dX8_seenOf_93 (by decide) rfl ?_
          refine tv_iload_n C dX8_seenOf_95 rfl 3 rfl ?_
          have hJ117 : ∀ j_96_0 : Int32, j_96_0 = (sp_t1 s p0 i) → tv_V c 19 X (eM c s r) 117 [(0, .ref (tv_ad c 0)), (1, .int p0), (2, .int (sp_sn s p0 i)), (3, .int (nI i)), (4, .int (sp_rt s p0 i)), (5, .int (sp_dn s p0 i))] [.int j_96_0, .int (sp_sn s p0 i)] := by
            intro j_96_0 ej_96_0
            subst ej_96_0
            refine tv_iadd C dX8_seenOf_117 ?_
            refine tv_istore_n (lv' := [(2, .int ((sp_sn s p0 i) + (sp_t1 s p0 i))), (0, .ref (tv_ad c 0)), (1, .int p0), (3, .int (nI i)), (4, .int (sp_rt s p0 i)), (5, .int (sp_dn s p0 i))]) C dX8_seenOf_118 rfl (by decide) rfl ?_
            refine tv_iload_n C dX8_seenOf_119 rfl 0 rfl ?_
            have hJ144 : ∀ j_120_0 : Int32, j_120_0 = (sp_t2 s p0 i) → tv_V c 19 X (eM c s r) 144 [(0, .ref (tv_ad c 0)), (1, .int p0), (2, .int ((sp_sn s p0 i) + (sp_t1 s p0 i))), (3, .int (nI i)), (4, .int (sp_rt s p0 i)), (5, .int (sp_dn s p0 i))] [.int j_120_0, .int ((sp_sn s p0 i) + (sp_t1 s p0 i))] := by
              intro j_120_0 ej_120_0
              subst ej_120_0
              refine tv_iadd C dX8_seenOf_144 ?_
              refine tv_istore_n (lv' := [(2, .int (((sp_sn s p0 i) + (sp_t1 s p0 i)) + (sp_t2 s p0 i))), (0, .ref (tv_ad c 0)), (1, .int p0), (3, .int (nI i)), (4, .int (sp_rt s p0 i)), (5, .int (sp_dn s p0 i))]) C dX8_seenOf_145 rfl (by decide) rfl ?_
              refine tv_iinc (v := ((nI i) + 1)) (lv' := [(3, .int ((nI i) + 1)), (2, .int (((sp_sn s p0 i) + (sp_t1 s p0 i)) + (sp_t2 s p0 i))), (0, .ref (tv_ad c 0)), (1, .int p0), (4, .int (sp_rt s p0 i)), (5, .int (sp_dn s p0 i))]) C dX8_seenOf_146 3 rfl rfl (by decide) rfl ?_
              refine tv_goto C 4 dX8_seenOf_149 (by decide) ?_
              refine tv_lsub [2, 3, 1, 0] rfl ?_
              exact ih4 (i + 1) _ _ (by omega)  (by first | rfl | exact nI_1 _ | (simp only [sp_sn, ek2, ek3, ek9, c_4, if_true, ↓reduceIte]; done) | (simp [sp_sn, ek2, ek3, ek9, c_4, if_true]; done) | (exfalso; clear hR C; simp_all; done)) (by first | rfl | exact nI_1 _ | (simp only [sp_sn, ek2, ek3, ek9, c_4, if_true, ↓reduceIte]; done) | (simp [sp_sn, ek2, ek3, ek9, c_4, if_true]; done) | (exfalso; clear hR C; simp_all; done))
            refine tv_iload C dX8_seenOf_120 5 rfl ?_
            refine tv_if_eq C 143 dX8_seenOf_122 (by decide) (fun c_5 => ?_) (fun c_5 => ?_)
            · skip
              refine tv_iconst (v := 0) C dX8_seenOf_143 (by decide) ?_
              refine tv_lsub [1, 2, 0, 3, 4, 5] rfl ?_
              exact hJ144 0 (by simp only [sp_t2, ek2, ek3, ek9, c_4, eq_true c_5, ↓reduceIte])
            · skip
              have hr2 : i + w < n := sp_dn_lt (p := p0) e2 e3 hh hw hnw hN4 (by assumption)
              refine tv_aload_n C dX8_seenOf_125 rfl 1 rfl ?_
              refine tv_iload_n C dX8_seenOf_126 rfl 3 rfl ?_
              refine tv_iload_n C dX8_seenOf_127 rfl 3 rfl ?_
              refine tv_aload_n C dX8_seenOf_128 rfl 1 rfl ?_
              refine tv_get (ci := 8) (Cn := RX8) (T := TX8) (Nf := 35) (v := .int (s 3 0)) C 0 (by decide) rfl rfl in_X8_seenOf_X8 6 (by decide) lk_X8_seenOf_78 rfl dX8_seenOf_129 ?_
              refine tv_iadd C dX8_seenOf_132 ?_
              refine tv_calli (As := [.int (nI i), .int ((nI i) + (s 3 0))]) (rest := [.int ((sp_sn s p0 i) + (sp_t1 s p0 i))]) (ci := 8) (cn := RX8) (T := TX8) (Nf := 35) C 0 (kX8_isEdge c s r nl i (i + w) (nI i) ((nI i) + (s 3 0)) (rfl : nI i = nI i) (by omega) (tn_add (rfl : nI i = nI i) e3) (by omega) (hcel i hN4).2.1 (hcel (i + w) hr2).2.1 e8 hl) gX8_seenOf_X8_isEdge rfl yd_X8_isEdge ⟨rfl, rfl⟩ (by decide) (by decide) rfl rfl rfl rfl (Nat.le_of_ble_eq_true rfl) dX8_seenOf_133 (fun q_6 u_6 z_6 => ?_)
              obtain ⟨rfl, rfl⟩ := z_6
              refine tv_if_eq C 143 dX8_seenOf_136 (by decide) (fun c_7 => ?_) (fun c_7 => ?_)
              · skip
                refine tv_iconst (v := 0) C dX8_seenOf_143 (by decide) ?_
                refine tv_lsub [1, 2, 0, 3, 4, 5] rfl ?_
                exact hJ144 0 (by simp only [sp_t2, ek2, ek3, ek9, c_4, c_5, eq_true c_7, ↓reduceIte])
              · skip
                refine tv_iconst (v := 1) C dX8_seenOf_139 (by decide) ?_
                refine tv_goto C 144 dX8_seenOf_140 (by decide) ?_
                refine tv_lsub [1, 2, 0, 3, 4, 5] rfl ?_
                exact hJ144 1 (by simp only [sp_t2, ek2, ek3, ek9, c_4, c_5, c_7, ↓reduceIte])
          refine tv_iload C dX8_seenOf_96 5 rfl ?_
          refine tv_if_eq C 116 dX8_seenOf_98 (by decide) (fun c_8 => ?_) (fun c_8 => ?_)
          · skip
            refine tv_iconst (v := 0) C dX8_seenOf_116 (by decide) ?_
            refine tv_lsub [1, 2, 3, 4, 5, 0] rfl ?_
            exact hJ117 0 (by simp only [sp_t1, ek2, ek3, ek9, c_4, eq_true c_8, ↓reduceIte])
          · skip
            have hr1 : i + 1 < n := sp_rt_lt (p := p0) e3 hw hnw hN4 (by assumption)
            refine tv_aload_n C dX8_seenOf_101 rfl 1 rfl ?_
            refine tv_iload_n C dX8_seenOf_102 rfl 4 rfl ?_
            refine tv_iload_n C dX8_seenOf_103 rfl 4 rfl ?_
            refine tv_iconst (v := 1) C dX8_seenOf_104 (by decide) ?_
            refine tv_iadd C dX8_seenOf_105 ?_
            refine tv_calli (As := [.int (nI i), .int ((nI i) + 1)]) (rest := [.int (sp_sn s p0 i)]) (ci := 8) (cn := RX8) (T := TX8) (Nf := 35) C 0 (kX8_isEdge c s r nl i (i + 1) (nI i) ((nI i) + 1) (rfl : nI i = nI i) (by omega) (tn_add (rfl : nI i = nI i) (tn_l 1)) (by omega) (hcel i hN4).2.1 (hcel (i + 1) hr1).2.1 e8 hl) gX8_seenOf_X8_isEdge rfl yd_X8_isEdge ⟨rfl, rfl⟩ (by decide) (by decide) rfl rfl rfl rfl (Nat.le_of_ble_eq_true rfl) dX8_seenOf_106 (fun q_9 u_9 z_9 => ?_)
            obtain ⟨rfl, rfl⟩ := z_9
            refine tv_if_eq C 116 dX8_seenOf_109 (by decide) (fun c_10 => ?_) (fun c_10 => ?_)
            · skip
              refine tv_iconst (v := 0) C dX8_seenOf_116 (by decide) ?_
              refine tv_lsub [1, 2, 3, 4, 5, 0] rfl ?_
              exact hJ117 0 (by simp only [sp_t1, ek2, ek3, ek9, c_4, c_8, eq_true c_10, ↓reduceIte])
            · skip
              refine tv_iconst (v := 1) C dX8_seenOf_112 (by decide) ?_
              refine tv_goto C 117 dX8_seenOf_113 (by decide) ?_
              refine tv_lsub [1, 2, 3, 4, 5, 0] rfl ?_
              exact hJ117 1 (by simp only [sp_t1, ek2, ek3, ek9, c_4, c_8, c_10, ↓reduceIte])
        refine tv_iload_n C dX8_seenOf_52 rfl 4 rfl ?_
        refine tv_aload_n C dX8_seenOf_53 rfl 1 rfl ?_
        refine tv_get (ci := 8) (Cn := RX8) (T := TX8) (Nf := 35) (v := .int (s 3 0)) C 0 (by decide) rfl rfl in_X8_seenOf_X8 6 (by decide) lk_X8_seenOf_78 rfl dX8_seenOf_54 ?_
        refine tv_idiv C (tn_ne e3 (by omega) (by omega)) dX8_seenOf_57 ?_
        refine tv_aload_n C dX8_seenOf_58 rfl 1 rfl ?_
        refine tv_get (ci := 8) (Cn := RX8) (T := TX8) (Nf := 35) (v := .int (s 2 0)) C 0 (by decide) rfl rfl in_X8_seenOf_X8 5 (by decide) lk_X8_seenOf_75 rfl dX8_seenOf_59 ?_
        refine tv_iconst (v := 1) C dX8_seenOf_62 (by decide) ?_
        refine tv_isub C dX8_seenOf_63 ?_
        refine tv_icmp_ge C 92 dX8_seenOf_64 (by decide) (fun c_11 => ?_) (fun c_11 => ?_)
        · skip
          have nc_11 : (h - 1) ≤ (i / w) := (tn_geI (tn_div (rfl : nI i = nI i) e3 (by omega) (by omega) (by omega)) (tn_sub e2 (tn_l 1) (by omega)) (by omega) (by omega)).mp c_11
          refine tv_iconst (v := 0) C dX8_seenOf_92 (by decide) ?_
          refine tv_lsub [1, 2, 3, 4, 0] rfl ?_
          exact hJ93 0 (by simp only [sp_dn, ek2, ek3, ek9, c_4, c_11, nc_11, tn_d_le c_11, ↓reduceIte])
        · skip
          have nc_11 : ¬ (h - 1) ≤ (i / w) := tn_nf (tn_geI (tn_div (rfl : nI i = nI i) e3 (by omega) (by omega) (by omega)) (tn_sub e2 (tn_l 1) (by omega)) (by omega) (by omega)) c_11
          refine tv_iload_n C dX8_seenOf_67 rfl 2 rfl ?_
          refine tv_bipush (v := (-9)) C dX8_seenOf_68 (by decide) ?_
          refine tv_icmp_eq C 88 dX8_seenOf_70 (by decide) (fun c_12 => ?_) (fun c_12 => ?_)
          · skip
            refine tv_iconst (v := 1) C dX8_seenOf_88 (by decide) ?_
            refine tv_goto C 93 dX8_seenOf_89 (by decide) ?_
            refine tv_lsub [1, 2, 3, 4, 0] rfl ?_
            exact hJ93 1 (by simp only [sp_dn, ek2, ek3, ek9, c_4, c_11, nc_11, tn_d_nle c_11, eq_true c_12, ↓reduceIte])
          · skip
            refine tv_iload_n C dX8_seenOf_73 rfl 2 rfl ?_
            refine tv_iload_n C dX8_seenOf_74 rfl 4 rfl ?_
            refine tv_icmp_eq C 88 dX8_seenOf_75 (by decide) (fun c_13 => ?_) (fun c_13 => ?_)
            · skip
              refine tv_iconst (v := 1) C dX8_seenOf_88 (by decide) ?_
              refine tv_goto C 93 dX8_seenOf_89 (by decide) ?_
              refine tv_lsub [1, 2, 3, 4, 0] rfl ?_
              exact hJ93 1 (by simp only [sp_dn, ek2, ek3, ek9, c_4, c_11, nc_11, tn_d_nle c_11, c_12, eq_true c_13, ↓reduceIte])
            · skip
              refine tv_iload_n C dX8_seenOf_78 rfl 2 rfl ?_
              refine tv_iload_n C dX8_seenOf_79 rfl 4 rfl ?_
              refine tv_aload_n C dX8_seenOf_80 rfl 1 rfl ?_
              refine tv_get (ci := 8) (Cn := RX8) (T := TX8) (Nf := 35) (v := .int (s 3 0)) C 0 (by decide) rfl rfl in_X8_seenOf_X8 6 (by decide) lk_X8_seenOf_78 rfl dX8_seenOf_81 ?_
              refine tv_iadd C dX8_seenOf_84 ?_
              refine tv_icmp_ne C 92 dX8_seenOf_85 (by decide) (fun c_14 => ?_) (fun c_14 => ?_)
              · skip
                refine tv_iconst (v := 0) C dX8_seenOf_92 (by decide) ?_
                refine tv_lsub [1, 2, 3, 4, 0] rfl ?_
                exact hJ93 0 (by simp only [sp_dn, ek2, ek3, ek9, c_4, c_11, nc_11, tn_d_nle c_11, c_12, c_13, c_14, ↓reduceIte])
              · skip
                refine tv_iconst (v := 1) C dX8_seenOf_88 (by decide) ?_
                refine tv_goto C 93 dX8_seenOf_89 (by decide) ?_
                refine tv_lsub [1, 2, 3, 4, 0] rfl ?_
                exact hJ93 1 (by simp only [sp_dn, ek2, ek3, ek9, c_4, c_11, nc_11, tn_d_nle c_11, c_12, c_13, eq_true c_14, ↓reduceIte])
      refine tv_iload_n C dX8_seenOf_12 rfl 3 rfl ?_
      refine tv_aload_n C dX8_seenOf_13 rfl 0 rfl ?_
      refine tv_get (ci := 8) (Cn := RX8) (T := TX8) (Nf := 35) (v := .int (s 3 0)) C 0 (by decide) rfl rfl in_X8_seenOf_X8 6 (by decide) lk_X8_seenOf_78 rfl dX8_seenOf_14 ?_
      refine tv_irem C (tn_ne e3 (by omega) (by omega)) dX8_seenOf_17 ?_
      refine tv_aload_n C dX8_seenOf_18 rfl 0 rfl ?_
      refine tv_get (ci := 8) (Cn := RX8) (T := TX8) (Nf := 35) (v := .int (s 3 0)) C 0 (by decide) rfl rfl in_X8_seenOf_X8 6 (by decide) lk_X8_seenOf_78 rfl dX8_seenOf_19 ?_
      refine tv_iconst (v := 1) C dX8_seenOf_22 (by decide) ?_
      refine tv_isub C dX8_seenOf_23 ?_
      refine tv_icmp_ge C 49 dX8_seenOf_24 (by decide) (fun c_15 => ?_) (fun c_15 => ?_)
      · skip
        have nc_15 : (w - 1) ≤ (i % w) := (tn_geI (tn_rem (rfl : nI i = nI i) e3 (by omega) (by omega) (by omega)) (tn_sub e3 (tn_l 1) (by omega)) (by omega) (by omega)).mp c_15
        refine tv_iconst (v := 0) C dX8_seenOf_49 (by decide) ?_
        refine tv_lsub [0, 1, 2, 3] rfl ?_
        exact hJ50 0 (by simp only [sp_rt, ek2, ek3, ek9, c_4, c_15, nc_15, tn_d_le c_15, ↓reduceIte])
      · skip
        have nc_15 : ¬ (w - 1) ≤ (i % w) := tn_nf (tn_geI (tn_rem (rfl : nI i = nI i) e3 (by omega) (by omega) (by omega)) (tn_sub e3 (tn_l 1) (by omega)) (by omega) (by omega)) c_15
        refine tv_iload_n C dX8_seenOf_27 rfl 1 rfl ?_
        refine tv_bipush (v := (-9)) C dX8_seenOf_28 (by decide) ?_
        refine tv_icmp_eq C 45 dX8_seenOf_30 (by decide) (fun c_16 => ?_) (fun c_16 => ?_)
        · skip
          refine tv_iconst (v := 1) C dX8_seenOf_45 (by decide) ?_
          refine tv_goto C 50 dX8_seenOf_46 (by decide) ?_
          refine tv_lsub [0, 1, 2, 3] rfl ?_
          exact hJ50 1 (by simp only [sp_rt, ek2, ek3, ek9, c_4, c_15, nc_15, tn_d_nle c_15, eq_true c_16, ↓reduceIte])
        · skip
          refine tv_iload_n C dX8_seenOf_33 rfl 1 rfl ?_
          refine tv_iload_n C dX8_seenOf_34 rfl 3 rfl ?_
          refine tv_icmp_eq C 45 dX8_seenOf_35 (by decide) (fun c_17 => ?_) (fun c_17 => ?_)
          · skip
            refine tv_iconst (v := 1) C dX8_seenOf_45 (by decide) ?_
            refine tv_goto C 50 dX8_seenOf_46 (by decide) ?_
            refine tv_lsub [0, 1, 2, 3] rfl ?_
            exact hJ50 1 (by simp only [sp_rt, ek2, ek3, ek9, c_4, c_15, nc_15, tn_d_nle c_15, c_16, eq_true c_17, ↓reduceIte])
          · skip
            refine tv_iload_n C dX8_seenOf_38 rfl 1 rfl ?_
            refine tv_iload_n C dX8_seenOf_39 rfl 3 rfl ?_
            refine tv_iconst (v := 1) C dX8_seenOf_40 (by decide) ?_
            refine tv_iadd C dX8_seenOf_41 ?_
            refine tv_icmp_ne C 49 dX8_seenOf_42 (by decide) (fun c_18 => ?_) (fun c_18 => ?_)
            · skip
              refine tv_iconst (v := 0) C dX8_seenOf_49 (by decide) ?_
              refine tv_lsub [0, 1, 2, 3] rfl ?_
              exact hJ50 0 (by simp only [sp_rt, ek2, ek3, ek9, c_4, c_15, nc_15, tn_d_nle c_15, c_16, c_17, c_18, ↓reduceIte])
            · skip
              refine tv_iconst (v := 1) C dX8_seenOf_45 (by decide) ?_
              refine tv_goto C 50 dX8_seenOf_46 (by decide) ?_
              refine tv_lsub [0, 1, 2, 3] rfl ?_
              exact hJ50 1 (by simp only [sp_rt, ek2, ek3, ek9, c_4, c_15, nc_15, tn_d_nle c_15, c_16, c_17, eq_true c_18, ↓reduceIte])
  refine tv_lsub [2, 3, 1, 0] rfl ?_
  exact hL4 (n - 0) 0 _ _ (by omega)  (by first | (simp only [sp_sn, ek2, ek3, ek9, if_true, ↓reduceIte]; done) | rfl | (simp [sp_sn, ek2, ek3, ek9, if_true]; done) | (exfalso; clear hR C; simp_all; done)) (by first | (simp only [sp_sn, ek2, ek3, ek9, if_true, ↓reduceIte]; done) | rfl | (simp [sp_sn, ek2, ek3, ek9, if_true]; done) | (exfalso; clear hR C; simp_all; done))
set_option maxHeartbeats 4000000 in
set_option maxRecDepth 100000 in
theorem kX8_seen (c : tv_c) (s r : ts_T)  (p0 : Int32) (hI : iv s) : tv_Fi c 19 yX8_seen wsX8_seen { frames := 6, cells := 0, slots := 0, locals := 152 } [.ref (tv_ad c 0), .int p0] (eM c s r) (sp_seen s p0) (eM c s r) := by
  refine tv_metI (by decide +kernel) rfl rfl (Nat.le_of_ble_eq_true rfl) (fun X C hR => ?_)
  show tv_V c 19 X (eM c s r) 0 [(0, .ref (tv_ad c 0)), (1, .int p0)] []
  have hC := iv.hC hI
  obtain ⟨h, w, n, nk, nl, ny, nm, li, e2, e3, e9, hnw, hh, hw, hn, hz, hp, e7, hk, e8, hl, e4, hy, e5, hm, e6, hli, hcel, hkin, hban, hwei, hshe⟩ := id hI
  refine tv_iload_n C dX8_seen_0 rfl 1 rfl ?_
  refine tv_iconst (v := (-1)) C dX8_seen_1 (by decide) ?_
  refine tv_icmp_ne C 12 dX8_seen_2 (by decide) (fun c_1 => ?_) (fun c_1 => ?_)
  · skip
    refine tv_aload_n C dX8_seen_12 rfl 0 rfl ?_
    refine tv_iload_n C dX8_seen_13 rfl 1 rfl ?_
    refine tv_calli (As := [.int p0]) (rest := []) (ci := 8) (cn := RX8) (T := TX8) (Nf := 35) C 0 (kX8_isCell c s r  p0 hC) gX8_seen_X8_isCell rfl yd_X8_isCell ⟨rfl, rfl⟩ (by decide) (by decide) rfl rfl rfl rfl (Nat.le_of_ble_eq_true rfl) dX8_seen_14 (fun q_2 u_2 z_2 => ?_)
    obtain ⟨rfl, rfl⟩ := z_2
    refine tv_if_eq C 28 dX8_seen_17 (by decide) (fun c_3 => ?_) (fun c_3 => ?_)
    · skip
      refine tv_iconst (v := (-1)) C dX8_seen_28 (by decide) ?_
      exact hR _ _ _ _ dX8_seen_29 ⟨by first | (simp only [sp_seen, c_1, eq_true c_3, if_true, ↓reduceIte]; done) | rfl | (simp [sp_seen, c_1, eq_true c_3, if_true]; done) | (exfalso; clear hR C; simp_all; done), by first | (simp only [sp_seen, c_1, eq_true c_3, if_true, ts_ss, ts_aa, ↓reduceIte]; done) | rfl | (simp [sp_seen, c_1, eq_true c_3, if_true, ts_ss, ts_aa]; done) | (exfalso; clear hR C; simp_all; done)⟩
    · skip
      obtain ⟨j_p0, hj_p0, ej_p0, ek_p0⟩ := in_ix e9 (by omega) c_3
      obtain ⟨fs_p0, ⟨b_p0, hb_p0, eb_p0⟩, fh_p0, fa_p0, fz_p0⟩ := hcel j_p0 hj_p0
      refine tv_aload_n C dX8_seen_20 rfl 0 rfl ?_
      refine tv_iload_n C dX8_seen_21 rfl 1 rfl ?_
      refine tv_calli (As := [.int p0]) (rest := []) (ci := 8) (cn := RX8) (T := TX8) (Nf := 35) C 0 (kX8_seenOf c s r  p0 hI) gX8_seen_X8_seenOf rfl yd_X8_seenOf ⟨rfl, rfl⟩ (by decide) (by decide) rfl rfl rfl rfl (Nat.le_of_ble_eq_true rfl) dX8_seen_22 (fun q_4 u_4 z_4 => ?_)
      obtain ⟨rfl, rfl⟩ := z_4
      refine tv_goto C 29 dX8_seen_25 (by decide) ?_
      exact hR _ _ _ _ dX8_seen_29 ⟨by first | (simp only [sp_seen, c_1, c_3, ek_p0, if_true, ↓reduceIte]; done) | rfl | (simp [sp_seen, c_1, c_3, ek_p0, if_true]; done) | (exfalso; clear hR C; simp_all; done), by first | (simp only [sp_seen, c_1, c_3, ek_p0, if_true, ts_ss, ts_aa, ↓reduceIte]; done) | rfl | (simp [sp_seen, c_1, c_3, ek_p0, if_true, ts_ss, ts_aa]; done) | (exfalso; clear hR C; simp_all; done)⟩
  · skip
    refine tv_aload_n C dX8_seen_5 rfl 0 rfl ?_
    refine tv_bipush (v := (-9)) C dX8_seen_6 (by decide) ?_
    refine tv_calli (As := [.int (-9)]) (rest := []) (ci := 8) (cn := RX8) (T := TX8) (Nf := 35) C 0 (kX8_seenOf c s r  (-9) hI) gX8_seen_X8_seenOf rfl yd_X8_seenOf ⟨rfl, rfl⟩ (by decide) (by decide) rfl rfl rfl rfl (Nat.le_of_ble_eq_true rfl) dX8_seen_8 (fun q_5 u_5 z_5 => ?_)
    obtain ⟨rfl, rfl⟩ := z_5
    exact hR _ _ _ _ dX8_seen_11 ⟨by first | (simp only [sp_seen, eq_true c_1, if_true, ↓reduceIte]; done) | rfl | (simp [sp_seen, eq_true c_1, if_true]; done) | (exfalso; clear hR C; simp_all; done), by first | (simp only [sp_seen, eq_true c_1, if_true, ts_ss, ts_aa, ↓reduceIte]; done) | rfl | (simp [sp_seen, eq_true c_1, if_true, ts_ss, ts_aa]; done) | (exfalso; clear hR C; simp_all; done)⟩
set_option maxHeartbeats 4000000 in
set_option maxRecDepth 100000 in
theorem kX8_hide (c : tv_c) (s r : ts_T)  (p0 : Int32) (hI : iv s) : tv_Fi c 19 yX8_hide wsX8_hide { frames := 6, cells := 0, slots := 0, locals := 152 } [.ref (tv_ad c 0), .int p0] (eM c s r) (sp_hide s p0) (eM c s r) := by
  refine tv_metI (by decide +kernel) rfl rfl (Nat.le_of_ble_eq_true rfl) (fun X C hR => ?_)
  show tv_V c 19 X (eM c s r) 0 [(0, .ref (tv_ad c 0)), (1, .int p0)] []
  have hC := iv.hC hI
  obtain ⟨h, w, n, nk, nl, ny, nm, li, e2, e3, e9, hnw, hh, hw, hn, hz, hp, e7, hk, e8, hl, e4, hy, e5, hm, e6, hli, hcel, hkin, hban, hwei, hshe⟩ := id hI
  have ek9 := tk_e e9 (by omega)
  refine tv_iload_n C dX8_hide_0 rfl 1 rfl ?_
  refine tv_iconst (v := 0) C dX8_hide_1 (by decide) ?_
  refine tv_iconst (v := 1) C dX8_hide_2 (by decide) ?_
  refine tv_callis (As := [.int p0, .int 0, .int 1]) (rest := []) C (kX8_within c s r  p0 0 1 ) gX8_hide_X8_within rfl yd_X8_within ⟨rfl, rfl⟩ (by decide) rfl rfl (Nat.le_of_ble_eq_true rfl) dX8_hide_3 (fun q_1 u_1 z_1 => ?_)
  obtain ⟨rfl, rfl⟩ := z_1
  refine tv_if_ne C 12 dX8_hide_6 (by decide) (fun c_2 => ?_) (fun c_2 => ?_)
  · skip
    obtain ⟨j_p0, hj_p0, ej_p0, ek_p0⟩ := in_in (b := 1) (by decide) c_2
    refine tv_aload_n C dX8_hide_12 rfl 0 rfl ?_
    refine tv_calli (As := []) (rest := []) (ci := 8) (cn := RX8) (T := TX8) (Nf := 35) C 0 (kX8_all c s r   hC) gX8_hide_X8_all rfl yd_X8_all ⟨rfl, rfl⟩ (by decide) (by decide) rfl rfl rfl rfl (Nat.le_of_ble_eq_true rfl) dX8_hide_13 (fun q_3 u_3 z_3 => ?_)
    obtain ⟨rfl, rfl⟩ := z_3
    refine tv_if_ne C 22 dX8_hide_16 (by decide) (fun c_4 => ?_) (fun c_4 => ?_)
    · skip
      have nc_4 : ¬ n = 0 := tn_nf (tn_eqI e9 (tn_l 0) (by omega) (by omega)) c_4
      refine tv_iconst (v := 0) C dX8_hide_22 (by decide) ?_
      refine tv_istore_n (lv' := [(2, .int 0), (0, .ref (tv_ad c 0)), (1, .int p0)]) C dX8_hide_23 rfl (by decide) rfl ?_
      refine tv_iconst (v := (-1)) C dX8_hide_24 (by decide) ?_
      refine tv_istore_n (lv' := [(3, .int (-1)), (2, .int 0), (0, .ref (tv_ad c 0)), (1, .int p0)]) C dX8_hide_25 rfl (by decide) rfl ?_
      refine tv_iconst (v := 0) C dX8_hide_26 (by decide) ?_
      refine tv_istore (lv' := [(4, .int 0), (3, .int (-1)), (2, .int 0), (0, .ref (tv_ad c 0)), (1, .int p0)]) C dX8_hide_27 (by decide) rfl ?_
      have hL29 : ∀ (k_29 i : Nat) (x_29_2 : Int32) (x_29_3 : Int32) (x_29_4 : Int32), i + k_29 = n → x_29_2 = (sp_hb (fun q => sp_sn s (nI q) (tk (s 9 0))) i).1 → x_29_3 = (sp_hb (fun q => sp_sn s (nI q) (tk (s 9 0))) i).2 → x_29_4 = (nI i) → tv_V c 19 X (eM c s r) 29 [(0, .ref (tv_ad c 0)), (1, .int p0), (2, .int x_29_2), (3, .int x_29_3), (4, .int x_29_4)] [] := by
        intro k_29
        induction k_29 with
        | zero =>
          intro i x_29_2 x_29_3 x_29_4 hi29  ex_29_2 ex_29_3 ex_29_4
          subst ex_29_2
          subst ex_29_3
          subst ex_29_4
          have hN29 : i = n := by omega
          refine tv_iload C dX8_hide_29 4 rfl ?_
          refine tv_aload_n C dX8_hide_31 rfl 0 rfl ?_
          refine tv_calli (As := []) (rest := [.int (nI i)]) (ci := 8) (cn := RX8) (T := TX8) (Nf := 35) C 0 (kX8_all c s r   hC) gX8_hide_X8_all rfl yd_X8_all ⟨rfl, rfl⟩ (by decide) (by decide) rfl rfl rfl rfl (Nat.le_of_ble_eq_true rfl) dX8_hide_32 (fun q_5 u_5 z_5 => ?_)
          obtain ⟨rfl, rfl⟩ := z_5
          refine tv_icmp_ge C 64 dX8_hide_35 (by decide) (fun c_6 => ?_) (fun c_6 => absurd (tn_le e9 (rfl : nI i = nI i) (by omega) (by omega)) c_6)
          refine tv_iload_n C dX8_hide_64 rfl 1 rfl ?_
          refine tv_if_ne C 72 dX8_hide_65 (by decide) (fun c_7 => ?_) (fun c_7 => ?_)
          · skip
            refine tv_iload_n C dX8_hide_72 rfl 3 rfl ?_
            exact hR _ _ _ _ dX8_hide_73 ⟨by rw [sp_hide, ek9]; simp only [c_2, ek_p0, c_4, nc_4, c_6, c_7, ↓reduceIte, ek9, hN29], by first | (simp only [sp_hide, c_2, ek_p0, c_4, nc_4, c_6, c_7, if_true, ts_ss, ts_aa, ↓reduceIte]; done) | rfl | (simp [sp_hide, c_2, ek_p0, c_4, nc_4, c_6, c_7, if_true, ts_ss, ts_aa]; done) | (exfalso; clear hR C; simp_all; done)⟩
          · skip
            refine tv_iload_n C dX8_hide_68 rfl 2 rfl ?_
            refine tv_goto C 73 dX8_hide_69 (by decide) ?_
            exact hR _ _ _ _ dX8_hide_73 ⟨by rw [sp_hide, ek9]; simp only [c_2, ek_p0, c_4, nc_4, c_6, eq_true c_7, ↓reduceIte, ek9, hN29], by first | (simp only [sp_hide, c_2, ek_p0, c_4, nc_4, c_6, eq_true c_7, if_true, ts_ss, ts_aa, ↓reduceIte]; done) | rfl | (simp [sp_hide, c_2, ek_p0, c_4, nc_4, c_6, eq_true c_7, if_true, ts_ss, ts_aa]; done) | (exfalso; clear hR C; simp_all; done)⟩
        | succ k_29 ih29 =>
          intro i x_29_2 x_29_3 x_29_4 hi29  ex_29_2 ex_29_3 ex_29_4
          subst ex_29_2
          subst ex_29_3
          subst ex_29_4
          have hN29 : i < n := by omega
          refine tv_iload C dX8_hide_29 4 rfl ?_
          refine tv_aload_n C dX8_hide_31 rfl 0 rfl ?_
          refine tv_calli (As := []) (rest := [.int (nI i)]) (ci := 8) (cn := RX8) (T := TX8) (Nf := 35) C 0 (kX8_all c s r   hC) gX8_hide_X8_all rfl yd_X8_all ⟨rfl, rfl⟩ (by decide) (by decide) rfl rfl rfl rfl (Nat.le_of_ble_eq_true rfl) dX8_hide_32 (fun q_8 u_8 z_8 => ?_)
          obtain ⟨rfl, rfl⟩ := z_8
          refine tv_icmp_ge C 64 dX8_hide_35 (by decide) (fun c_9 => absurd c_9 (tn_nle e9 (rfl : nI i = nI i) (by omega) (by omega))) (fun c_9 => ?_)
          refine tv_aload_n C dX8_hide_38 rfl 0 rfl ?_
          refine tv_iload C dX8_hide_39 4 rfl ?_
          refine tv_calli (As := [.int (nI i)]) (rest := []) (ci := 8) (cn := RX8) (T := TX8) (Nf := 35) C 0 (kX8_seenOf c s r  (nI i) hI) gX8_hide_X8_seenOf rfl yd_X8_seenOf ⟨rfl, rfl⟩ (by decide) (by decide) rfl rfl rfl rfl (Nat.le_of_ble_eq_true rfl) dX8_hide_41 (fun q_10 u_10 z_10 => ?_)
          obtain ⟨rfl, rfl⟩ := z_10
          refine tv_istore (lv' := [(5, .int (sp_sn s (nI i) (tk (s 9 0)))), (0, .ref (tv_ad c 0)), (1, .int p0), (2, .int (sp_hb (fun q => sp_sn s (nI q) (tk (s 9 0))) i).1), (3, .int (sp_hb (fun q => sp_sn s (nI q) (tk (s 9 0))) i).2), (4, .int (nI i))]) C dX8_hide_44 (by decide) rfl ?_
          refine tv_iload C dX8_hide_46 0 rfl ?_
          refine tv_iload_n C dX8_hide_48 rfl 4 rfl ?_
          refine tv_icmp_le C 58 dX8_hide_49 (by decide) (fun c_11 => ?_) (fun c_11 => ?_)
          · skip
            refine tv_iinc (v := ((nI i) + 1)) (lv' := [(4, .int ((nI i) + 1)), (5, .int (sp_sn s (nI i) (tk (s 9 0)))), (0, .ref (tv_ad c 0)), (1, .int p0), (2, .int (sp_hb (fun q => sp_sn s (nI q) (tk (s 9 0))) i).1), (3, .int (sp_hb (fun q => sp_sn s (nI q) (tk (s 9 0))) i).2)]) C dX8_hide_58 5 rfl rfl (by decide) rfl ?_
            refine tv_goto C 29 dX8_hide_61 (by decide) ?_
            refine tv_lsub [2, 3, 4, 5, 0] rfl ?_
            exact ih29 (i + 1) _ _ _ (by omega)  (by simp only [sp_hb, c_2, ek_p0, c_4, nc_4, c_9, c_11, tn_d_le c_11, ↓reduceIte]) (by simp only [sp_hb, c_2, ek_p0, c_4, nc_4, c_9, c_11, tn_d_le c_11, ↓reduceIte]) (by first | rfl | exact nI_1 _ | (simp only [sp_hide, c_2, ek_p0, c_4, nc_4, c_9, c_11, tn_d_le c_11, if_true, ↓reduceIte]; done) | (simp [sp_hide, c_2, ek_p0, c_4, nc_4, c_9, c_11, tn_d_le c_11, if_true]; done) | (exfalso; clear hR C; simp_all; done))
          · skip
            refine tv_iload C dX8_hide_52 0 rfl ?_
            refine tv_istore_n (lv' := [(3, .int (sp_sn s (nI i) (tk (s 9 0)))), (5, .int (sp_sn s (nI i) (tk (s 9 0)))), (0, .ref (tv_ad c 0)), (1, .int p0), (2, .int (sp_hb (fun q => sp_sn s (nI q) (tk (s 9 0))) i).1), (4, .int (nI i))]) C dX8_hide_54 rfl (by decide) rfl ?_
            refine tv_iload C dX8_hide_55 5 rfl ?_
            refine tv_istore_n (lv' := [(2, .int (nI i)), (3, .int (sp_sn s (nI i) (tk (s 9 0)))), (5, .int (sp_sn s (nI i) (tk (s 9 0)))), (0, .ref (tv_ad c 0)), (1, .int p0), (4, .int (nI i))]) C dX8_hide_57 rfl (by decide) rfl ?_
            refine tv_iinc (v := ((nI i) + 1)) (lv' := [(4, .int ((nI i) + 1)), (2, .int (nI i)), (3, .int (sp_sn s (nI i) (tk (s 9 0)))), (5, .int (sp_sn s (nI i) (tk (s 9 0)))), (0, .ref (tv_ad c 0)), (1, .int p0)]) C dX8_hide_58 5 rfl rfl (by decide) rfl ?_
            refine tv_goto C 29 dX8_hide_61 (by decide) ?_
            refine tv_lsub [4, 5, 1, 2, 0] rfl ?_
            exact ih29 (i + 1) _ _ _ (by omega)  (by simp only [sp_hb, c_2, ek_p0, c_4, nc_4, c_9, c_11, tn_d_nle c_11, ↓reduceIte]) (by simp only [sp_hb, c_2, ek_p0, c_4, nc_4, c_9, c_11, tn_d_nle c_11, ↓reduceIte]) (by first | rfl | exact nI_1 _ | (simp only [sp_hide, c_2, ek_p0, c_4, nc_4, c_9, c_11, tn_d_nle c_11, if_true, ↓reduceIte]; done) | (simp [sp_hide, c_2, ek_p0, c_4, nc_4, c_9, c_11, tn_d_nle c_11, if_true]; done) | (exfalso; clear hR C; simp_all; done))
      refine tv_lsub [3, 4, 2, 1, 0] rfl ?_
      exact hL29 (n - 0) 0 _ _ _ (by omega)  (by first | (simp only [sp_hide, c_2, ek_p0, c_4, nc_4, if_true, ↓reduceIte]; done) | rfl | (simp [sp_hide, c_2, ek_p0, c_4, nc_4, if_true]; done) | (exfalso; clear hR C; simp_all; done)) (by first | (simp only [sp_hide, c_2, ek_p0, c_4, nc_4, if_true, ↓reduceIte]; done) | rfl | (simp [sp_hide, c_2, ek_p0, c_4, nc_4, if_true]; done) | (exfalso; clear hR C; simp_all; done)) (by first | (simp only [sp_hide, c_2, ek_p0, c_4, nc_4, if_true, ↓reduceIte]; done) | rfl | (simp [sp_hide, c_2, ek_p0, c_4, nc_4, if_true]; done) | (exfalso; clear hR C; simp_all; done))
    · skip
      have nc_4 : n = 0 := (tn_eqI e9 (tn_l 0) (by omega) (by omega)).mp c_4
      refine tv_bipush (v := (-3)) C dX8_hide_19 (by decide) ?_
      exact hR _ _ _ _ dX8_hide_21 ⟨by first | (simp only [sp_hide, c_2, ek_p0, eq_true c_4, nc_4, if_true, ↓reduceIte]; done) | rfl | (simp [sp_hide, c_2, ek_p0, eq_true c_4, nc_4, if_true]; done) | (exfalso; clear hR C; simp_all; done), by first | (simp only [sp_hide, c_2, ek_p0, eq_true c_4, nc_4, if_true, ts_ss, ts_aa, ↓reduceIte]; done) | rfl | (simp [sp_hide, c_2, ek_p0, eq_true c_4, nc_4, if_true, ts_ss, ts_aa]; done) | (exfalso; clear hR C; simp_all; done)⟩
  · skip
    refine tv_bipush (v := (-2)) C dX8_hide_9 (by decide) ?_
    exact hR _ _ _ _ dX8_hide_11 ⟨by first | (simp only [sp_hide, eq_true c_2, if_true, ↓reduceIte]; done) | rfl | (simp [sp_hide, eq_true c_2, if_true]; done) | (exfalso; clear hR C; simp_all; done), by first | (simp only [sp_hide, eq_true c_2, if_true, ts_ss, ts_aa, ↓reduceIte]; done) | rfl | (simp [sp_hide, eq_true c_2, if_true, ts_ss, ts_aa]; done) | (exfalso; clear hR C; simp_all; done)⟩
set_option maxHeartbeats 4000000 in
set_option maxRecDepth 100000 in
theorem kX8_keepAll (c : tv_c) (s r : ts_T) (n : Nat) (hC : s 2 0 * s 3 0 = s 9 0) (e9 : s 9 0 = nI n) (hn : n ≤ 24) : tv_Fv c 19 yX8_keepAll wsX8_keepAll { frames := 1, cells := 0, slots := 0, locals := 20 } [.ref (tv_ad c 0)] (eM c s r) (eM c s (ts_a (ts_a (ts_a r 9 (ts_f (s 11) (r 9) n)) 10 (ts_f (s 12) (r 10) n)) 11 (ts_f (s 13) (r 11) n))) := by
  refine tv_metV (by decide +kernel) rfl rfl (Nat.le_of_ble_eq_true rfl) (fun X C hR => ?_)
  show tv_V c 19 X (eM c s r) 0 [(0, .ref (tv_ad c 0))] []
  refine tv_iconst (v := 0) C dX8_keepAll_0 (by decide) ?_
  refine tv_istore_n (lv' := [(1, .int 0), (0, .ref (tv_ad c 0))]) C dX8_keepAll_1 rfl (by decide) rfl ?_
  have hL2 : ∀ (k_2 i : Nat) (x_2_1 : Int32) (w_2 : Nat → va_E), i + k_2 = n → x_2_1 = (nI i) → w_2 = (eM c s (ts_a (ts_a (ts_a r 9 (ts_f (s 11) (r 9) i)) 10 (ts_f (s 12) (r 10) i)) 11 (ts_f (s 13) (r 11) i))) → tv_V c 19 X w_2 2 [(0, .ref (tv_ad c 0)), (1, .int x_2_1)] [] := by
    intro k_2
    induction k_2 with
    | zero =>
      intro i x_2_1 w_2 hi2  ex_2_1 ew_2
      subst ex_2_1
      subst ew_2
      have hN2 : i = n := by omega
      refine tv_iload_n C dX8_keepAll_2 rfl 1 rfl ?_
      refine tv_aload_n C dX8_keepAll_3 rfl 0 rfl ?_
      refine tv_calli (As := []) (rest := [.int (nI i)]) (ci := 8) (cn := RX8) (T := TX8) (Nf := 35) C 0 (kX8_all c s (ts_a (ts_a (ts_a r 9 (ts_f (s 11) (r 9) i)) 10 (ts_f (s 12) (r 10) i)) 11 (ts_f (s 13) (r 11) i))   hC) gX8_keepAll_X8_all rfl yd_X8_all ⟨rfl, rfl⟩ (by decide) (by decide) rfl rfl rfl rfl (Nat.le_of_ble_eq_true rfl) dX8_keepAll_4 (fun q_1 u_1 z_1 => ?_)
      obtain ⟨rfl, rfl⟩ := z_1
      show tv_V c 19 X (eM c s (ts_a (ts_a (ts_a r 9 (ts_f (s 11) (r 9) i)) 10 (ts_f (s 12) (r 10) i)) 11 (ts_f (s 13) (r 11) i))) 7 [(0, .ref (tv_ad c 0)), (1, .int (nI i))] [.int (s 9 0), .int (nI i)]
      refine tv_icmp_ge C 52 dX8_keepAll_7 (by decide) (fun c_2 => ?_) (fun c_2 => absurd (tn_le e9 (rfl : nI i = nI i) (by omega) (by omega)) c_2)
      exact hR _ _ _ dX8_keepAll_52 (by rw [hN2])
    | succ k_2 ih2 =>
      intro i x_2_1 w_2 hi2  ex_2_1 ew_2
      subst ex_2_1
      subst ew_2
      have hN2 : i < n := by omega
      refine tv_iload_n C dX8_keepAll_2 rfl 1 rfl ?_
      refine tv_aload_n C dX8_keepAll_3 rfl 0 rfl ?_
      refine tv_calli (As := []) (rest := [.int (nI i)]) (ci := 8) (cn := RX8) (T := TX8) (Nf := 35) C 0 (kX8_all c s (ts_a (ts_a (ts_a r 9 (ts_f (s 11) (r 9) i)) 10 (ts_f (s 12) (r 10) i)) 11 (ts_f (s 13) (r 11) i))   hC) gX8_keepAll_X8_all rfl yd_X8_all ⟨rfl, rfl⟩ (by decide) (by decide) rfl rfl rfl rfl (Nat.le_of_ble_eq_true rfl) dX8_keepAll_4 (fun q_3 u_3 z_3 => ?_)
      obtain ⟨rfl, rfl⟩ := z_3
      show tv_V c 19 X (eM c s (ts_a (ts_a (ts_a r 9 (ts_f (s 11) (r 9) i)) 10 (ts_f (s 12) (r 10) i)) 11 (ts_f (s 13) (r 11) i))) 7 [(0, .ref (tv_ad c 0)), (1, .int (nI i))] [.int (s 9 0), .int (nI i)]
      refine tv_icmp_ge C 52 dX8_keepAll_7 (by decide) (fun c_4 => absurd c_4 (tn_nle e9 (rfl : nI i = nI i) (by omega) (by omega))) (fun c_4 => ?_)
      refine tv_aload_n C dX8_keepAll_10 rfl 0 rfl ?_
      refine tv_get (ci := 8) (Cn := RX8) (T := TX8) (Nf := 35) (v := .ref (tv_ad c 16)) C 0 (by decide) rfl rfl in_X8_keepAll_X8 29 (by decide) lk_X8_keepAll_56 rfl dX8_keepAll_11 ?_
      refine tv_iload_n C dX8_keepAll_14 rfl 1 rfl ?_
      refine tv_aload_n C dX8_keepAll_15 rfl 0 rfl ?_
      refine tv_get (ci := 8) (Cn := RX8) (T := TX8) (Nf := 35) (v := .ref (tv_ad c 5)) C 0 (by decide) rfl rfl in_X8_keepAll_X8 11 (by decide) lk_X8_keepAll_22 rfl dX8_keepAll_16 ?_
      refine tv_iload_n C dX8_keepAll_19 rfl 1 rfl ?_
      refine tv_iald (f := (s 11)) (v := (s 11 i)) C 5 (by decide) rfl i (rfl : nI i = nI i) (show i < 24 by omega) (by decide) rfl dX8_keepAll_20 ?_
      refine tv_iast (E' := (eM c s (ts_a (ts_a (ts_a r 9 (upd (ts_f (s 11) (r 9) i) i (s 11 i))) 10 (ts_f (s 12) (r 10) i)) 11 (ts_f (s 13) (r 11) i)))) C 16 (by decide) rfl i (rfl : nI i = nI i) (show i < 24 by omega) (by decide) ((eM_u_keptCoat c s (ts_a (ts_a (ts_a r 9 (ts_f (s 11) (r 9) i)) 10 (ts_f (s 12) (r 10) i)) 11 (ts_f (s 13) (r 11) i)) (upd (ts_f (s 11) (r 9) i) i (s 11 i))).trans (congrArg (fun z => eM c s z) (by funext zz; rcases Classical.em (zz = 9) with hzz | h_9; (subst hzz; rfl); rcases Classical.em (zz = 10) with hzz | h_10; (subst hzz; rfl); rcases Classical.em (zz = 11) with hzz | h_11; (subst hzz; rfl); simp only [ts_s, ts_a, h_9, h_10, h_11, ↓reduceIte]))) dX8_keepAll_21 ?_
      refine tv_aload_n C dX8_keepAll_22 rfl 0 rfl ?_
      refine tv_get (ci := 8) (Cn := RX8) (T := TX8) (Nf := 35) (v := .ref (tv_ad c 17)) C 0 (by decide) rfl rfl in_X8_keepAll_X8 30 (by decide) lk_X8_keepAll_59 rfl dX8_keepAll_23 ?_
      refine tv_iload_n C dX8_keepAll_26 rfl 1 rfl ?_
      refine tv_aload_n C dX8_keepAll_27 rfl 0 rfl ?_
      refine tv_get (ci := 8) (Cn := RX8) (T := TX8) (Nf := 35) (v := .ref (tv_ad c 6)) C 0 (by decide) rfl rfl in_X8_keepAll_X8 12 (by decide) lk_X8_keepAll_25 rfl dX8_keepAll_28 ?_
      refine tv_iload_n C dX8_keepAll_31 rfl 1 rfl ?_
      refine tv_iald (f := (s 12)) (v := (s 12 i)) C 6 (by decide) rfl i (rfl : nI i = nI i) (show i < 24 by omega) (by decide) rfl dX8_keepAll_32 ?_
      refine tv_iast (E' := (eM c s (ts_a (ts_a (ts_a r 9 (upd (ts_f (s 11) (r 9) i) i (s 11 i))) 10 (upd (ts_f (s 12) (r 10) i) i (s 12 i))) 11 (ts_f (s 13) (r 11) i)))) C 17 (by decide) rfl i (rfl : nI i = nI i) (show i < 24 by omega) (by decide) ((eM_u_keptHad c s (ts_a (ts_a (ts_a r 9 (upd (ts_f (s 11) (r 9) i) i (s 11 i))) 10 (ts_f (s 12) (r 10) i)) 11 (ts_f (s 13) (r 11) i)) (upd (ts_f (s 12) (r 10) i) i (s 12 i))).trans (congrArg (fun z => eM c s z) (by funext zz; rcases Classical.em (zz = 9) with hzz | h_9; (subst hzz; rfl); rcases Classical.em (zz = 10) with hzz | h_10; (subst hzz; rfl); rcases Classical.em (zz = 11) with hzz | h_11; (subst hzz; rfl); simp only [ts_s, ts_a, h_9, h_10, h_11, ↓reduceIte]))) dX8_keepAll_33 ?_
      refine tv_aload_n C dX8_keepAll_34 rfl 0 rfl ?_
      refine tv_get (ci := 8) (Cn := RX8) (T := TX8) (Nf := 35) (v := .ref (tv_ad c 18)) C 0 (by decide) rfl rfl in_X8_keepAll_X8 31 (by decide) lk_X8_keepAll_62 rfl dX8_keepAll_35 ?_
      refine tv_iload_n C dX8_keepAll_38 rfl 1 rfl ?_
      refine tv_aload_n C dX8_keepAll_39 rfl 0 rfl ?_
      refine tv_get (ci := 8) (Cn := RX8) (T := TX8) (Nf := 35) (v := .ref (tv_ad c 7)) C 0 (by decide) rfl rfl in_X8_keepAll_X8 13 (by decide) lk_X8_keepAll_28 rfl dX8_keepAll_40 ?_
      refine tv_iload_n C dX8_keepAll_43 rfl 1 rfl ?_
      refine tv_iald (f := (s 13)) (v := (s 13 i)) C 7 (by decide) rfl i (rfl : nI i = nI i) (show i < 24 by omega) (by decide) rfl dX8_keepAll_44 ?_
      refine tv_iast (E' := (eM c s (ts_a (ts_a (ts_a r 9 (upd (ts_f (s 11) (r 9) i) i (s 11 i))) 10 (upd (ts_f (s 12) (r 10) i) i (s 12 i))) 11 (upd (ts_f (s 13) (r 11) i) i (s 13 i))))) C 18 (by decide) rfl i (rfl : nI i = nI i) (show i < 24 by omega) (by decide) ((eM_u_keptAir c s (ts_a (ts_a (ts_a r 9 (upd (ts_f (s 11) (r 9) i) i (s 11 i))) 10 (upd (ts_f (s 12) (r 10) i) i (s 12 i))) 11 (ts_f (s 13) (r 11) i)) (upd (ts_f (s 13) (r 11) i) i (s 13 i))).trans (by first | (rw [ts_mg]; done) | (rw [ts_mg]; rfl) | (rw [ts_ss]; done) | (rw [ts_ss]; rfl))) dX8_keepAll_45 ?_
      refine tv_iinc (v := ((nI i) + 1)) (lv' := [(1, .int ((nI i) + 1)), (0, .ref (tv_ad c 0))]) C dX8_keepAll_46 1 rfl rfl (by decide) rfl ?_
      refine tv_goto C 2 dX8_keepAll_49 (by decide) ?_
      refine tv_lsub [1, 0] rfl ?_
      exact ih2 (i + 1) _ _ (by omega)  (by first | rfl | exact nI_1 _ | (simp only [c_4, if_true, ↓reduceIte]; done) | (simp [c_4, if_true]; done) | (exfalso; clear hR C; simp_all; done)) (by rw [← ts_f_s, ← ts_f_s, ← ts_f_s])
  refine tv_lsub [1, 0] rfl ?_
  exact hL2 (n - 0) 0 _ _ (by omega)  (by first | (simp only [if_true, ↓reduceIte]; done) | rfl | (simp [if_true]; done) | (exfalso; clear hR C; simp_all; done)) (by rw [ts_f_0, ts_f_0, ts_f_0, ts_id, ts_id, ts_id])
set_option maxHeartbeats 4000000 in
set_option maxRecDepth 100000 in
theorem kX8_takeAll (c : tv_c) (s r : ts_T) (n : Nat) (hC : s 2 0 * s 3 0 = s 9 0) (e9 : s 9 0 = nI n) (hn : n ≤ 24) : tv_Fv c 19 yX8_takeAll wsX8_takeAll { frames := 1, cells := 0, slots := 0, locals := 20 } [.ref (tv_ad c 0)] (eM c s r) (eM c (ts_a (ts_a (ts_a s 11 (ts_f (r 9) (s 11) n)) 12 (ts_f (r 10) (s 12) n)) 13 (ts_f (r 11) (s 13) n)) r) := by
  refine tv_metV (by decide +kernel) rfl rfl (Nat.le_of_ble_eq_true rfl) (fun X C hR => ?_)
  show tv_V c 19 X (eM c s r) 0 [(0, .ref (tv_ad c 0))] []
  refine tv_iconst (v := 0) C dX8_takeAll_0 (by decide) ?_
  refine tv_istore_n (lv' := [(1, .int 0), (0, .ref (tv_ad c 0))]) C dX8_takeAll_1 rfl (by decide) rfl ?_
  have hL2 : ∀ (k_2 i : Nat) (x_2_1 : Int32) (w_2 : Nat → va_E), i + k_2 = n → x_2_1 = (nI i) → w_2 = (eM c (ts_a (ts_a (ts_a s 11 (ts_f (r 9) (s 11) i)) 12 (ts_f (r 10) (s 12) i)) 13 (ts_f (r 11) (s 13) i)) r) → tv_V c 19 X w_2 2 [(0, .ref (tv_ad c 0)), (1, .int x_2_1)] [] := by
    intro k_2
    induction k_2 with
    | zero =>
      intro i x_2_1 w_2 hi2  ex_2_1 ew_2
      subst ex_2_1
      subst ew_2
      have hN2 : i = n := by omega
      refine tv_iload_n C dX8_takeAll_2 rfl 1 rfl ?_
      refine tv_aload_n C dX8_takeAll_3 rfl 0 rfl ?_
      refine tv_calli (As := []) (rest := [.int (nI i)]) (ci := 8) (cn := RX8) (T := TX8) (Nf := 35) C 0 (kX8_all c (ts_a (ts_a (ts_a s 11 (ts_f (r 9) (s 11) i)) 12 (ts_f (r 10) (s 12) i)) 13 (ts_f (r 11) (s 13) i)) r   hC) gX8_takeAll_X8_all rfl yd_X8_all ⟨rfl, rfl⟩ (by decide) (by decide) rfl rfl rfl rfl (Nat.le_of_ble_eq_true rfl) dX8_takeAll_4 (fun q_1 u_1 z_1 => ?_)
      obtain ⟨rfl, rfl⟩ := z_1
      show tv_V c 19 X (eM c (ts_a (ts_a (ts_a s 11 (ts_f (r 9) (s 11) i)) 12 (ts_f (r 10) (s 12) i)) 13 (ts_f (r 11) (s 13) i)) r) 7 [(0, .ref (tv_ad c 0)), (1, .int (nI i))] [.int (s 9 0), .int (nI i)]
      refine tv_icmp_ge C 52 dX8_takeAll_7 (by decide) (fun c_2 => ?_) (fun c_2 => absurd (tn_le e9 (rfl : nI i = nI i) (by omega) (by omega)) c_2)
      exact hR _ _ _ dX8_takeAll_52 (by rw [hN2])
    | succ k_2 ih2 =>
      intro i x_2_1 w_2 hi2  ex_2_1 ew_2
      subst ex_2_1
      subst ew_2
      have hN2 : i < n := by omega
      refine tv_iload_n C dX8_takeAll_2 rfl 1 rfl ?_
      refine tv_aload_n C dX8_takeAll_3 rfl 0 rfl ?_
      refine tv_calli (As := []) (rest := [.int (nI i)]) (ci := 8) (cn := RX8) (T := TX8) (Nf := 35) C 0 (kX8_all c (ts_a (ts_a (ts_a s 11 (ts_f (r 9) (s 11) i)) 12 (ts_f (r 10) (s 12) i)) 13 (ts_f (r 11) (s 13) i)) r   hC) gX8_takeAll_X8_all rfl yd_X8_all ⟨rfl, rfl⟩ (by decide) (by decide) rfl rfl rfl rfl (Nat.le_of_ble_eq_true rfl) dX8_takeAll_4 (fun q_3 u_3 z_3 => ?_)
      obtain ⟨rfl, rfl⟩ := z_3
      show tv_V c 19 X (eM c (ts_a (ts_a (ts_a s 11 (ts_f (r 9) (s 11) i)) 12 (ts_f (r 10) (s 12) i)) 13 (ts_f (r 11) (s 13) i)) r) 7 [(0, .ref (tv_ad c 0)), (1, .int (nI i))] [.int (s 9 0), .int (nI i)]
      refine tv_icmp_ge C 52 dX8_takeAll_7 (by decide) (fun c_4 => absurd c_4 (tn_nle e9 (rfl : nI i = nI i) (by omega) (by omega))) (fun c_4 => ?_)
      refine tv_aload_n C dX8_takeAll_10 rfl 0 rfl ?_
      refine tv_get (ci := 8) (Cn := RX8) (T := TX8) (Nf := 35) (v := .ref (tv_ad c 5)) C 0 (by decide) rfl rfl in_X8_takeAll_X8 11 (by decide) lk_X8_takeAll_22 rfl dX8_takeAll_11 ?_
      refine tv_iload_n C dX8_takeAll_14 rfl 1 rfl ?_
      refine tv_aload_n C dX8_takeAll_15 rfl 0 rfl ?_
      refine tv_get (ci := 8) (Cn := RX8) (T := TX8) (Nf := 35) (v := .ref (tv_ad c 16)) C 0 (by decide) rfl rfl in_X8_takeAll_X8 29 (by decide) lk_X8_takeAll_56 rfl dX8_takeAll_16 ?_
      refine tv_iload_n C dX8_takeAll_19 rfl 1 rfl ?_
      refine tv_iald (f := (r 9)) (v := (r 9 i)) C 16 (by decide) rfl i (rfl : nI i = nI i) (show i < 24 by omega) (by decide) rfl dX8_takeAll_20 ?_
      refine tv_iast (E' := (eM c (ts_a (ts_a (ts_a s 11 (upd (ts_f (r 9) (s 11) i) i (r 9 i))) 12 (ts_f (r 10) (s 12) i)) 13 (ts_f (r 11) (s 13) i)) r)) C 5 (by decide) rfl i (rfl : nI i = nI i) (show i < 24 by omega) (by decide) ((eM_u_coatOf c (ts_a (ts_a (ts_a s 11 (ts_f (r 9) (s 11) i)) 12 (ts_f (r 10) (s 12) i)) 13 (ts_f (r 11) (s 13) i)) r (upd (ts_f (r 9) (s 11) i) i (r 9 i))).trans (congrArg (fun z => eM c z r) (by funext zz; rcases Classical.em (zz = 11) with hzz | h_11; (subst hzz; rfl); rcases Classical.em (zz = 12) with hzz | h_12; (subst hzz; rfl); rcases Classical.em (zz = 13) with hzz | h_13; (subst hzz; rfl); simp only [ts_s, ts_a, h_11, h_12, h_13, ↓reduceIte]))) dX8_takeAll_21 ?_
      refine tv_aload_n C dX8_takeAll_22 rfl 0 rfl ?_
      refine tv_get (ci := 8) (Cn := RX8) (T := TX8) (Nf := 35) (v := .ref (tv_ad c 6)) C 0 (by decide) rfl rfl in_X8_takeAll_X8 12 (by decide) lk_X8_takeAll_25 rfl dX8_takeAll_23 ?_
      refine tv_iload_n C dX8_takeAll_26 rfl 1 rfl ?_
      refine tv_aload_n C dX8_takeAll_27 rfl 0 rfl ?_
      refine tv_get (ci := 8) (Cn := RX8) (T := TX8) (Nf := 35) (v := .ref (tv_ad c 17)) C 0 (by decide) rfl rfl in_X8_takeAll_X8 30 (by decide) lk_X8_takeAll_59 rfl dX8_takeAll_28 ?_
      refine tv_iload_n C dX8_takeAll_31 rfl 1 rfl ?_
      refine tv_iald (f := (r 10)) (v := (r 10 i)) C 17 (by decide) rfl i (rfl : nI i = nI i) (show i < 24 by omega) (by decide) rfl dX8_takeAll_32 ?_
      refine tv_iast (E' := (eM c (ts_a (ts_a (ts_a s 11 (upd (ts_f (r 9) (s 11) i) i (r 9 i))) 12 (upd (ts_f (r 10) (s 12) i) i (r 10 i))) 13 (ts_f (r 11) (s 13) i)) r)) C 6 (by decide) rfl i (rfl : nI i = nI i) (show i < 24 by omega) (by decide) ((eM_u_had c (ts_a (ts_a (ts_a s 11 (upd (ts_f (r 9) (s 11) i) i (r 9 i))) 12 (ts_f (r 10) (s 12) i)) 13 (ts_f (r 11) (s 13) i)) r (upd (ts_f (r 10) (s 12) i) i (r 10 i))).trans (congrArg (fun z => eM c z r) (by funext zz; rcases Classical.em (zz = 11) with hzz | h_11; (subst hzz; rfl); rcases Classical.em (zz = 12) with hzz | h_12; (subst hzz; rfl); rcases Classical.em (zz = 13) with hzz | h_13; (subst hzz; rfl); simp only [ts_s, ts_a, h_11, h_12, h_13, ↓reduceIte]))) dX8_takeAll_33 ?_
      refine tv_aload_n C dX8_takeAll_34 rfl 0 rfl ?_
      refine tv_get (ci := 8) (Cn := RX8) (T := TX8) (Nf := 35) (v := .ref (tv_ad c 7)) C 0 (by decide) rfl rfl in_X8_takeAll_X8 13 (by decide) lk_X8_takeAll_28 rfl dX8_takeAll_35 ?_
      refine tv_iload_n C dX8_takeAll_38 rfl 1 rfl ?_
      refine tv_aload_n C dX8_takeAll_39 rfl 0 rfl ?_
      refine tv_get (ci := 8) (Cn := RX8) (T := TX8) (Nf := 35) (v := .ref (tv_ad c 18)) C 0 (by decide) rfl rfl in_X8_takeAll_X8 31 (by decide) lk_X8_takeAll_62 rfl dX8_takeAll_40 ?_
      refine tv_iload_n C dX8_takeAll_43 rfl 1 rfl ?_
      refine tv_iald (f := (r 11)) (v := (r 11 i)) C 18 (by decide) rfl i (rfl : nI i = nI i) (show i < 24 by omega) (by decide) rfl dX8_takeAll_44 ?_
      refine tv_iast (E' := (eM c (ts_a (ts_a (ts_a s 11 (upd (ts_f (r 9) (s 11) i) i (r 9 i))) 12 (upd (ts_f (r 10) (s 12) i) i (r 10 i))) 13 (upd (ts_f (r 11) (s 13) i) i (r 11 i))) r)) C 7 (by decide) rfl i (rfl : nI i = nI i) (show i < 24 by omega) (by decide) ((eM_u_air c (ts_a (ts_a (ts_a s 11 (upd (ts_f (r 9) (s 11) i) i (r 9 i))) 12 (upd (ts_f (r 10) (s 12) i) i (r 10 i))) 13 (ts_f (r 11) (s 13) i)) r (upd (ts_f (r 11) (s 13) i) i (r 11 i))).trans (by first | (rw [ts_mg]; done) | (rw [ts_mg]; rfl) | (rw [ts_ss]; done) | (rw [ts_ss]; rfl))) dX8_takeAll_45 ?_
      refine tv_iinc (v := ((nI i) + 1)) (lv' := [(1, .int ((nI i) + 1)), (0, .ref (tv_ad c 0))]) C dX8_takeAll_46 1 rfl rfl (by decide) rfl ?_
      refine tv_goto C 2 dX8_takeAll_49 (by decide) ?_
      refine tv_lsub [1, 0] rfl ?_
      exact ih2 (i + 1) _ _ (by omega)  (by first | rfl | exact nI_1 _ | (simp only [c_4, if_true, ↓reduceIte]; done) | (simp [c_4, if_true]; done) | (exfalso; clear hR C; simp_all; done)) (by rw [← ts_f_s, ← ts_f_s, ← ts_f_s])
  refine tv_lsub [1, 0] rfl ?_
  exact hL2 (n - 0) 0 _ _ (by omega)  (by first | (simp only [if_true, ↓reduceIte]; done) | rfl | (simp [if_true]; done) | (exfalso; clear hR C; simp_all; done)) (by rw [ts_f_0, ts_f_0, ts_f_0, ts_id, ts_id, ts_id])
set_option maxHeartbeats 4000000 in
set_option maxRecDepth 100000 in
theorem kX8_areDrops (c : tv_c) (s r : ts_T)   : tv_Fi c 19 yX8_areDrops wsX8_areDrops { frames := 1, cells := 0, slots := 0, locals := 22 } [.ref (tv_ad c 0)] (eM c s r) (sp_ad s (r 4)) (eM c s r) := by
  refine tv_metZ (by decide +kernel) rfl rfl (Nat.le_of_ble_eq_true rfl) (fun X C hR => ?_)
  show tv_V c 19 X (eM c s r) 0 [(0, .ref (tv_ad c 0))] []
  refine tv_iconst (v := 0) C dX8_areDrops_0 (by decide) ?_
  refine tv_istore_n (lv' := [(1, .int 0), (0, .ref (tv_ad c 0))]) C dX8_areDrops_1 rfl (by decide) rfl ?_
  refine tv_iconst (v := 0) C dX8_areDrops_2 (by decide) ?_
  refine tv_istore_n (lv' := [(2, .int 0), (1, .int 0), (0, .ref (tv_ad c 0))]) C dX8_areDrops_3 rfl (by decide) rfl ?_
  have hL4 : ∀ (k_4 i : Nat) (x_4_1 : Int32) (x_4_2 : Int32), i + k_4 = 4 → (sp_dok s (r 4) i = true) → x_4_1 = (sp_sd (r 4) i) → x_4_2 = (nI i) → tv_V c 19 X (eM c s r) 4 [(0, .ref (tv_ad c 0)), (1, .int x_4_1), (2, .int x_4_2)] [] := by
    intro k_4
    induction k_4 with
    | zero =>
      intro i x_4_1 x_4_2 hi4 q0 ex_4_1 ex_4_2
      subst ex_4_1
      subst ex_4_2
      have hN4 : i = 4 := by omega
      refine tv_iload_n C dX8_areDrops_4 rfl 2 rfl ?_
      refine tv_iconst (v := 4) C dX8_areDrops_5 (by decide) ?_
      refine tv_icmp_ge C 58 dX8_areDrops_6 (by decide) (fun c_1 => ?_) (fun c_1 => absurd (tn_le (tn_l 4) (rfl : nI i = nI i) (by omega) (by omega)) c_1)
      refine tv_iload_n C dX8_areDrops_58 rfl 1 rfl ?_
      refine tv_iconst (v := 1) C dX8_areDrops_59 (by decide) ?_
      refine tv_bipush (v := 12) C dX8_areDrops_60 (by decide) ?_
      refine tv_callis (As := [.int (sp_sd (r 4) i), .int 1, .int 12]) (rest := []) C (kX8_within c s r  (sp_sd (r 4) i) 1 12 ) gX8_areDrops_X8_within rfl yd_X8_within ⟨rfl, rfl⟩ (by decide) rfl rfl (Nat.le_of_ble_eq_true rfl) dX8_areDrops_62 (fun q_2 u_2 z_2 => ?_)
      obtain ⟨rfl, rfl⟩ := z_2
      exact hR _ _ _ _ dX8_areDrops_65 (by first | rfl | exact tn_nz (sp_in_z _ _ _) | exact tn_nz (sp_ix_z _ _)) ⟨by subst hN4; rw [sp_ad, q0]; rfl, by first | (simp only [q0, c_1, if_true, ts_ss, ts_aa, ↓reduceIte]; done) | rfl | (simp [q0, c_1, if_true, ts_ss, ts_aa]; done) | (exfalso; clear hR C; simp_all; done)⟩
    | succ k_4 ih4 =>
      intro i x_4_1 x_4_2 hi4 q0 ex_4_1 ex_4_2
      subst ex_4_1
      subst ex_4_2
      have hN4 : i < 4 := by omega
      refine tv_iload_n C dX8_areDrops_4 rfl 2 rfl ?_
      refine tv_iconst (v := 4) C dX8_areDrops_5 (by decide) ?_
      refine tv_icmp_ge C 58 dX8_areDrops_6 (by decide) (fun c_3 => absurd c_3 (tn_nle (tn_l 4) (rfl : nI i = nI i) (by omega) (by omega))) (fun c_3 => ?_)
      refine tv_aload_n C dX8_areDrops_9 rfl 0 rfl ?_
      refine tv_get (ci := 8) (Cn := RX8) (T := TX8) (Nf := 35) (v := .ref (tv_ad c 13)) C 0 (by decide) rfl rfl in_X8_areDrops_X8 24 (by decide) lk_X8_areDrops_47 rfl dX8_areDrops_10 ?_
      refine tv_iload_n C dX8_areDrops_13 rfl 2 rfl ?_
      refine tv_iald (f := (r 4)) (v := (r 4 i)) C 13 (by decide) rfl i (rfl : nI i = nI i) (show i < 4 by omega) (by decide) rfl dX8_areDrops_14 ?_
      refine tv_iconst (v := 0) C dX8_areDrops_15 (by decide) ?_
      refine tv_bipush (v := 9) C dX8_areDrops_16 (by decide) ?_
      refine tv_callis (As := [.int (r 4 i), .int 0, .int 9]) (rest := []) C (kX8_within c s r  (r 4 i) 0 9 ) gX8_areDrops_X8_within rfl yd_X8_within ⟨rfl, rfl⟩ (by decide) rfl rfl (Nat.le_of_ble_eq_true rfl) dX8_areDrops_18 (fun q_4 u_4 z_4 => ?_)
      obtain ⟨rfl, rfl⟩ := z_4
      refine tv_if_eq C 41 dX8_areDrops_21 (by decide) (fun c_5 => ?_) (fun c_5 => ?_)
      · skip
        refine tv_iconst (v := 0) C dX8_areDrops_41 (by decide) ?_
        exact hR _ _ _ _ dX8_areDrops_42 (by first | rfl | exact tn_nz (sp_in_z _ _ _) | exact tn_nz (sp_ix_z _ _)) ⟨by rw [sp_ad, sp_dok_f hN4 (by simp only [sp_dg, q0, c_3, eq_true c_5, ↓reduceIte])]; rfl, by first | (simp only [q0, c_3, eq_true c_5, if_true, ts_ss, ts_aa, ↓reduceIte]; done) | rfl | (simp [q0, c_3, eq_true c_5, if_true, ts_ss, ts_aa]; done) | (exfalso; clear hR C; simp_all; done)⟩
      · skip
        refine tv_aload_n C dX8_areDrops_24 rfl 0 rfl ?_
        refine tv_get (ci := 8) (Cn := RX8) (T := TX8) (Nf := 35) (v := .ref (tv_ad c 13)) C 0 (by decide) rfl rfl in_X8_areDrops_X8 24 (by decide) lk_X8_areDrops_47 rfl dX8_areDrops_25 ?_
        refine tv_iload_n C dX8_areDrops_28 rfl 2 rfl ?_
        refine tv_iald (f := (r 4)) (v := (r 4 i)) C 13 (by decide) rfl i (rfl : nI i = nI i) (show i < 4 by omega) (by decide) rfl dX8_areDrops_29 ?_
        refine tv_if_le C 43 dX8_areDrops_30 (by decide) (fun c_6 => ?_) (fun c_6 => ?_)
        · skip
          refine tv_iload_n C dX8_areDrops_43 rfl 1 rfl ?_
          refine tv_aload_n C dX8_areDrops_44 rfl 0 rfl ?_
          refine tv_get (ci := 8) (Cn := RX8) (T := TX8) (Nf := 35) (v := .ref (tv_ad c 13)) C 0 (by decide) rfl rfl in_X8_areDrops_X8 24 (by decide) lk_X8_areDrops_47 rfl dX8_areDrops_45 ?_
          refine tv_iload_n C dX8_areDrops_48 rfl 2 rfl ?_
          refine tv_iald (f := (r 4)) (v := (r 4 i)) C 13 (by decide) rfl i (rfl : nI i = nI i) (show i < 4 by omega) (by decide) rfl dX8_areDrops_49 ?_
          refine tv_iadd C dX8_areDrops_50 ?_
          refine tv_istore_n (lv' := [(1, .int ((sp_sd (r 4) i) + (r 4 i))), (0, .ref (tv_ad c 0)), (2, .int (nI i))]) C dX8_areDrops_51 rfl (by decide) rfl ?_
          refine tv_iinc (v := ((nI i) + 1)) (lv' := [(2, .int ((nI i) + 1)), (1, .int ((sp_sd (r 4) i) + (r 4 i))), (0, .ref (tv_ad c 0))]) C dX8_areDrops_52 2 rfl rfl (by decide) rfl ?_
          refine tv_goto C 4 dX8_areDrops_55 (by decide) ?_
          refine tv_lsub [2, 1, 0] rfl ?_
          exact ih4 (i + 1) _ _ (by omega) (by exact sp_dok_s q0 (by simp only [sp_dg, q0, c_3, c_5, c_6, tn_d_le c_6, ↓reduceIte])) (by rfl) (by first | rfl | exact nI_1 _ | (simp only [q0, c_3, c_5, c_6, tn_d_le c_6, if_true, ↓reduceIte]; done) | (simp [q0, c_3, c_5, c_6, tn_d_le c_6, if_true]; done) | (exfalso; clear hR C; simp_all; done))
        · skip
          refine tv_aload_n C dX8_areDrops_33 rfl 0 rfl ?_
          refine tv_iload_n C dX8_areDrops_34 rfl 2 rfl ?_
          refine tv_calli (As := [.int (nI i)]) (rest := []) (ci := 8) (cn := RX8) (T := TX8) (Nf := 35) C 0 (kX8_isCoat c s r  (nI i) ) gX8_areDrops_X8_isCoat rfl yd_X8_isCoat ⟨rfl, rfl⟩ (by decide) (by decide) rfl rfl rfl rfl (Nat.le_of_ble_eq_true rfl) dX8_areDrops_35 (fun q_7 u_7 z_7 => ?_)
          obtain ⟨rfl, rfl⟩ := z_7
          refine tv_if_ne C 43 dX8_areDrops_38 (by decide) (fun c_8 => ?_) (fun c_8 => ?_)
          · skip
            refine tv_iload_n C dX8_areDrops_43 rfl 1 rfl ?_
            refine tv_aload_n C dX8_areDrops_44 rfl 0 rfl ?_
            refine tv_get (ci := 8) (Cn := RX8) (T := TX8) (Nf := 35) (v := .ref (tv_ad c 13)) C 0 (by decide) rfl rfl in_X8_areDrops_X8 24 (by decide) lk_X8_areDrops_47 rfl dX8_areDrops_45 ?_
            refine tv_iload_n C dX8_areDrops_48 rfl 2 rfl ?_
            refine tv_iald (f := (r 4)) (v := (r 4 i)) C 13 (by decide) rfl i (rfl : nI i = nI i) (show i < 4 by omega) (by decide) rfl dX8_areDrops_49 ?_
            refine tv_iadd C dX8_areDrops_50 ?_
            refine tv_istore_n (lv' := [(1, .int ((sp_sd (r 4) i) + (r 4 i))), (0, .ref (tv_ad c 0)), (2, .int (nI i))]) C dX8_areDrops_51 rfl (by decide) rfl ?_
            refine tv_iinc (v := ((nI i) + 1)) (lv' := [(2, .int ((nI i) + 1)), (1, .int ((sp_sd (r 4) i) + (r 4 i))), (0, .ref (tv_ad c 0))]) C dX8_areDrops_52 2 rfl rfl (by decide) rfl ?_
            refine tv_goto C 4 dX8_areDrops_55 (by decide) ?_
            refine tv_lsub [2, 1, 0] rfl ?_
            exact ih4 (i + 1) _ _ (by omega) (by exact sp_dok_s q0 (by simp only [sp_dg, q0, c_3, c_5, c_6, tn_d_nle c_6, c_8, ↓reduceIte])) (by rfl) (by first | rfl | exact nI_1 _ | (simp only [q0, c_3, c_5, c_6, tn_d_nle c_6, c_8, if_true, ↓reduceIte]; done) | (simp [q0, c_3, c_5, c_6, tn_d_nle c_6, c_8, if_true]; done) | (exfalso; clear hR C; simp_all; done))
          · skip
            refine tv_iconst (v := 0) C dX8_areDrops_41 (by decide) ?_
            exact hR _ _ _ _ dX8_areDrops_42 (by first | rfl | exact tn_nz (sp_in_z _ _ _) | exact tn_nz (sp_ix_z _ _)) ⟨by rw [sp_ad, sp_dok_f hN4 (by simp only [sp_dg, q0, c_3, c_5, c_6, tn_d_nle c_6, eq_true c_8, ↓reduceIte])]; rfl, by first | (simp only [q0, c_3, c_5, c_6, tn_d_nle c_6, eq_true c_8, if_true, ts_ss, ts_aa, ↓reduceIte]; done) | rfl | (simp [q0, c_3, c_5, c_6, tn_d_nle c_6, eq_true c_8, if_true, ts_ss, ts_aa]; done) | (exfalso; clear hR C; simp_all; done)⟩
  refine tv_lsub [2, 1, 0] rfl ?_
  exact hL4 (4 - 0) 0 _ _ (by omega) (by rfl) (by first | (simp only [if_true, ↓reduceIte]; done) | rfl | (simp [if_true]; done) | (exfalso; clear hR C; simp_all; done)) (by first | (simp only [if_true, ↓reduceIte]; done) | rfl | (simp [if_true]; done) | (exfalso; clear hR C; simp_all; done))
set_option maxHeartbeats 4000000 in
set_option maxRecDepth 100000 in
theorem kX8_layMix (c : tv_c) (s r : ts_T)  (hd0 : ¬ sp_sd (r 4) 4 = 0) : tv_Fv c 19 yX8_layMix wsX8_layMix { frames := 0, cells := 0, slots := 0, locals := 0 } [.ref (tv_ad c 0)] (eM c s r) (eM c s (ts_a (ts_s r 5 (sp_mk s (r 4) 4)) 6 (upd (upd (upd (r 6) 0 (sp_mb s (r 4) 0)) 1 (sp_mb s (r 4) 1)) 2 (sp_mb s (r 4) 2)))) := by
  refine tv_metV (by decide +kernel) rfl rfl (Nat.le_of_ble_eq_true rfl) (fun X C hR => ?_)
  show tv_V c 19 X (eM c s r) 0 [(0, .ref (tv_ad c 0))] []
  refine tv_iconst (v := 0) C dX8_layMix_0 (by decide) ?_
  refine tv_istore_n (lv' := [(1, .int 0), (0, .ref (tv_ad c 0))]) C dX8_layMix_1 rfl (by decide) rfl ?_
  refine tv_aload_n C dX8_layMix_2 rfl 1 rfl ?_
  refine tv_bipush (v := (-9)) C dX8_layMix_3 (by decide) ?_
  refine tv_put (ci := 8) (Cn := RX8) (T := TX8) (Nf := 35) (ty := .int) (E' := (eM c s (ts_s r 5 (-9)))) C 0 (by decide) rfl rfl in_X8_layMix_X8 tyX8 tyX8_ok nmX8 25 (by decide) lk_X8_layMix_168 rfl (by decide +kernel) rfl rfl (Nat.le_of_ble_eq_true rfl) (eM_u_mixKind c s r (-9)) dX8_layMix_5 ?_
  refine tv_iconst (v := 0) C dX8_layMix_8 (by decide) ?_
  refine tv_istore_n (lv' := [(2, .int 0), (1, .int 0), (0, .ref (tv_ad c 0))]) C dX8_layMix_9 rfl (by decide) rfl ?_
  have hL10 : ∀ (k_10 i : Nat) (x_10_1 : Int32) (x_10_2 : Int32) (w_10 : Nat → va_E), i + k_10 = 4 → x_10_1 = (sp_sd (r 4) i) → x_10_2 = (nI i) → w_10 = (eM c s (ts_s r 5 (sp_mk s (r 4) i))) → tv_V c 19 X w_10 10 [(0, .ref (tv_ad c 0)), (1, .int x_10_1), (2, .int x_10_2)] [] := by
    intro k_10
    induction k_10 with
    | zero =>
      intro i x_10_1 x_10_2 w_10 hi10  ex_10_1 ex_10_2 ew_10
      subst ex_10_1
      subst ex_10_2
      subst ew_10
      have hN10 : i = 4 := by omega
      subst hN10
      refine tv_iload_n C dX8_layMix_10 rfl 2 rfl ?_
      refine tv_iconst (v := 4) C dX8_layMix_11 (by decide) ?_
      refine tv_icmp_ge C 65 dX8_layMix_12 (by decide) (fun c_1 => ?_) (fun c_1 => absurd (tn_le (tn_l 4) (rfl : nI 4 = nI 4) (by omega) (by omega)) c_1)
      refine tv_iconst (v := 0) C dX8_layMix_65 (by decide) ?_
      refine tv_istore_n (lv' := [(2, .int 0), (0, .ref (tv_ad c 0)), (1, .int (sp_sd (r 4) 4))]) C dX8_layMix_66 rfl (by decide) rfl ?_
      refine tv_iload_n C dX8_layMix_67 rfl 0 rfl ?_
      refine tv_iconst (v := 3) C dX8_layMix_68 (by decide) ?_
      refine tv_icmp_ge C 126 dX8_layMix_69 (by decide) (fun c_2 => absurd c_2 (by decide)) (fun c_2 => ?_)
      refine tv_iconst (v := 0) C dX8_layMix_72 (by decide) ?_
      refine tv_istore_n (lv' := [(3, .int 0), (2, .int 0), (0, .ref (tv_ad c 0)), (1, .int (sp_sd (r 4) 4))]) C dX8_layMix_73 rfl (by decide) rfl ?_
      refine tv_iconst (v := 0) C dX8_layMix_74 (by decide) ?_
      refine tv_istore (lv' := [(4, .int 0), (3, .int 0), (2, .int 0), (0, .ref (tv_ad c 0)), (1, .int (sp_sd (r 4) 4))]) C dX8_layMix_75 (by decide) rfl ?_
      refine tv_iload C dX8_layMix_77 0 rfl ?_
      refine tv_iconst (v := 4) C dX8_layMix_79 (by decide) ?_
      refine tv_icmp_ge C 111 dX8_layMix_80 (by decide) (fun c_3 => absurd c_3 (by decide)) (fun c_3 => ?_)
      refine tv_iload_n C dX8_layMix_83 rfl 1 rfl ?_
      refine tv_aload_n C dX8_layMix_84 rfl 3 rfl ?_
      refine tv_get (ci := 8) (Cn := RX8) (T := TX8) (Nf := 35) (v := .ref (tv_ad c 13)) C 0 (by decide) rfl rfl in_X8_layMix_X8 24 (by decide) lk_X8_layMix_47 rfl dX8_layMix_85 ?_
      refine tv_iload C dX8_layMix_88 0 rfl ?_
      refine tv_iald (f := (r 4)) (v := (r 4 0)) C 13 (by decide) rfl 0 (tn_l 0) (show 0 < 4 by omega) (by decide) rfl dX8_layMix_90 ?_
      refine tv_aload_n C dX8_layMix_91 rfl 3 rfl ?_
      refine tv_get (ci := 8) (Cn := RX8) (T := TX8) (Nf := 35) (v := .ref (tv_ad c 11)) C 0 (by decide) rfl rfl in_X8_layMix_X8 21 (by decide) lk_X8_layMix_41 rfl dX8_layMix_92 ?_
      refine tv_iconst (v := 3) C dX8_layMix_95 (by decide) ?_
      refine tv_iload C dX8_layMix_96 0 rfl ?_
      refine tv_imul C dX8_layMix_98 ?_
      refine tv_iload_n C dX8_layMix_99 rfl 2 rfl ?_
      refine tv_iadd C dX8_layMix_100 ?_
      refine tv_iald (f := (s 16)) (v := (s 16 ((3 * 0) + 0))) C 11 (by decide) rfl ((3 * 0) + 0) (tn_add (tn_mul (tn_l 3) (tn_l 0)) (tn_l 0)) (show ((3 * 0) + 0) < 18 by omega) (by decide) rfl dX8_layMix_101 ?_
      refine tv_imul C dX8_layMix_102 ?_
      refine tv_iadd C dX8_layMix_103 ?_
      refine tv_istore_n (lv' := [(3, .int (0 + ((r 4 0) * (s 16 ((3 * 0) + 0))))), (4, .int 0), (2, .int 0), (0, .ref (tv_ad c 0)), (1, .int (sp_sd (r 4) 4))]) C dX8_layMix_104 rfl (by decide) rfl ?_
      refine tv_iinc (v := 1) (lv' := [(4, .int 1), (3, .int (0 + ((r 4 0) * (s 16 ((3 * 0) + 0))))), (2, .int 0), (0, .ref (tv_ad c 0)), (1, .int (sp_sd (r 4) 4))]) C dX8_layMix_105 1 rfl (by decide) (by decide) rfl ?_
      refine tv_goto C 77 dX8_layMix_108 (by decide) ?_
      refine tv_iload C dX8_layMix_77 0 rfl ?_
      refine tv_iconst (v := 4) C dX8_layMix_79 (by decide) ?_
      refine tv_icmp_ge C 111 dX8_layMix_80 (by decide) (fun c_4 => absurd c_4 (by decide)) (fun c_4 => ?_)
      refine tv_iload_n C dX8_layMix_83 rfl 1 rfl ?_
      refine tv_aload_n C dX8_layMix_84 rfl 3 rfl ?_
      refine tv_get (ci := 8) (Cn := RX8) (T := TX8) (Nf := 35) (v := .ref (tv_ad c 13)) C 0 (by decide) rfl rfl in_X8_layMix_X8 24 (by decide) lk_X8_layMix_47 rfl dX8_layMix_85 ?_
      refine tv_iload C dX8_layMix_88 0 rfl ?_
      refine tv_iald (f := (r 4)) (v := (r 4 1)) C 13 (by decide) rfl 1 (tn_l 1) (show 1 < 4 by omega) (by decide) rfl dX8_layMix_90 ?_
      refine tv_aload_n C dX8_layMix_91 rfl 3 rfl ?_
      refine tv_get (ci := 8) (Cn := RX8) (T := TX8) (Nf := 35) (v := .ref (tv_ad c 11)) C 0 (by decide) rfl rfl in_X8_layMix_X8 21 (by decide) lk_X8_layMix_41 rfl dX8_layMix_92 ?_
      refine tv_iconst (v := 3) C dX8_layMix_95 (by decide) ?_
      refine tv_iload C dX8_layMix_96 0 rfl ?_
      refine tv_imul C dX8_layMix_98 ?_
      refine tv_iload_n C dX8_layMix_99 rfl 2 rfl ?_
      refine tv_iadd C dX8_layMix_100 ?_
      refine tv_iald (f := (s 16)) (v := (s 16 ((3 * 1) + 0))) C 11 (by decide) rfl ((3 * 1) + 0) (tn_add (tn_mul (tn_l 3) (tn_l 1)) (tn_l 0)) (show ((3 * 1) + 0) < 18 by omega) (by decide) rfl dX8_layMix_101 ?_
      refine tv_imul C dX8_layMix_102 ?_
      refine tv_iadd C dX8_layMix_103 ?_
      refine tv_istore_n (lv' := [(3, .int ((0 + ((r 4 0) * (s 16 ((3 * 0) + 0)))) + ((r 4 1) * (s 16 ((3 * 1) + 0))))), (4, .int 1), (2, .int 0), (0, .ref (tv_ad c 0)), (1, .int (sp_sd (r 4) 4))]) C dX8_layMix_104 rfl (by decide) rfl ?_
      refine tv_iinc (v := 2) (lv' := [(4, .int 2), (3, .int ((0 + ((r 4 0) * (s 16 ((3 * 0) + 0)))) + ((r 4 1) * (s 16 ((3 * 1) + 0))))), (2, .int 0), (0, .ref (tv_ad c 0)), (1, .int (sp_sd (r 4) 4))]) C dX8_layMix_105 1 rfl (by decide) (by decide) rfl ?_
      refine tv_goto C 77 dX8_layMix_108 (by decide) ?_
      refine tv_iload C dX8_layMix_77 0 rfl ?_
      refine tv_iconst (v := 4) C dX8_layMix_79 (by decide) ?_
      refine tv_icmp_ge C 111 dX8_layMix_80 (by decide) (fun c_5 => absurd c_5 (by decide)) (fun c_5 => ?_)
      refine tv_iload_n C dX8_layMix_83 rfl 1 rfl ?_
      refine tv_aload_n C dX8_layMix_84 rfl 3 rfl ?_
      refine tv_get (ci := 8) (Cn := RX8) (T := TX8) (Nf := 35) (v := .ref (tv_ad c 13)) C 0 (by decide) rfl rfl in_X8_layMix_X8 24 (by decide) lk_X8_layMix_47 rfl dX8_layMix_85 ?_
      refine tv_iload C dX8_layMix_88 0 rfl ?_
      refine tv_iald (f := (r 4)) (v := (r 4 2)) C 13 (by decide) rfl 2 (tn_l 2) (show 2 < 4 by omega) (by decide) rfl dX8_layMix_90 ?_
      refine tv_aload_n C dX8_layMix_91 rfl 3 rfl ?_
      refine tv_get (ci := 8) (Cn := RX8) (T := TX8) (Nf := 35) (v := .ref (tv_ad c 11)) C 0 (by decide) rfl rfl in_X8_layMix_X8 21 (by decide) lk_X8_layMix_41 rfl dX8_layMix_92 ?_
      refine tv_iconst (v := 3) C dX8_layMix_95 (by decide) ?_
      refine tv_iload C dX8_layMix_96 0 rfl ?_
      refine tv_imul C dX8_layMix_98 ?_
      refine tv_iload_n C dX8_layMix_99 rfl 2 rfl ?_
      refine tv_iadd C dX8_layMix_100 ?_
      refine tv_iald (f := (s 16)) (v := (s 16 ((3 * 2) + 0))) C 11 (by decide) rfl ((3 * 2) + 0) (tn_add (tn_mul (tn_l 3) (tn_l 2)) (tn_l 0)) (show ((3 * 2) + 0) < 18 by omega) (by decide) rfl dX8_layMix_101 ?_
      refine tv_imul C dX8_layMix_102 ?_
      refine tv_iadd C dX8_layMix_103 ?_
      refine tv_istore_n (lv' := [(3, .int (((0 + ((r 4 0) * (s 16 ((3 * 0) + 0)))) + ((r 4 1) * (s 16 ((3 * 1) + 0)))) + ((r 4 2) * (s 16 ((3 * 2) + 0))))), (4, .int 2), (2, .int 0), (0, .ref (tv_ad c 0)), (1, .int (sp_sd (r 4) 4))]) C dX8_layMix_104 rfl (by decide) rfl ?_
      refine tv_iinc (v := 3) (lv' := [(4, .int 3), (3, .int (((0 + ((r 4 0) * (s 16 ((3 * 0) + 0)))) + ((r 4 1) * (s 16 ((3 * 1) + 0)))) + ((r 4 2) * (s 16 ((3 * 2) + 0))))), (2, .int 0), (0, .ref (tv_ad c 0)), (1, .int (sp_sd (r 4) 4))]) C dX8_layMix_105 1 rfl (by decide) (by decide) rfl ?_
      refine tv_goto C 77 dX8_layMix_108 (by decide) ?_
      refine tv_iload C dX8_layMix_77 0 rfl ?_
      refine tv_iconst (v := 4) C dX8_layMix_79 (by decide) ?_
      refine tv_icmp_ge C 111 dX8_layMix_80 (by decide) (fun c_6 => absurd c_6 (by decide)) (fun c_6 => ?_)
      refine tv_iload_n C dX8_layMix_83 rfl 1 rfl ?_
      refine tv_aload_n C dX8_layMix_84 rfl 3 rfl ?_
      refine tv_get (ci := 8) (Cn := RX8) (T := TX8) (Nf := 35) (v := .ref (tv_ad c 13)) C 0 (by decide) rfl rfl in_X8_layMix_X8 24 (by decide) lk_X8_layMix_47 rfl dX8_layMix_85 ?_
      refine tv_iload C dX8_layMix_88 0 rfl ?_
      refine tv_iald (f := (r 4)) (v := (r 4 3)) C 13 (by decide) rfl 3 (tn_l 3) (show 3 < 4 by omega) (by decide) rfl dX8_layMix_90 ?_
      refine tv_aload_n C dX8_layMix_91 rfl 3 rfl ?_
      refine tv_get (ci := 8) (Cn := RX8) (T := TX8) (Nf := 35) (v := .ref (tv_ad c 11)) C 0 (by decide) rfl rfl in_X8_layMix_X8 21 (by decide) lk_X8_layMix_41 rfl dX8_layMix_92 ?_
      refine tv_iconst (v := 3) C dX8_layMix_95 (by decide) ?_
      refine tv_iload C dX8_layMix_96 0 rfl ?_
      refine tv_imul C dX8_layMix_98 ?_
      refine tv_iload_n C dX8_layMix_99 rfl 2 rfl ?_
      refine tv_iadd C dX8_layMix_100 ?_
      refine tv_iald (f := (s 16)) (v := (s 16 ((3 * 3) + 0))) C 11 (by decide) rfl ((3 * 3) + 0) (tn_add (tn_mul (tn_l 3) (tn_l 3)) (tn_l 0)) (show ((3 * 3) + 0) < 18 by omega) (by decide) rfl dX8_layMix_101 ?_
      refine tv_imul C dX8_layMix_102 ?_
      refine tv_iadd C dX8_layMix_103 ?_
      refine tv_istore_n (lv' := [(3, .int ((((0 + ((r 4 0) * (s 16 ((3 * 0) + 0)))) + ((r 4 1) * (s 16 ((3 * 1) + 0)))) + ((r 4 2) * (s 16 ((3 * 2) + 0)))) + ((r 4 3) * (s 16 ((3 * 3) + 0))))), (4, .int 3), (2, .int 0), (0, .ref (tv_ad c 0)), (1, .int (sp_sd (r 4) 4))]) C dX8_layMix_104 rfl (by decide) rfl ?_
      refine tv_iinc (v := 4) (lv' := [(4, .int 4), (3, .int ((((0 + ((r 4 0) * (s 16 ((3 * 0) + 0)))) + ((r 4 1) * (s 16 ((3 * 1) + 0)))) + ((r 4 2) * (s 16 ((3 * 2) + 0)))) + ((r 4 3) * (s 16 ((3 * 3) + 0))))), (2, .int 0), (0, .ref (tv_ad c 0)), (1, .int (sp_sd (r 4) 4))]) C dX8_layMix_105 1 rfl (by decide) (by decide) rfl ?_
      refine tv_goto C 77 dX8_layMix_108 (by decide) ?_
      refine tv_iload C dX8_layMix_77 0 rfl ?_
      refine tv_iconst (v := 4) C dX8_layMix_79 (by decide) ?_
      refine tv_icmp_ge C 111 dX8_layMix_80 (by decide) (fun c_7 => ?_) (fun c_7 => absurd (by decide) c_7)
      refine tv_aload_n C dX8_layMix_111 rfl 3 rfl ?_
      refine tv_get (ci := 8) (Cn := RX8) (T := TX8) (Nf := 35) (v := .ref (tv_ad c 14)) C 0 (by decide) rfl rfl in_X8_layMix_X8 26 (by decide) lk_X8_layMix_50 rfl dX8_layMix_112 ?_
      refine tv_iload_n C dX8_layMix_115 rfl 2 rfl ?_
      refine tv_iload_n C dX8_layMix_116 rfl 1 rfl ?_
      refine tv_iload_n C dX8_layMix_117 rfl 4 rfl ?_
      refine tv_idiv C hd0 dX8_layMix_118 ?_
      refine tv_iast (E' := (eM c s (ts_a (ts_s r 5 (sp_mk s (r 4) 4)) 6 (upd (r 6) 0 (((((0 + ((r 4 0) * (s 16 ((3 * 0) + 0)))) + ((r 4 1) * (s 16 ((3 * 1) + 0)))) + ((r 4 2) * (s 16 ((3 * 2) + 0)))) + ((r 4 3) * (s 16 ((3 * 3) + 0)))) / (sp_sd (r 4) 4)))))) C 14 (by decide) rfl 0 (tn_l 0) (show 0 < 3 by omega) (by decide) (eM_u_mixBands c s (ts_s r 5 (sp_mk s (r 4) 4)) (upd (r 6) 0 (((((0 + ((r 4 0) * (s 16 ((3 * 0) + 0)))) + ((r 4 1) * (s 16 ((3 * 1) + 0)))) + ((r 4 2) * (s 16 ((3 * 2) + 0)))) + ((r 4 3) * (s 16 ((3 * 3) + 0)))) / (sp_sd (r 4) 4)))) dX8_layMix_119 ?_
      refine tv_iinc (v := 1) (lv' := [(2, .int 1), (4, .int 4), (3, .int ((((0 + ((r 4 0) * (s 16 ((3 * 0) + 0)))) + ((r 4 1) * (s 16 ((3 * 1) + 0)))) + ((r 4 2) * (s 16 ((3 * 2) + 0)))) + ((r 4 3) * (s 16 ((3 * 3) + 0))))), (0, .ref (tv_ad c 0)), (1, .int (sp_sd (r 4) 4))]) C dX8_layMix_120 2 rfl (by decide) (by decide) rfl ?_
      refine tv_goto C 67 dX8_layMix_123 (by decide) ?_
      refine tv_iload_n C dX8_layMix_67 rfl 0 rfl ?_
      refine tv_iconst (v := 3) C dX8_layMix_68 (by decide) ?_
      refine tv_icmp_ge C 126 dX8_layMix_69 (by decide) (fun c_8 => absurd c_8 (by decide)) (fun c_8 => ?_)
      refine tv_iconst (v := 0) C dX8_layMix_72 (by decide) ?_
      refine tv_istore_n (lv' := [(3, .int 0), (2, .int 1), (4, .int 4), (0, .ref (tv_ad c 0)), (1, .int (sp_sd (r 4) 4))]) C dX8_layMix_73 rfl (by decide) rfl ?_
      refine tv_iconst (v := 0) C dX8_layMix_74 (by decide) ?_
      refine tv_istore (lv' := [(4, .int 0), (3, .int 0), (2, .int 1), (0, .ref (tv_ad c 0)), (1, .int (sp_sd (r 4) 4))]) C dX8_layMix_75 (by decide) rfl ?_
      refine tv_iload C dX8_layMix_77 0 rfl ?_
      refine tv_iconst (v := 4) C dX8_layMix_79 (by decide) ?_
      refine tv_icmp_ge C 111 dX8_layMix_80 (by decide) (fun c_9 => absurd c_9 (by decide)) (fun c_9 => ?_)
      refine tv_iload_n C dX8_layMix_83 rfl 1 rfl ?_
      refine tv_aload_n C dX8_layMix_84 rfl 3 rfl ?_
      refine tv_get (ci := 8) (Cn := RX8) (T := TX8) (Nf := 35) (v := .ref (tv_ad c 13)) C 0 (by decide) rfl rfl in_X8_layMix_X8 24 (by decide) lk_X8_layMix_47 rfl dX8_layMix_85 ?_
      refine tv_iload C dX8_layMix_88 0 rfl ?_
      refine tv_iald (f := (r 4)) (v := (r 4 0)) C 13 (by decide) rfl 0 (tn_l 0) (show 0 < 4 by omega) (by decide) rfl dX8_layMix_90 ?_
      refine tv_aload_n C dX8_layMix_91 rfl 3 rfl ?_
      refine tv_get (ci := 8) (Cn := RX8) (T := TX8) (Nf := 35) (v := .ref (tv_ad c 11)) C 0 (by decide) rfl rfl in_X8_layMix_X8 21 (by decide) lk_X8_layMix_41 rfl dX8_layMix_92 ?_
      refine tv_iconst (v := 3) C dX8_layMix_95 (by decide) ?_
      refine tv_iload C dX8_layMix_96 0 rfl ?_
      refine tv_imul C dX8_layMix_98 ?_
      refine tv_iload_n C dX8_layMix_99 rfl 2 rfl ?_
      refine tv_iadd C dX8_layMix_100 ?_
      refine tv_iald (f := (s 16)) (v := (s 16 ((3 * 0) + 1))) C 11 (by decide) rfl ((3 * 0) + 1) (tn_add (tn_mul (tn_l 3) (tn_l 0)) (tn_l 1)) (show ((3 * 0) + 1) < 18 by omega) (by decide) rfl dX8_layMix_101 ?_
      refine tv_imul C dX8_layMix_102 ?_
      refine tv_iadd C dX8_layMix_103 ?_
      refine tv_istore_n (lv' := [(3, .int (0 + ((r 4 0) * (s 16 ((3 * 0) + 1))))), (4, .int 0), (2, .int 1), (0, .ref (tv_ad c 0)), (1, .int (sp_sd (r 4) 4))]) C dX8_layMix_104 rfl (by decide) rfl ?_
      refine tv_iinc (v := 1) (lv' := [(4, .int 1), (3, .int (0 + ((r 4 0) * (s 16 ((3 * 0) + 1))))), (2, .int 1), (0, .ref (tv_ad c 0)), (1, .int (sp_sd (r 4) 4))]) C dX8_layMix_105 1 rfl (by decide) (by decide) rfl ?_
      refine tv_goto C 77 dX8_layMix_108 (by decide) ?_
      refine tv_iload C dX8_layMix_77 0 rfl ?_
      refine tv_iconst (v := 4) C dX8_layMix_79 (by decide) ?_
      refine tv_icmp_ge C 111 dX8_layMix_80 (by decide) (fun c_10 => absurd c_10 (by decide)) (fun c_10 => ?_)
      refine tv_iload_n C dX8_layMix_83 rfl 1 rfl ?_
      refine tv_aload_n C dX8_layMix_84 rfl 3 rfl ?_
      refine tv_get (ci := 8) (Cn := RX8) (T := TX8) (Nf := 35) (v := .ref (tv_ad c 13)) C 0 (by decide) rfl rfl in_X8_layMix_X8 24 (by decide) lk_X8_layMix_47 rfl dX8_layMix_85 ?_
      refine tv_iload C dX8_layMix_88 0 rfl ?_
      refine tv_iald (f := (r 4)) (v := (r 4 1)) C 13 (by decide) rfl 1 (tn_l 1) (show 1 < 4 by omega) (by decide) rfl dX8_layMix_90 ?_
      refine tv_aload_n C dX8_layMix_91 rfl 3 rfl ?_
      refine tv_get (ci := 8) (Cn := RX8) (T := TX8) (Nf := 35) (v := .ref (tv_ad c 11)) C 0 (by decide) rfl rfl in_X8_layMix_X8 21 (by decide) lk_X8_layMix_41 rfl dX8_layMix_92 ?_
      refine tv_iconst (v := 3) C dX8_layMix_95 (by decide) ?_
      refine tv_iload C dX8_layMix_96 0 rfl ?_
      refine tv_imul C dX8_layMix_98 ?_
      refine tv_iload_n C dX8_layMix_99 rfl 2 rfl ?_
      refine tv_iadd C dX8_layMix_100 ?_
      refine tv_iald (f := (s 16)) (v := (s 16 ((3 * 1) + 1))) C 11 (by decide) rfl ((3 * 1) + 1) (tn_add (tn_mul (tn_l 3) (tn_l 1)) (tn_l 1)) (show ((3 * 1) + 1) < 18 by omega) (by decide) rfl dX8_layMix_101 ?_
      refine tv_imul C dX8_layMix_102 ?_
      refine tv_iadd C dX8_layMix_103 ?_
      refine tv_istore_n (lv' := [(3, .int ((0 + ((r 4 0) * (s 16 ((3 * 0) + 1)))) + ((r 4 1) * (s 16 ((3 * 1) + 1))))), (4, .int 1), (2, .int 1), (0, .ref (tv_ad c 0)), (1, .int (sp_sd (r 4) 4))]) C dX8_layMix_104 rfl (by decide) rfl ?_
      refine tv_iinc (v := 2) (lv' := [(4, .int 2), (3, .int ((0 + ((r 4 0) * (s 16 ((3 * 0) + 1)))) + ((r 4 1) * (s 16 ((3 * 1) + 1))))), (2, .int 1), (0, .ref (tv_ad c 0)), (1, .int (sp_sd (r 4) 4))]) C dX8_layMix_105 1 rfl (by decide) (by decide) rfl ?_
      refine tv_goto C 77 dX8_layMix_108 (by decide) ?_
      refine tv_iload C dX8_layMix_77 0 rfl ?_
      refine tv_iconst (v := 4) C dX8_layMix_79 (by decide) ?_
      refine tv_icmp_ge C 111 dX8_layMix_80 (by decide) (fun c_11 => absurd c_11 (by decide)) (fun c_11 => ?_)
      refine tv_iload_n C dX8_layMix_83 rfl 1 rfl ?_
      refine tv_aload_n C dX8_layMix_84 rfl 3 rfl ?_
      refine tv_get (ci := 8) (Cn := RX8) (T := TX8) (Nf := 35) (v := .ref (tv_ad c 13)) C 0 (by decide) rfl rfl in_X8_layMix_X8 24 (by decide) lk_X8_layMix_47 rfl dX8_layMix_85 ?_
      refine tv_iload C dX8_layMix_88 0 rfl ?_
      refine tv_iald (f := (r 4)) (v := (r 4 2)) C 13 (by decide) rfl 2 (tn_l 2) (show 2 < 4 by omega) (by decide) rfl dX8_layMix_90 ?_
      refine tv_aload_n C dX8_layMix_91 rfl 3 rfl ?_
      refine tv_get (ci := 8) (Cn := RX8) (T := TX8) (Nf := 35) (v := .ref (tv_ad c 11)) C 0 (by decide) rfl rfl in_X8_layMix_X8 21 (by decide) lk_X8_layMix_41 rfl dX8_layMix_92 ?_
      refine tv_iconst (v := 3) C dX8_layMix_95 (by decide) ?_
      refine tv_iload C dX8_layMix_96 0 rfl ?_
      refine tv_imul C dX8_layMix_98 ?_
      refine tv_iload_n C dX8_layMix_99 rfl 2 rfl ?_
      refine tv_iadd C dX8_layMix_100 ?_
      refine tv_iald (f := (s 16)) (v := (s 16 ((3 * 2) + 1))) C 11 (by decide) rfl ((3 * 2) + 1) (tn_add (tn_mul (tn_l 3) (tn_l 2)) (tn_l 1)) (show ((3 * 2) + 1) < 18 by omega) (by decide) rfl dX8_layMix_101 ?_
      refine tv_imul C dX8_layMix_102 ?_
      refine tv_iadd C dX8_layMix_103 ?_
      refine tv_istore_n (lv' := [(3, .int (((0 + ((r 4 0) * (s 16 ((3 * 0) + 1)))) + ((r 4 1) * (s 16 ((3 * 1) + 1)))) + ((r 4 2) * (s 16 ((3 * 2) + 1))))), (4, .int 2), (2, .int 1), (0, .ref (tv_ad c 0)), (1, .int (sp_sd (r 4) 4))]) C dX8_layMix_104 rfl (by decide) rfl ?_
      refine tv_iinc (v := 3) (lv' := [(4, .int 3), (3, .int (((0 + ((r 4 0) * (s 16 ((3 * 0) + 1)))) + ((r 4 1) * (s 16 ((3 * 1) + 1)))) + ((r 4 2) * (s 16 ((3 * 2) + 1))))), (2, .int 1), (0, .ref (tv_ad c 0)), (1, .int (sp_sd (r 4) 4))]) C dX8_layMix_105 1 rfl (by decide) (by decide) rfl ?_
      refine tv_goto C 77 dX8_layMix_108 (by decide) ?_
      refine tv_iload C dX8_layMix_77 0 rfl ?_
      refine tv_iconst (v := 4) C dX8_layMix_79 (by decide) ?_
      refine tv_icmp_ge C 111 dX8_layMix_80 (by decide) (fun c_12 => absurd c_12 (by decide)) (fun c_12 => ?_)
      refine tv_iload_n C dX8_layMix_83 rfl 1 rfl ?_
      refine tv_aload_n C dX8_layMix_84 rfl 3 rfl ?_
      refine tv_get (ci := 8) (Cn := RX8) (T := TX8) (Nf := 35) (v := .ref (tv_ad c 13)) C 0 (by decide) rfl rfl in_X8_layMix_X8 24 (by decide) lk_X8_layMix_47 rfl dX8_layMix_85 ?_
      refine tv_iload C dX8_layMix_88 0 rfl ?_
      refine tv_iald (f := (r 4)) (v := (r 4 3)) C 13 (by decide) rfl 3 (tn_l 3) (show 3 < 4 by omega) (by decide) rfl dX8_layMix_90 ?_
      refine tv_aload_n C dX8_layMix_91 rfl 3 rfl ?_
      refine tv_get (ci := 8) (Cn := RX8) (T := TX8) (Nf := 35) (v := .ref (tv_ad c 11)) C 0 (by decide) rfl rfl in_X8_layMix_X8 21 (by decide) lk_X8_layMix_41 rfl dX8_layMix_92 ?_
      refine tv_iconst (v := 3) C dX8_layMix_95 (by decide) ?_
      refine tv_iload C dX8_layMix_96 0 rfl ?_
      refine tv_imul C dX8_layMix_98 ?_
      refine tv_iload_n C dX8_layMix_99 rfl 2 rfl ?_
      refine tv_iadd C dX8_layMix_100 ?_
      refine tv_iald (f := (s 16)) (v := (s 16 ((3 * 3) + 1))) C 11 (by decide) rfl ((3 * 3) + 1) (tn_add (tn_mul (tn_l 3) (tn_l 3)) (tn_l 1)) (show ((3 * 3) + 1) < 18 by omega) (by decide) rfl dX8_layMix_101 ?_
      refine tv_imul C dX8_layMix_102 ?_
      refine tv_iadd C dX8_layMix_103 ?_
      refine tv_istore_n (lv' := [(3, .int ((((0 + ((r 4 0) * (s 16 ((3 * 0) + 1)))) + ((r 4 1) * (s 16 ((3 * 1) + 1)))) + ((r 4 2) * (s 16 ((3 * 2) + 1)))) + ((r 4 3) * (s 16 ((3 * 3) + 1))))), (4, .int 3), (2, .int 1), (0, .ref (tv_ad c 0)), (1, .int (sp_sd (r 4) 4))]) C dX8_layMix_104 rfl (by decide) rfl ?_
      refine tv_iinc (v := 4) (lv' := [(4, .int 4), (3, .int ((((0 + ((r 4 0) * (s 16 ((3 * 0) + 1)))) + ((r 4 1) * (s 16 ((3 * 1) + 1)))) + ((r 4 2) * (s 16 ((3 * 2) + 1)))) + ((r 4 3) * (s 16 ((3 * 3) + 1))))), (2, .int 1), (0, .ref (tv_ad c 0)), (1, .int (sp_sd (r 4) 4))]) C dX8_layMix_105 1 rfl (by decide) (by decide) rfl ?_
      refine tv_goto C 77 dX8_layMix_108 (by decide) ?_
      refine tv_iload C dX8_layMix_77 0 rfl ?_
      refine tv_iconst (v := 4) C dX8_layMix_79 (by decide) ?_
      refine tv_icmp_ge C 111 dX8_layMix_80 (by decide) (fun c_13 => ?_) (fun c_13 => absurd (by decide) c_13)
      refine tv_aload_n C dX8_layMix_111 rfl 3 rfl ?_
      refine tv_get (ci := 8) (Cn := RX8) (T := TX8) (Nf := 35) (v := .ref (tv_ad c 14)) C 0 (by decide) rfl rfl in_X8_layMix_X8 26 (by decide) lk_X8_layMix_50 rfl dX8_layMix_112 ?_
      refine tv_iload_n C dX8_layMix_115 rfl 2 rfl ?_
      refine tv_iload_n C dX8_layMix_116 rfl 1 rfl ?_
      refine tv_iload_n C dX8_layMix_117 rfl 4 rfl ?_
      refine tv_idiv C hd0 dX8_layMix_118 ?_
      refine tv_iast (E' := (eM c s (ts_a (ts_s r 5 (sp_mk s (r 4) 4)) 6 (upd (upd (r 6) 0 (((((0 + ((r 4 0) * (s 16 ((3 * 0) + 0)))) + ((r 4 1) * (s 16 ((3 * 1) + 0)))) + ((r 4 2) * (s 16 ((3 * 2) + 0)))) + ((r 4 3) * (s 16 ((3 * 3) + 0)))) / (sp_sd (r 4) 4))) 1 (((((0 + ((r 4 0) * (s 16 ((3 * 0) + 1)))) + ((r 4 1) * (s 16 ((3 * 1) + 1)))) + ((r 4 2) * (s 16 ((3 * 2) + 1)))) + ((r 4 3) * (s 16 ((3 * 3) + 1)))) / (sp_sd (r 4) 4)))))) C 14 (by decide) rfl 1 (tn_l 1) (show 1 < 3 by omega) (by decide) ((eM_u_mixBands c s (ts_a (ts_s r 5 (sp_mk s (r 4) 4)) 6 (upd (r 6) 0 (((((0 + ((r 4 0) * (s 16 ((3 * 0) + 0)))) + ((r 4 1) * (s 16 ((3 * 1) + 0)))) + ((r 4 2) * (s 16 ((3 * 2) + 0)))) + ((r 4 3) * (s 16 ((3 * 3) + 0)))) / (sp_sd (r 4) 4)))) (upd (upd (r 6) 0 (((((0 + ((r 4 0) * (s 16 ((3 * 0) + 0)))) + ((r 4 1) * (s 16 ((3 * 1) + 0)))) + ((r 4 2) * (s 16 ((3 * 2) + 0)))) + ((r 4 3) * (s 16 ((3 * 3) + 0)))) / (sp_sd (r 4) 4))) 1 (((((0 + ((r 4 0) * (s 16 ((3 * 0) + 1)))) + ((r 4 1) * (s 16 ((3 * 1) + 1)))) + ((r 4 2) * (s 16 ((3 * 2) + 1)))) + ((r 4 3) * (s 16 ((3 * 3) + 1)))) / (sp_sd (r 4) 4)))).trans (by first | (rw [ts_mg]; done) | (rw [ts_mg]; rfl) | (rw [ts_ss]; done) | (rw [ts_ss]; rfl))) dX8_layMix_119 ?_
      refine tv_iinc (v := 2) (lv' := [(2, .int 2), (4, .int 4), (3, .int ((((0 + ((r 4 0) * (s 16 ((3 * 0) + 1)))) + ((r 4 1) * (s 16 ((3 * 1) + 1)))) + ((r 4 2) * (s 16 ((3 * 2) + 1)))) + ((r 4 3) * (s 16 ((3 * 3) + 1))))), (0, .ref (tv_ad c 0)), (1, .int (sp_sd (r 4) 4))]) C dX8_layMix_120 2 rfl (by decide) (by decide) rfl ?_
      refine tv_goto C 67 dX8_layMix_123 (by decide) ?_
      refine tv_iload_n C dX8_layMix_67 rfl 0 rfl ?_
      refine tv_iconst (v := 3) C dX8_layMix_68 (by decide) ?_
      refine tv_icmp_ge C 126 dX8_layMix_69 (by decide) (fun c_14 => absurd c_14 (by decide)) (fun c_14 => ?_)
      refine tv_iconst (v := 0) C dX8_layMix_72 (by decide) ?_
      refine tv_istore_n (lv' := [(3, .int 0), (2, .int 2), (4, .int 4), (0, .ref (tv_ad c 0)), (1, .int (sp_sd (r 4) 4))]) C dX8_layMix_73 rfl (by decide) rfl ?_
      refine tv_iconst (v := 0) C dX8_layMix_74 (by decide) ?_
      refine tv_istore (lv' := [(4, .int 0), (3, .int 0), (2, .int 2), (0, .ref (tv_ad c 0)), (1, .int (sp_sd (r 4) 4))]) C dX8_layMix_75 (by decide) rfl ?_
      refine tv_iload C dX8_layMix_77 0 rfl ?_
      refine tv_iconst (v := 4) C dX8_layMix_79 (by decide) ?_
      refine tv_icmp_ge C 111 dX8_layMix_80 (by decide) (fun c_15 => absurd c_15 (by decide)) (fun c_15 => ?_)
      refine tv_iload_n C dX8_layMix_83 rfl 1 rfl ?_
      refine tv_aload_n C dX8_layMix_84 rfl 3 rfl ?_
      refine tv_get (ci := 8) (Cn := RX8) (T := TX8) (Nf := 35) (v := .ref (tv_ad c 13)) C 0 (by decide) rfl rfl in_X8_layMix_X8 24 (by decide) lk_X8_layMix_47 rfl dX8_layMix_85 ?_
      refine tv_iload C dX8_layMix_88 0 rfl ?_
      refine tv_iald (f := (r 4)) (v := (r 4 0)) C 13 (by decide) rfl 0 (tn_l 0) (show 0 < 4 by omega) (by decide) rfl dX8_layMix_90 ?_
      refine tv_aload_n C dX8_layMix_91 rfl 3 rfl ?_
      refine tv_get (ci := 8) (Cn := RX8) (T := TX8) (Nf := 35) (v := .ref (tv_ad c 11)) C 0 (by decide) rfl rfl in_X8_layMix_X8 21 (by decide) lk_X8_layMix_41 rfl dX8_layMix_92 ?_
      refine tv_iconst (v := 3) C dX8_layMix_95 (by decide) ?_
      refine tv_iload C dX8_layMix_96 0 rfl ?_
      refine tv_imul C dX8_layMix_98 ?_
      refine tv_iload_n C dX8_layMix_99 rfl 2 rfl ?_
      refine tv_iadd C dX8_layMix_100 ?_
      refine tv_iald (f := (s 16)) (v := (s 16 ((3 * 0) + 2))) C 11 (by decide) rfl ((3 * 0) + 2) (tn_add (tn_mul (tn_l 3) (tn_l 0)) (tn_l 2)) (show ((3 * 0) + 2) < 18 by omega) (by decide) rfl dX8_layMix_101 ?_
      refine tv_imul C dX8_layMix_102 ?_
      refine tv_iadd C dX8_layMix_103 ?_
      refine tv_istore_n (lv' := [(3, .int (0 + ((r 4 0) * (s 16 ((3 * 0) + 2))))), (4, .int 0), (2, .int 2), (0, .ref (tv_ad c 0)), (1, .int (sp_sd (r 4) 4))]) C dX8_layMix_104 rfl (by decide) rfl ?_
      refine tv_iinc (v := 1) (lv' := [(4, .int 1), (3, .int (0 + ((r 4 0) * (s 16 ((3 * 0) + 2))))), (2, .int 2), (0, .ref (tv_ad c 0)), (1, .int (sp_sd (r 4) 4))]) C dX8_layMix_105 1 rfl (by decide) (by decide) rfl ?_
      refine tv_goto C 77 dX8_layMix_108 (by decide) ?_
      refine tv_iload C dX8_layMix_77 0 rfl ?_
      refine tv_iconst (v := 4) C dX8_layMix_79 (by decide) ?_
      refine tv_icmp_ge C 111 dX8_layMix_80 (by decide) (fun c_16 => absurd c_16 (by decide)) (fun c_16 => ?_)
      refine tv_iload_n C dX8_layMix_83 rfl 1 rfl ?_
      refine tv_aload_n C dX8_layMix_84 rfl 3 rfl ?_
      refine tv_get (ci := 8) (Cn := RX8) (T := TX8) (Nf := 35) (v := .ref (tv_ad c 13)) C 0 (by decide) rfl rfl in_X8_layMix_X8 24 (by decide) lk_X8_layMix_47 rfl dX8_layMix_85 ?_
      refine tv_iload C dX8_layMix_88 0 rfl ?_
      refine tv_iald (f := (r 4)) (v := (r 4 1)) C 13 (by decide) rfl 1 (tn_l 1) (show 1 < 4 by omega) (by decide) rfl dX8_layMix_90 ?_
      refine tv_aload_n C dX8_layMix_91 rfl 3 rfl ?_
      refine tv_get (ci := 8) (Cn := RX8) (T := TX8) (Nf := 35) (v := .ref (tv_ad c 11)) C 0 (by decide) rfl rfl in_X8_layMix_X8 21 (by decide) lk_X8_layMix_41 rfl dX8_layMix_92 ?_
      refine tv_iconst (v := 3) C dX8_layMix_95 (by decide) ?_
      refine tv_iload C dX8_layMix_96 0 rfl ?_
      refine tv_imul C dX8_layMix_98 ?_
      refine tv_iload_n C dX8_layMix_99 rfl 2 rfl ?_
      refine tv_iadd C dX8_layMix_100 ?_
      refine tv_iald (f := (s 16)) (v := (s 16 ((3 * 1) + 2))) C 11 (by decide) rfl ((3 * 1) + 2) (tn_add (tn_mul (tn_l 3) (tn_l 1)) (tn_l 2)) (show ((3 * 1) + 2) < 18 by omega) (by decide) rfl dX8_layMix_101 ?_
      refine tv_imul C dX8_layMix_102 ?_
      refine tv_iadd C dX8_layMix_103 ?_
      refine tv_istore_n (lv' := [(3, .int ((0 + ((r 4 0) * (s 16 ((3 * 0) + 2)))) + ((r 4 1) * (s 16 ((3 * 1) + 2))))), (4, .int 1), (2, .int 2), (0, .ref (tv_ad c 0)), (1, .int (sp_sd (r 4) 4))]) C dX8_layMix_104 rfl (by decide) rfl ?_
      refine tv_iinc (v := 2) (lv' := [(4, .int 2), (3, .int ((0 + ((r 4 0) * (s 16 ((3 * 0) + 2)))) + ((r 4 1) * (s 16 ((3 * 1) + 2))))), (2, .int 2), (0, .ref (tv_ad c 0)), (1, .int (sp_sd (r 4) 4))]) C dX8_layMix_105 1 rfl (by decide) (by decide) rfl ?_
      refine tv_goto C 77 dX8_layMix_108 (by decide) ?_
      refine tv_iload C dX8_layMix_77 0 rfl ?_
      refine tv_iconst (v := 4) C dX8_layMix_79 (by decide) ?_
      refine tv_icmp_ge C 111 dX8_layMix_80 (by decide) (fun c_17 => absurd c_17 (by decide)) (fun c_17 => ?_)
      refine tv_iload_n C dX8_layMix_83 rfl 1 rfl ?_
      refine tv_aload_n C dX8_layMix_84 rfl 3 rfl ?_
      refine tv_get (ci := 8) (Cn := RX8) (T := TX8) (Nf := 35) (v := .ref (tv_ad c 13)) C 0 (by decide) rfl rfl in_X8_layMix_X8 24 (by decide) lk_X8_layMix_47 rfl dX8_layMix_85 ?_
      refine tv_iload C dX8_layMix_88 0 rfl ?_
      refine tv_iald (f := (r 4)) (v := (r 4 2)) C 13 (by decide) rfl 2 (tn_l 2) (show 2 < 4 by omega) (by decide) rfl dX8_layMix_90 ?_
      refine tv_aload_n C dX8_layMix_91 rfl 3 rfl ?_
      refine tv_get (ci := 8) (Cn := RX8) (T := TX8) (Nf := 35) (v := .ref (tv_ad c 11)) C 0 (by decide) rfl rfl in_X8_layMix_X8 21 (by decide) lk_X8_layMix_41 rfl dX8_layMix_92 ?_
      refine tv_iconst (v := 3) C dX8_layMix_95 (by decide) ?_
      refine tv_iload C dX8_layMix_96 0 rfl ?_
      refine tv_imul C dX8_layMix_98 ?_
      refine tv_iload_n C dX8_layMix_99 rfl 2 rfl ?_
      refine tv_iadd C dX8_layMix_100 ?_
      refine tv_iald (f := (s 16)) (v := (s 16 ((3 * 2) + 2))) C 11 (by decide) rfl ((3 * 2) + 2) (tn_add (tn_mul (tn_l 3) (tn_l 2)) (tn_l 2)) (show ((3 * 2) + 2) < 18 by omega) (by decide) rfl dX8_layMix_101 ?_
      refine tv_imul C dX8_layMix_102 ?_
      refine tv_iadd C dX8_layMix_103 ?_
      refine tv_istore_n (lv' := [(3, .int (((0 + ((r 4 0) * (s 16 ((3 * 0) + 2)))) + ((r 4 1) * (s 16 ((3 * 1) + 2)))) + ((r 4 2) * (s 16 ((3 * 2) + 2))))), (4, .int 2), (2, .int 2), (0, .ref (tv_ad c 0)), (1, .int (sp_sd (r 4) 4))]) C dX8_layMix_104 rfl (by decide) rfl ?_
      refine tv_iinc (v := 3) (lv' := [(4, .int 3), (3, .int (((0 + ((r 4 0) * (s 16 ((3 * 0) + 2)))) + ((r 4 1) * (s 16 ((3 * 1) + 2)))) + ((r 4 2) * (s 16 ((3 * 2) + 2))))), (2, .int 2), (0, .ref (tv_ad c 0)), (1, .int (sp_sd (r 4) 4))]) C dX8_layMix_105 1 rfl (by decide) (by decide) rfl ?_
      refine tv_goto C 77 dX8_layMix_108 (by decide) ?_
      refine tv_iload C dX8_layMix_77 0 rfl ?_
      refine tv_iconst (v := 4) C dX8_layMix_79 (by decide) ?_
      refine tv_icmp_ge C 111 dX8_layMix_80 (by decide) (fun c_18 => absurd c_18 (by decide)) (fun c_18 => ?_)
      refine tv_iload_n C dX8_layMix_83 rfl 1 rfl ?_
      refine tv_aload_n C dX8_layMix_84 rfl 3 rfl ?_
      refine tv_get (ci := 8) (Cn := RX8) (T := TX8) (Nf := 35) (v := .ref (tv_ad c 13)) C 0 (by decide) rfl rfl in_X8_layMix_X8 24 (by decide) lk_X8_layMix_47 rfl dX8_layMix_85 ?_
      refine tv_iload C dX8_layMix_88 0 rfl ?_
      refine tv_iald (f := (r 4)) (v := (r 4 3)) C 13 (by decide) rfl 3 (tn_l 3) (show 3 < 4 by omega) (by decide) rfl dX8_layMix_90 ?_
      refine tv_aload_n C dX8_layMix_91 rfl 3 rfl ?_
      refine tv_get (ci := 8) (Cn := RX8) (T := TX8) (Nf := 35) (v := .ref (tv_ad c 11)) C 0 (by decide) rfl rfl in_X8_layMix_X8 21 (by decide) lk_X8_layMix_41 rfl dX8_layMix_92 ?_
      refine tv_iconst (v := 3) C dX8_layMix_95 (by decide) ?_
      refine tv_iload C dX8_layMix_96 0 rfl ?_
      refine tv_imul C dX8_layMix_98 ?_
      refine tv_iload_n C dX8_layMix_99 rfl 2 rfl ?_
      refine tv_iadd C dX8_layMix_100 ?_
      refine tv_iald (f := (s 16)) (v := (s 16 ((3 * 3) + 2))) C 11 (by decide) rfl ((3 * 3) + 2) (tn_add (tn_mul (tn_l 3) (tn_l 3)) (tn_l 2)) (show ((3 * 3) + 2) < 18 by omega) (by decide) rfl dX8_layMix_101 ?_
      refine tv_imul C dX8_layMix_102 ?_
      refine tv_iadd C dX8_layMix_103 ?_
      refine tv_istore_n (lv' := [(3, .int ((((0 + ((r 4 0) * (s 16 ((3 * 0) + 2)))) + ((r 4 1) * (s 16 ((3 * 1) + 2)))) + ((r 4 2) * (s 16 ((3 * 2) + 2)))) + ((r 4 3) * (s 16 ((3 * 3) + 2))))), (4, .int 3), (2, .int 2), (0, .ref (tv_ad c 0)), (1, .int (sp_sd (r 4) 4))]) C dX8_layMix_104 rfl (by decide) rfl ?_
      refine tv_iinc (v := 4) (lv' := [(4, .int 4), (3, .int ((((0 + ((r 4 0) * (s 16 ((3 * 0) + 2)))) + ((r 4 1) * (s 16 ((3 * 1) + 2)))) + ((r 4 2) * (s 16 ((3 * 2) + 2)))) + ((r 4 3) * (s 16 ((3 * 3) + 2))))), (2, .int 2), (0, .ref (tv_ad c 0)), (1, .int (sp_sd (r 4) 4))]) C dX8_layMix_105 1 rfl (by decide) (by decide) rfl ?_
      refine tv_goto C 77 dX8_layMix_108 (by decide) ?_
      refine tv_iload C dX8_layMix_77 0 rfl ?_
      refine tv_iconst (v := 4) C dX8_layMix_79 (by decide) ?_
      refine tv_icmp_ge C 111 dX8_layMix_80 (by decide) (fun c_19 => ?_) (fun c_19 => absurd (by decide) c_19)
      refine tv_aload_n C dX8_layMix_111 rfl 3 rfl ?_
      refine tv_get (ci := 8) (Cn := RX8) (T := TX8) (Nf := 35) (v := .ref (tv_ad c 14)) C 0 (by decide) rfl rfl in_X8_layMix_X8 26 (by decide) lk_X8_layMix_50 rfl dX8_layMix_112 ?_
      refine tv_iload_n C dX8_layMix_115 rfl 2 rfl ?_
      refine tv_iload_n C dX8_layMix_116 rfl 1 rfl ?_
      refine tv_iload_n C dX8_layMix_117 rfl 4 rfl ?_
      refine tv_idiv C hd0 dX8_layMix_118 ?_
      refine tv_iast (E' := (eM c s (ts_a (ts_s r 5 (sp_mk s (r 4) 4)) 6 (upd (upd (upd (r 6) 0 (((((0 + ((r 4 0) * (s 16 ((3 * 0) + 0)))) + ((r 4 1) * (s 16 ((3 * 1) + 0)))) + ((r 4 2) * (s 16 ((3 * 2) + 0)))) + ((r 4 3) * (s 16 ((3 * 3) + 0)))) / (sp_sd (r 4) 4))) 1 (((((0 + ((r 4 0) * (s 16 ((3 * 0) + 1)))) + ((r 4 1) * (s 16 ((3 * 1) + 1)))) + ((r 4 2) * (s 16 ((3 * 2) + 1)))) + ((r 4 3) * (s 16 ((3 * 3) + 1)))) / (sp_sd (r 4) 4))) 2 (((((0 + ((r 4 0) * (s 16 ((3 * 0) + 2)))) + ((r 4 1) * (s 16 ((3 * 1) + 2)))) + ((r 4 2) * (s 16 ((3 * 2) + 2)))) + ((r 4 3) * (s 16 ((3 * 3) + 2)))) / (sp_sd (r 4) 4)))))) C 14 (by decide) rfl 2 (tn_l 2) (show 2 < 3 by omega) (by decide) ((eM_u_mixBands c s (ts_a (ts_s r 5 (sp_mk s (r 4) 4)) 6 (upd (upd (r 6) 0 (((((0 + ((r 4 0) * (s 16 ((3 * 0) + 0)))) + ((r 4 1) * (s 16 ((3 * 1) + 0)))) + ((r 4 2) * (s 16 ((3 * 2) + 0)))) + ((r 4 3) * (s 16 ((3 * 3) + 0)))) / (sp_sd (r 4) 4))) 1 (((((0 + ((r 4 0) * (s 16 ((3 * 0) + 1)))) + ((r 4 1) * (s 16 ((3 * 1) + 1)))) + ((r 4 2) * (s 16 ((3 * 2) + 1)))) + ((r 4 3) * (s 16 ((3 * 3) + 1)))) / (sp_sd (r 4) 4)))) (upd (upd (upd (r 6) 0 (((((0 + ((r 4 0) * (s 16 ((3 * 0) + 0)))) + ((r 4 1) * (s 16 ((3 * 1) + 0)))) + ((r 4 2) * (s 16 ((3 * 2) + 0)))) + ((r 4 3) * (s 16 ((3 * 3) + 0)))) / (sp_sd (r 4) 4))) 1 (((((0 + ((r 4 0) * (s 16 ((3 * 0) + 1)))) + ((r 4 1) * (s 16 ((3 * 1) + 1)))) + ((r 4 2) * (s 16 ((3 * 2) + 1)))) + ((r 4 3) * (s 16 ((3 * 3) + 1)))) / (sp_sd (r 4) 4))) 2 (((((0 + ((r 4 0) * (s 16 ((3 * 0) + 2)))) + ((r 4 1) * (s 16 ((3 * 1) + 2)))) + ((r 4 2) * (s 16 ((3 * 2) + 2)))) + ((r 4 3) * (s 16 ((3 * 3) + 2)))) / (sp_sd (r 4) 4)))).trans (by first | (rw [ts_mg]; done) | (rw [ts_mg]; rfl) | (rw [ts_ss]; done) | (rw [ts_ss]; rfl))) dX8_layMix_119 ?_
      refine tv_iinc (v := 3) (lv' := [(2, .int 3), (4, .int 4), (3, .int ((((0 + ((r 4 0) * (s 16 ((3 * 0) + 2)))) + ((r 4 1) * (s 16 ((3 * 1) + 2)))) + ((r 4 2) * (s 16 ((3 * 2) + 2)))) + ((r 4 3) * (s 16 ((3 * 3) + 2))))), (0, .ref (tv_ad c 0)), (1, .int (sp_sd (r 4) 4))]) C dX8_layMix_120 2 rfl (by decide) (by decide) rfl ?_
      refine tv_goto C 67 dX8_layMix_123 (by decide) ?_
      refine tv_iload_n C dX8_layMix_67 rfl 0 rfl ?_
      refine tv_iconst (v := 3) C dX8_layMix_68 (by decide) ?_
      refine tv_icmp_ge C 126 dX8_layMix_69 (by decide) (fun c_20 => ?_) (fun c_20 => absurd (by decide) c_20)
      exact hR _ _ _ dX8_layMix_126 (by rfl)
    | succ k_10 ih10 =>
      intro i x_10_1 x_10_2 w_10 hi10  ex_10_1 ex_10_2 ew_10
      subst ex_10_1
      subst ex_10_2
      subst ew_10
      have hN10 : i < 4 := by omega
      refine tv_iload_n C dX8_layMix_10 rfl 2 rfl ?_
      refine tv_iconst (v := 4) C dX8_layMix_11 (by decide) ?_
      refine tv_icmp_ge C 65 dX8_layMix_12 (by decide) (fun c_21 => absurd c_21 (tn_nle (tn_l 4) (rfl : nI i = nI i) (by omega) (by omega))) (fun c_21 => ?_)
      refine tv_iload_n C dX8_layMix_15 rfl 1 rfl ?_
      refine tv_aload_n C dX8_layMix_16 rfl 0 rfl ?_
      refine tv_get (ci := 8) (Cn := RX8) (T := TX8) (Nf := 35) (v := .ref (tv_ad c 13)) C 0 (by decide) rfl rfl in_X8_layMix_X8 24 (by decide) lk_X8_layMix_47 rfl dX8_layMix_17 ?_
      refine tv_iload_n C dX8_layMix_20 rfl 2 rfl ?_
      refine tv_iald (f := (r 4)) (v := (r 4 i)) C 13 (by decide) rfl i (rfl : nI i = nI i) (show i < 4 by omega) (by decide) rfl dX8_layMix_21 ?_
      refine tv_iadd C dX8_layMix_22 ?_
      refine tv_istore_n (lv' := [(1, .int ((sp_sd (r 4) i) + (r 4 i))), (0, .ref (tv_ad c 0)), (2, .int (nI i))]) C dX8_layMix_23 rfl (by decide) rfl ?_
      refine tv_aload_n C dX8_layMix_24 rfl 1 rfl ?_
      refine tv_aload_n C dX8_layMix_25 rfl 1 rfl ?_
      refine tv_get (ci := 8) (Cn := RX8) (T := TX8) (Nf := 35) (v := .int (sp_mk s (r 4) i)) C 0 (by decide) rfl rfl in_X8_layMix_X8 25 (by decide) lk_X8_layMix_168 rfl dX8_layMix_26 ?_
      refine tv_bipush (v := (-9)) C dX8_layMix_29 (by decide) ?_
      refine tv_icmp_ne C 52 dX8_layMix_31 (by decide) (fun c_22 => ?_) (fun c_22 => ?_)
      · skip
        refine tv_aload_n C dX8_layMix_52 rfl 1 rfl ?_
        refine tv_get (ci := 8) (Cn := RX8) (T := TX8) (Nf := 35) (v := .int (sp_mk s (r 4) i)) C 0 (by decide) rfl rfl in_X8_layMix_X8 25 (by decide) lk_X8_layMix_168 rfl dX8_layMix_53 ?_
        refine tv_put (ci := 8) (Cn := RX8) (T := TX8) (Nf := 35) (ty := .int) (E' := (eM c s (ts_s r 5 (sp_mk s (r 4) i)))) C 0 (by decide) rfl rfl in_X8_layMix_X8 tyX8 tyX8_ok nmX8 25 (by decide) lk_X8_layMix_168 rfl (by decide +kernel) rfl rfl (Nat.le_of_ble_eq_true rfl) ((eM_u_mixKind c s (ts_s r 5 (sp_mk s (r 4) i)) (sp_mk s (r 4) i)).trans (by first | (rw [ts_mg]; done) | (rw [ts_mg]; rfl) | (rw [ts_ss]; done) | (rw [ts_ss]; rfl))) dX8_layMix_56 ?_
        refine tv_iinc (v := ((nI i) + 1)) (lv' := [(2, .int ((nI i) + 1)), (1, .int ((sp_sd (r 4) i) + (r 4 i))), (0, .ref (tv_ad c 0))]) C dX8_layMix_59 2 rfl rfl (by decide) rfl ?_
        refine tv_goto C 10 dX8_layMix_62 (by decide) ?_
        refine tv_lsub [2, 1, 0] rfl ?_
        exact ih10 (i + 1) _ _ _ (by omega)  (by rfl) (by first | rfl | exact nI_1 _ | (simp only [c_21, c_22, if_true, ↓reduceIte]; done) | (simp [c_21, c_22, if_true]; done) | (exfalso; clear hR C; simp_all; done)) (by simp only [sp_mk, c_21, c_22, ↓reduceIte])
      · skip
        refine tv_aload_n C dX8_layMix_34 rfl 1 rfl ?_
        refine tv_get (ci := 8) (Cn := RX8) (T := TX8) (Nf := 35) (v := .ref (tv_ad c 13)) C 0 (by decide) rfl rfl in_X8_layMix_X8 24 (by decide) lk_X8_layMix_47 rfl dX8_layMix_35 ?_
        refine tv_iload_n C dX8_layMix_38 rfl 2 rfl ?_
        refine tv_iald (f := (r 4)) (v := (r 4 i)) C 13 (by decide) rfl i (rfl : nI i = nI i) (show i < 4 by omega) (by decide) rfl dX8_layMix_39 ?_
        refine tv_if_le C 52 dX8_layMix_40 (by decide) (fun c_23 => ?_) (fun c_23 => ?_)
        · skip
          refine tv_aload_n C dX8_layMix_52 rfl 1 rfl ?_
          refine tv_get (ci := 8) (Cn := RX8) (T := TX8) (Nf := 35) (v := .int (sp_mk s (r 4) i)) C 0 (by decide) rfl rfl in_X8_layMix_X8 25 (by decide) lk_X8_layMix_168 rfl dX8_layMix_53 ?_
          refine tv_put (ci := 8) (Cn := RX8) (T := TX8) (Nf := 35) (ty := .int) (E' := (eM c s (ts_s r 5 (sp_mk s (r 4) i)))) C 0 (by decide) rfl rfl in_X8_layMix_X8 tyX8 tyX8_ok nmX8 25 (by decide) lk_X8_layMix_168 rfl (by decide +kernel) rfl rfl (Nat.le_of_ble_eq_true rfl) ((eM_u_mixKind c s (ts_s r 5 (sp_mk s (r 4) i)) (sp_mk s (r 4) i)).trans (by first | (rw [ts_mg]; done) | (rw [ts_mg]; rfl) | (rw [ts_ss]; done) | (rw [ts_ss]; rfl))) dX8_layMix_56 ?_
          refine tv_iinc (v := ((nI i) + 1)) (lv' := [(2, .int ((nI i) + 1)), (1, .int ((sp_sd (r 4) i) + (r 4 i))), (0, .ref (tv_ad c 0))]) C dX8_layMix_59 2 rfl rfl (by decide) rfl ?_
          refine tv_goto C 10 dX8_layMix_62 (by decide) ?_
          refine tv_lsub [2, 1, 0] rfl ?_
          exact ih10 (i + 1) _ _ _ (by omega)  (by rfl) (by first | rfl | exact nI_1 _ | (simp only [c_21, eq_true c_22, c_23, tn_d_le c_23, if_true, ↓reduceIte]; done) | (simp [c_21, eq_true c_22, c_23, tn_d_le c_23, if_true]; done) | (exfalso; clear hR C; simp_all; done)) (by simp only [sp_mk, c_21, eq_true c_22, c_23, tn_d_le c_23, ↓reduceIte])
        · skip
          refine tv_aload_n C dX8_layMix_43 rfl 1 rfl ?_
          refine tv_get (ci := 8) (Cn := RX8) (T := TX8) (Nf := 35) (v := .ref (tv_ad c 10)) C 0 (by decide) rfl rfl in_X8_layMix_X8 20 (by decide) lk_X8_layMix_38 rfl dX8_layMix_44 ?_
          refine tv_iload_n C dX8_layMix_47 rfl 2 rfl ?_
          refine tv_iald (f := (s 15)) (v := (s 15 i)) C 10 (by decide) rfl i (rfl : nI i = nI i) (show i < 6 by omega) (by decide) rfl dX8_layMix_48 ?_
          refine tv_goto C 56 dX8_layMix_49 (by decide) ?_
          refine tv_put (ci := 8) (Cn := RX8) (T := TX8) (Nf := 35) (ty := .int) (E' := (eM c s (ts_s r 5 (s 15 i)))) C 0 (by decide) rfl rfl in_X8_layMix_X8 tyX8 tyX8_ok nmX8 25 (by decide) lk_X8_layMix_168 rfl (by decide +kernel) rfl rfl (Nat.le_of_ble_eq_true rfl) ((eM_u_mixKind c s (ts_s r 5 (sp_mk s (r 4) i)) (s 15 i)).trans (by first | (rw [ts_mg]; done) | (rw [ts_mg]; rfl) | (rw [ts_ss]; done) | (rw [ts_ss]; rfl))) dX8_layMix_56 ?_
          refine tv_iinc (v := ((nI i) + 1)) (lv' := [(2, .int ((nI i) + 1)), (1, .int ((sp_sd (r 4) i) + (r 4 i))), (0, .ref (tv_ad c 0))]) C dX8_layMix_59 2 rfl rfl (by decide) rfl ?_
          refine tv_goto C 10 dX8_layMix_62 (by decide) ?_
          refine tv_lsub [2, 1, 0] rfl ?_
          exact ih10 (i + 1) _ _ _ (by omega)  (by rfl) (by first | rfl | exact nI_1 _ | (simp only [c_21, eq_true c_22, c_23, tn_d_nle c_23, if_true, ↓reduceIte]; done) | (simp [c_21, eq_true c_22, c_23, tn_d_nle c_23, if_true]; done) | (exfalso; clear hR C; simp_all; done)) (by simp only [sp_mk, c_21, eq_true c_22, c_23, tn_d_nle c_23, ↓reduceIte])
  refine tv_lsub [2, 1, 0] rfl ?_
  exact hL10 (4 - 0) 0 _ _ _ (by omega)  (by first | (simp only [if_true, ↓reduceIte]; done) | rfl | (simp [if_true]; done) | (exfalso; clear hR C; simp_all; done)) (by first | (simp only [if_true, ↓reduceIte]; done) | rfl | (simp [if_true]; done) | (exfalso; clear hR C; simp_all; done)) (by rfl)
set_option maxHeartbeats 4000000 in
set_option maxRecDepth 100000 in
theorem kX8_mixUnlike (c : tv_c) (s r : ts_T) (nl : Nat) (j : Nat) (p0 : Int32) (e_p0 : p0 = nI j) (h_p0 : j < 24) (hc : ∃ k, k < 6 ∧ s 11 j = nI k) (el : s 8 0 = nI nl) (hl : nl ≤ 4) : tv_Fi c 19 yX8_mixUnlike wsX8_mixUnlike { frames := 4, cells := 0, slots := 0, locals := 103 } [.ref (tv_ad c 0), .int p0] (eM c s r) (sp_mu s (r 5 0) (r 6) j nl) (eM c s r) := by
  refine tv_metI (by decide +kernel) rfl rfl (Nat.le_of_ble_eq_true rfl) (fun X C hR => ?_)
  show tv_V c 19 X (eM c s r) 0 [(0, .ref (tv_ad c 0)), (1, .int p0)] []
  refine tv_iconst (v := 0) C dX8_mixUnlike_0 (by decide) ?_
  refine tv_istore_n (lv' := [(2, .int 0), (0, .ref (tv_ad c 0)), (1, .int p0)]) C dX8_mixUnlike_1 rfl (by decide) rfl ?_
  refine tv_iconst (v := 0) C dX8_mixUnlike_2 (by decide) ?_
  refine tv_istore_n (lv' := [(3, .int 0), (2, .int 0), (0, .ref (tv_ad c 0)), (1, .int p0)]) C dX8_mixUnlike_3 rfl (by decide) rfl ?_
  have hL4 : ∀ (k_4 i : Nat) (x_4_2 : Int32) (x_4_3 : Int32), i + k_4 = nl → x_4_2 = (sp_mu s (r 5 0) (r 6) j i) → x_4_3 = (nI i) → tv_V c 19 X (eM c s r) 4 [(0, .ref (tv_ad c 0)), (1, .int p0), (2, .int x_4_2), (3, .int x_4_3)] [] := by
    intro k_4
    induction k_4 with
    | zero =>
      intro i x_4_2 x_4_3 hi4  ex_4_2 ex_4_3
      subst ex_4_2
      subst ex_4_3
      have hN4 : i = nl := by omega
      refine tv_iload_n C dX8_mixUnlike_4 rfl 3 rfl ?_
      refine tv_aload_n C dX8_mixUnlike_5 rfl 0 rfl ?_
      refine tv_get (ci := 8) (Cn := RX8) (T := TX8) (Nf := 35) (v := .int (s 8 0)) C 0 (by decide) rfl rfl in_X8_mixUnlike_X8 22 (by decide) lk_X8_mixUnlike_121 rfl dX8_mixUnlike_6 ?_
      refine tv_icmp_ge C 136 dX8_mixUnlike_9 (by decide) (fun c_1 => ?_) (fun c_1 => absurd (tn_le el (rfl : nI i = nI i) (by omega) (by omega)) c_1)
      refine tv_iload_n C dX8_mixUnlike_136 rfl 2 rfl ?_
      exact hR _ _ _ _ dX8_mixUnlike_137 ⟨by first | (simp only [hN4, c_1, if_true, ↓reduceIte]; done) | rfl | (simp [hN4, c_1, if_true]; done) | (exfalso; clear hR C; simp_all; done), by first | (simp only [hN4, c_1, if_true, ts_ss, ts_aa, ↓reduceIte]; done) | rfl | (simp [hN4, c_1, if_true, ts_ss, ts_aa]; done) | (exfalso; clear hR C; simp_all; done)⟩
    | succ k_4 ih4 =>
      intro i x_4_2 x_4_3 hi4  ex_4_2 ex_4_3
      subst ex_4_2
      subst ex_4_3
      have hN4 : i < nl := by omega
      refine tv_iload_n C dX8_mixUnlike_4 rfl 3 rfl ?_
      refine tv_aload_n C dX8_mixUnlike_5 rfl 0 rfl ?_
      refine tv_get (ci := 8) (Cn := RX8) (T := TX8) (Nf := 35) (v := .int (s 8 0)) C 0 (by decide) rfl rfl in_X8_mixUnlike_X8 22 (by decide) lk_X8_mixUnlike_121 rfl dX8_mixUnlike_6 ?_
      refine tv_icmp_ge C 136 dX8_mixUnlike_9 (by decide) (fun c_2 => absurd c_2 (tn_nle el (rfl : nI i = nI i) (by omega) (by omega))) (fun c_2 => ?_)
      refine tv_iconst (v := 0) C dX8_mixUnlike_12 (by decide) ?_
      refine tv_istore (lv' := [(4, .int 0), (0, .ref (tv_ad c 0)), (1, .int p0), (2, .int (sp_mu s (r 5 0) (r 6) j i)), (3, .int (nI i))]) C dX8_mixUnlike_13 (by decide) rfl ?_
      refine tv_iload C dX8_mixUnlike_15 0 rfl ?_
      refine tv_iconst (v := 2) C dX8_mixUnlike_17 (by decide) ?_
      refine tv_icmp_ge C 130 dX8_mixUnlike_18 (by decide) (fun c_3 => absurd c_3 (by decide)) (fun c_3 => ?_)
      refine tv_iconst (v := 0) C dX8_mixUnlike_21 (by decide) ?_
      refine tv_istore (lv' := [(5, .int 0), (4, .int 0), (0, .ref (tv_ad c 0)), (1, .int p0), (2, .int (sp_mu s (r 5 0) (r 6) j i)), (3, .int (nI i))]) C dX8_mixUnlike_22 (by decide) rfl ?_
      refine tv_iconst (v := 0) C dX8_mixUnlike_24 (by decide) ?_
      refine tv_istore (lv' := [(6, .int 0), (5, .int 0), (4, .int 0), (0, .ref (tv_ad c 0)), (1, .int p0), (2, .int (sp_mu s (r 5 0) (r 6) j i)), (3, .int (nI i))]) C dX8_mixUnlike_25 (by decide) rfl ?_
      refine tv_iload C dX8_mixUnlike_27 0 rfl ?_
      refine tv_iconst (v := 3) C dX8_mixUnlike_29 (by decide) ?_
      refine tv_icmp_ge C 86 dX8_mixUnlike_30 (by decide) (fun c_4 => absurd c_4 (by decide)) (fun c_4 => ?_)
      refine tv_iload C dX8_mixUnlike_33 1 rfl ?_
      refine tv_aload_n C dX8_mixUnlike_35 rfl 3 rfl ?_
      refine tv_aload_n C dX8_mixUnlike_36 rfl 3 rfl ?_
      refine tv_get (ci := 8) (Cn := RX8) (T := TX8) (Nf := 35) (v := .int (r 5 0)) C 0 (by decide) rfl rfl in_X8_mixUnlike_X8 25 (by decide) lk_X8_mixUnlike_168 rfl dX8_mixUnlike_37 ?_
      refine tv_aload_n C dX8_mixUnlike_40 rfl 3 rfl ?_
      refine tv_get (ci := 8) (Cn := RX8) (T := TX8) (Nf := 35) (v := .ref (tv_ad c 14)) C 0 (by decide) rfl rfl in_X8_mixUnlike_X8 26 (by decide) lk_X8_mixUnlike_50 rfl dX8_mixUnlike_41 ?_
      refine tv_iload C dX8_mixUnlike_44 0 rfl ?_
      refine tv_iald (f := (r 6)) (v := (r 6 0)) C 14 (by decide) rfl 0 (tn_l 0) (show 0 < 3 by omega) (by decide) rfl dX8_mixUnlike_46 ?_
      refine tv_iload C dX8_mixUnlike_47 0 rfl ?_
      refine tv_iconst (v := 0) C dX8_mixUnlike_49 (by decide) ?_
      refine tv_iconst (v := 0) C dX8_mixUnlike_50 (by decide) ?_
      refine tv_iload C dX8_mixUnlike_51 2 rfl ?_
      refine tv_iconst (v := 1) C dX8_mixUnlike_53 (by decide) ?_
      refine tv_icmp_ne C 61 dX8_mixUnlike_54 (by decide) (fun c_5 => ?_) (fun c_5 => absurd c_5 (by decide))
      refine tv_iconst (v := 0) C dX8_mixUnlike_61 (by decide) ?_
      refine tv_calli (As := [.int (r 5 0), .int (r 6 0), .int 0, .int 0, .int 0, .int 0]) (rest := [.int 0]) (ci := 8) (cn := RX8) (T := TX8) (Nf := 35) C 0 (kX8_comes c s r  (r 5 0) (r 6 0) 0 0 0 0 ) gX8_mixUnlike_X8_comes rfl yd_X8_comes ⟨rfl, rfl⟩ (by decide) (by decide) rfl rfl rfl rfl (Nat.le_of_ble_eq_true rfl) dX8_mixUnlike_62 (fun q_6 u_6 z_6 => ?_)
      obtain ⟨rfl, rfl⟩ := z_6
      refine tv_aload_n C dX8_mixUnlike_65 rfl 3 rfl ?_
      refine tv_get (ci := 8) (Cn := RX8) (T := TX8) (Nf := 35) (v := .ref (tv_ad c 12)) C 0 (by decide) rfl rfl in_X8_mixUnlike_X8 23 (by decide) lk_X8_mixUnlike_44 rfl dX8_mixUnlike_66 ?_
      refine tv_iconst (v := 3) C dX8_mixUnlike_69 (by decide) ?_
      refine tv_iload_n C dX8_mixUnlike_70 rfl 6 rfl ?_
      refine tv_imul C dX8_mixUnlike_71 ?_
      refine tv_iload C dX8_mixUnlike_72 0 rfl ?_
      refine tv_iadd C dX8_mixUnlike_74 ?_
      refine tv_iald (f := (s 17)) (v := (s 17 ((3 * i) + 0))) C 12 (by decide) rfl ((3 * i) + 0) (tn_add (tn_mul (tn_l 3) (rfl : nI i = nI i)) (tn_l 0)) (show ((3 * i) + 0) < 12 by omega) (by decide) rfl dX8_mixUnlike_75 ?_
      refine tv_imul C dX8_mixUnlike_76 ?_
      refine tv_iadd C dX8_mixUnlike_77 ?_
      refine tv_istore (lv' := [(5, .int (0 + ((sp_cm (r 5 0) (r 6 0) 0 0 0 (s 5 0) 0) * (s 17 ((3 * i) + 0))))), (6, .int 0), (4, .int 0), (0, .ref (tv_ad c 0)), (1, .int p0), (2, .int (sp_mu s (r 5 0) (r 6) j i)), (3, .int (nI i))]) C dX8_mixUnlike_78 (by decide) rfl ?_
      refine tv_iinc (v := 1) (lv' := [(6, .int 1), (5, .int (0 + ((sp_cm (r 5 0) (r 6 0) 0 0 0 (s 5 0) 0) * (s 17 ((3 * i) + 0))))), (4, .int 0), (0, .ref (tv_ad c 0)), (1, .int p0), (2, .int (sp_mu s (r 5 0) (r 6) j i)), (3, .int (nI i))]) C dX8_mixUnlike_80 1 rfl (by decide) (by decide) rfl ?_
      refine tv_goto C 27 dX8_mixUnlike_83 (by decide) ?_
      refine tv_iload C dX8_mixUnlike_27 0 rfl ?_
      refine tv_iconst (v := 3) C dX8_mixUnlike_29 (by decide) ?_
      refine tv_icmp_ge C 86 dX8_mixUnlike_30 (by decide) (fun c_7 => absurd c_7 (by decide)) (fun c_7 => ?_)
      refine tv_iload C dX8_mixUnlike_33 1 rfl ?_
      refine tv_aload_n C dX8_mixUnlike_35 rfl 3 rfl ?_
      refine tv_aload_n C dX8_mixUnlike_36 rfl 3 rfl ?_
      refine tv_get (ci := 8) (Cn := RX8) (T := TX8) (Nf := 35) (v := .int (r 5 0)) C 0 (by decide) rfl rfl in_X8_mixUnlike_X8 25 (by decide) lk_X8_mixUnlike_168 rfl dX8_mixUnlike_37 ?_
      refine tv_aload_n C dX8_mixUnlike_40 rfl 3 rfl ?_
      refine tv_get (ci := 8) (Cn := RX8) (T := TX8) (Nf := 35) (v := .ref (tv_ad c 14)) C 0 (by decide) rfl rfl in_X8_mixUnlike_X8 26 (by decide) lk_X8_mixUnlike_50 rfl dX8_mixUnlike_41 ?_
      refine tv_iload C dX8_mixUnlike_44 0 rfl ?_
      refine tv_iald (f := (r 6)) (v := (r 6 1)) C 14 (by decide) rfl 1 (tn_l 1) (show 1 < 3 by omega) (by decide) rfl dX8_mixUnlike_46 ?_
      refine tv_iload C dX8_mixUnlike_47 0 rfl ?_
      refine tv_iconst (v := 0) C dX8_mixUnlike_49 (by decide) ?_
      refine tv_iconst (v := 0) C dX8_mixUnlike_50 (by decide) ?_
      refine tv_iload C dX8_mixUnlike_51 2 rfl ?_
      refine tv_iconst (v := 1) C dX8_mixUnlike_53 (by decide) ?_
      refine tv_icmp_ne C 61 dX8_mixUnlike_54 (by decide) (fun c_8 => ?_) (fun c_8 => absurd c_8 (by decide))
      refine tv_iconst (v := 0) C dX8_mixUnlike_61 (by decide) ?_
      refine tv_calli (As := [.int (r 5 0), .int (r 6 1), .int 1, .int 0, .int 0, .int 0]) (rest := [.int (0 + ((sp_cm (r 5 0) (r 6 0) 0 0 0 (s 5 0) 0) * (s 17 ((3 * i) + 0))))]) (ci := 8) (cn := RX8) (T := TX8) (Nf := 35) C 0 (kX8_comes c s r  (r 5 0) (r 6 1) 1 0 0 0 ) gX8_mixUnlike_X8_comes rfl yd_X8_comes ⟨rfl, rfl⟩ (by decide) (by decide) rfl rfl rfl rfl (Nat.le_of_ble_eq_true rfl) dX8_mixUnlike_62 (fun q_9 u_9 z_9 => ?_)
      obtain ⟨rfl, rfl⟩ := z_9
      refine tv_aload_n C dX8_mixUnlike_65 rfl 3 rfl ?_
      refine tv_get (ci := 8) (Cn := RX8) (T := TX8) (Nf := 35) (v := .ref (tv_ad c 12)) C 0 (by decide) rfl rfl in_X8_mixUnlike_X8 23 (by decide) lk_X8_mixUnlike_44 rfl dX8_mixUnlike_66 ?_
      refine tv_iconst (v := 3) C dX8_mixUnlike_69 (by decide) ?_
      refine tv_iload_n C dX8_mixUnlike_70 rfl 6 rfl ?_
      refine tv_imul C dX8_mixUnlike_71 ?_
      refine tv_iload C dX8_mixUnlike_72 0 rfl ?_
      refine tv_iadd C dX8_mixUnlike_74 ?_
      refine tv_iald (f := (s 17)) (v := (s 17 ((3 * i) + 1))) C 12 (by decide) rfl ((3 * i) + 1) (tn_add (tn_mul (tn_l 3) (rfl : nI i = nI i)) (tn_l 1)) (show ((3 * i) + 1) < 12 by omega) (by decide) rfl dX8_mixUnlike_75 ?_
      refine tv_imul C dX8_mixUnlike_76 ?_
      refine tv_iadd C dX8_mixUnlike_77 ?_
      refine tv_istore (lv' := [(5, .int ((0 + ((sp_cm (r 5 0) (r 6 0) 0 0 0 (s 5 0) 0) * (s 17 ((3 * i) + 0)))) + ((sp_cm (r 5 0) (r 6 1) 1 0 0 (s 5 0) 0) * (s 17 ((3 * i) + 1))))), (6, .int 1), (4, .int 0), (0, .ref (tv_ad c 0)), (1, .int p0), (2, .int (sp_mu s (r 5 0) (r 6) j i)), (3, .int (nI i))]) C dX8_mixUnlike_78 (by decide) rfl ?_
      refine tv_iinc (v := 2) (lv' := [(6, .int 2), (5, .int ((0 + ((sp_cm (r 5 0) (r 6 0) 0 0 0 (s 5 0) 0) * (s 17 ((3 * i) + 0)))) + ((sp_cm (r 5 0) (r 6 1) 1 0 0 (s 5 0) 0) * (s 17 ((3 * i) + 1))))), (4, .int 0), (0, .ref (tv_ad c 0)), (1, .int p0), (2, .int (sp_mu s (r 5 0) (r 6) j i)), (3, .int (nI i))]) C dX8_mixUnlike_80 1 rfl (by decide) (by decide) rfl ?_
      refine tv_goto C 27 dX8_mixUnlike_83 (by decide) ?_
      refine tv_iload C dX8_mixUnlike_27 0 rfl ?_
      refine tv_iconst (v := 3) C dX8_mixUnlike_29 (by decide) ?_
      refine tv_icmp_ge C 86 dX8_mixUnlike_30 (by decide) (fun c_10 => absurd c_10 (by decide)) (fun c_10 => ?_)
      refine tv_iload C dX8_mixUnlike_33 1 rfl ?_
      refine tv_aload_n C dX8_mixUnlike_35 rfl 3 rfl ?_
      refine tv_aload_n C dX8_mixUnlike_36 rfl 3 rfl ?_
      refine tv_get (ci := 8) (Cn := RX8) (T := TX8) (Nf := 35) (v := .int (r 5 0)) C 0 (by decide) rfl rfl in_X8_mixUnlike_X8 25 (by decide) lk_X8_mixUnlike_168 rfl dX8_mixUnlike_37 ?_
      refine tv_aload_n C dX8_mixUnlike_40 rfl 3 rfl ?_
      refine tv_get (ci := 8) (Cn := RX8) (T := TX8) (Nf := 35) (v := .ref (tv_ad c 14)) C 0 (by decide) rfl rfl in_X8_mixUnlike_X8 26 (by decide) lk_X8_mixUnlike_50 rfl dX8_mixUnlike_41 ?_
      refine tv_iload C dX8_mixUnlike_44 0 rfl ?_
      refine tv_iald (f := (r 6)) (v := (r 6 2)) C 14 (by decide) rfl 2 (tn_l 2) (show 2 < 3 by omega) (by decide) rfl dX8_mixUnlike_46 ?_
      refine tv_iload C dX8_mixUnlike_47 0 rfl ?_
      refine tv_iconst (v := 0) C dX8_mixUnlike_49 (by decide) ?_
      refine tv_iconst (v := 0) C dX8_mixUnlike_50 (by decide) ?_
      refine tv_iload C dX8_mixUnlike_51 2 rfl ?_
      refine tv_iconst (v := 1) C dX8_mixUnlike_53 (by decide) ?_
      refine tv_icmp_ne C 61 dX8_mixUnlike_54 (by decide) (fun c_11 => ?_) (fun c_11 => absurd c_11 (by decide))
      refine tv_iconst (v := 0) C dX8_mixUnlike_61 (by decide) ?_
      refine tv_calli (As := [.int (r 5 0), .int (r 6 2), .int 2, .int 0, .int 0, .int 0]) (rest := [.int ((0 + ((sp_cm (r 5 0) (r 6 0) 0 0 0 (s 5 0) 0) * (s 17 ((3 * i) + 0)))) + ((sp_cm (r 5 0) (r 6 1) 1 0 0 (s 5 0) 0) * (s 17 ((3 * i) + 1))))]) (ci := 8) (cn := RX8) (T := TX8) (Nf := 35) C 0 (kX8_comes c s r  (r 5 0) (r 6 2) 2 0 0 0 ) gX8_mixUnlike_X8_comes rfl yd_X8_comes ⟨rfl, rfl⟩ (by decide) (by decide) rfl rfl rfl rfl (Nat.le_of_ble_eq_true rfl) dX8_mixUnlike_62 (fun q_12 u_12 z_12 => ?_)
      obtain ⟨rfl, rfl⟩ := z_12
      refine tv_aload_n C dX8_mixUnlike_65 rfl 3 rfl ?_
      refine tv_get (ci := 8) (Cn := RX8) (T := TX8) (Nf := 35) (v := .ref (tv_ad c 12)) C 0 (by decide) rfl rfl in_X8_mixUnlike_X8 23 (by decide) lk_X8_mixUnlike_44 rfl dX8_mixUnlike_66 ?_
      refine tv_iconst (v := 3) C dX8_mixUnlike_69 (by decide) ?_
      refine tv_iload_n C dX8_mixUnlike_70 rfl 6 rfl ?_
      refine tv_imul C dX8_mixUnlike_71 ?_
      refine tv_iload C dX8_mixUnlike_72 0 rfl ?_
      refine tv_iadd C dX8_mixUnlike_74 ?_
      refine tv_iald (f := (s 17)) (v := (s 17 ((3 * i) + 2))) C 12 (by decide) rfl ((3 * i) + 2) (tn_add (tn_mul (tn_l 3) (rfl : nI i = nI i)) (tn_l 2)) (show ((3 * i) + 2) < 12 by omega) (by decide) rfl dX8_mixUnlike_75 ?_
      refine tv_imul C dX8_mixUnlike_76 ?_
      refine tv_iadd C dX8_mixUnlike_77 ?_
      refine tv_istore (lv' := [(5, .int (((0 + ((sp_cm (r 5 0) (r 6 0) 0 0 0 (s 5 0) 0) * (s 17 ((3 * i) + 0)))) + ((sp_cm (r 5 0) (r 6 1) 1 0 0 (s 5 0) 0) * (s 17 ((3 * i) + 1)))) + ((sp_cm (r 5 0) (r 6 2) 2 0 0 (s 5 0) 0) * (s 17 ((3 * i) + 2))))), (6, .int 2), (4, .int 0), (0, .ref (tv_ad c 0)), (1, .int p0), (2, .int (sp_mu s (r 5 0) (r 6) j i)), (3, .int (nI i))]) C dX8_mixUnlike_78 (by decide) rfl ?_
      refine tv_iinc (v := 3) (lv' := [(6, .int 3), (5, .int (((0 + ((sp_cm (r 5 0) (r 6 0) 0 0 0 (s 5 0) 0) * (s 17 ((3 * i) + 0)))) + ((sp_cm (r 5 0) (r 6 1) 1 0 0 (s 5 0) 0) * (s 17 ((3 * i) + 1)))) + ((sp_cm (r 5 0) (r 6 2) 2 0 0 (s 5 0) 0) * (s 17 ((3 * i) + 2))))), (4, .int 0), (0, .ref (tv_ad c 0)), (1, .int p0), (2, .int (sp_mu s (r 5 0) (r 6) j i)), (3, .int (nI i))]) C dX8_mixUnlike_80 1 rfl (by decide) (by decide) rfl ?_
      refine tv_goto C 27 dX8_mixUnlike_83 (by decide) ?_
      refine tv_iload C dX8_mixUnlike_27 0 rfl ?_
      refine tv_iconst (v := 3) C dX8_mixUnlike_29 (by decide) ?_
      refine tv_icmp_ge C 86 dX8_mixUnlike_30 (by decide) (fun c_13 => ?_) (fun c_13 => absurd (by decide) c_13)
      refine tv_iload C dX8_mixUnlike_86 1 rfl ?_
      refine tv_aload_n C dX8_mixUnlike_88 rfl 3 rfl ?_
      refine tv_iload_n C dX8_mixUnlike_89 rfl 4 rfl ?_
      refine tv_iload_n C dX8_mixUnlike_90 rfl 6 rfl ?_
      refine tv_iload C dX8_mixUnlike_91 2 rfl ?_
      refine tv_iconst (v := 1) C dX8_mixUnlike_93 (by decide) ?_
      refine tv_icmp_ne C 101 dX8_mixUnlike_94 (by decide) (fun c_14 => ?_) (fun c_14 => absurd c_14 (by decide))
      refine tv_iconst (v := 0) C dX8_mixUnlike_101 (by decide) ?_
      refine tv_calli (As := [.int p0, .int (nI i), .int 0]) (rest := [.int (((0 + ((sp_cm (r 5 0) (r 6 0) 0 0 0 (s 5 0) 0) * (s 17 ((3 * i) + 0)))) + ((sp_cm (r 5 0) (r 6 1) 1 0 0 (s 5 0) 0) * (s 17 ((3 * i) + 1)))) + ((sp_cm (r 5 0) (r 6 2) 2 0 0 (s 5 0) 0) * (s 17 ((3 * i) + 2))))]) (ci := 8) (cn := RX8) (T := TX8) (Nf := 35) C 0 (kX8_lookNow c s r j i p0 (nI i) 0 e_p0 (by omega) (rfl : nI i = nI i) (by omega) hc) gX8_mixUnlike_X8_lookNow rfl yd_X8_lookNow ⟨rfl, rfl⟩ (by decide) (by decide) rfl rfl rfl rfl (Nat.le_of_ble_eq_true rfl) dX8_mixUnlike_102 (fun q_15 u_15 z_15 => ?_)
      obtain ⟨rfl, rfl⟩ := z_15
      refine tv_isub C dX8_mixUnlike_105 ?_
      refine tv_callis (As := [.int ((((0 + ((sp_cm (r 5 0) (r 6 0) 0 0 0 (s 5 0) 0) * (s 17 ((3 * i) + 0)))) + ((sp_cm (r 5 0) (r 6 1) 1 0 0 (s 5 0) 0) * (s 17 ((3 * i) + 1)))) + ((sp_cm (r 5 0) (r 6 2) 2 0 0 (s 5 0) 0) * (s 17 ((3 * i) + 2)))) - (sp_ln s j i 0))]) (rest := []) C (kX8_size c s r  ((((0 + ((sp_cm (r 5 0) (r 6 0) 0 0 0 (s 5 0) 0) * (s 17 ((3 * i) + 0)))) + ((sp_cm (r 5 0) (r 6 1) 1 0 0 (s 5 0) 0) * (s 17 ((3 * i) + 1)))) + ((sp_cm (r 5 0) (r 6 2) 2 0 0 (s 5 0) 0) * (s 17 ((3 * i) + 2)))) - (sp_ln s j i 0)) ) gX8_mixUnlike_X8_size rfl yd_X8_size ⟨rfl, rfl⟩ (by decide) rfl rfl (Nat.le_of_ble_eq_true rfl) dX8_mixUnlike_106 (fun q_16 u_16 z_16 => ?_)
      obtain ⟨rfl, rfl⟩ := z_16
      refine tv_istore (lv' := [(6, .int (sp_ab ((((0 + ((sp_cm (r 5 0) (r 6 0) 0 0 0 (s 5 0) 0) * (s 17 ((3 * i) + 0)))) + ((sp_cm (r 5 0) (r 6 1) 1 0 0 (s 5 0) 0) * (s 17 ((3 * i) + 1)))) + ((sp_cm (r 5 0) (r 6 2) 2 0 0 (s 5 0) 0) * (s 17 ((3 * i) + 2)))) - (sp_ln s j i 0)))), (5, .int (((0 + ((sp_cm (r 5 0) (r 6 0) 0 0 0 (s 5 0) 0) * (s 17 ((3 * i) + 0)))) + ((sp_cm (r 5 0) (r 6 1) 1 0 0 (s 5 0) 0) * (s 17 ((3 * i) + 1)))) + ((sp_cm (r 5 0) (r 6 2) 2 0 0 (s 5 0) 0) * (s 17 ((3 * i) + 2))))), (4, .int 0), (0, .ref (tv_ad c 0)), (1, .int p0), (2, .int (sp_mu s (r 5 0) (r 6) j i)), (3, .int (nI i))]) C dX8_mixUnlike_109 (by decide) rfl ?_
      refine tv_iload C dX8_mixUnlike_111 0 rfl ?_
      refine tv_iload_n C dX8_mixUnlike_113 rfl 5 rfl ?_
      refine tv_icmp_le C 122 dX8_mixUnlike_114 (by decide) (fun c_17 => ?_) (fun c_17 => ?_)
      · skip
        refine tv_iload_n C dX8_mixUnlike_122 rfl 5 rfl ?_
        refine tv_istore_n (lv' := [(2, .int (sp_mu s (r 5 0) (r 6) j i)), (6, .int (sp_ab ((((0 + ((sp_cm (r 5 0) (r 6 0) 0 0 0 (s 5 0) 0) * (s 17 ((3 * i) + 0)))) + ((sp_cm (r 5 0) (r 6 1) 1 0 0 (s 5 0) 0) * (s 17 ((3 * i) + 1)))) + ((sp_cm (r 5 0) (r 6 2) 2 0 0 (s 5 0) 0) * (s 17 ((3 * i) + 2)))) - (sp_ln s j i 0)))), (5, .int (((0 + ((sp_cm (r 5 0) (r 6 0) 0 0 0 (s 5 0) 0) * (s 17 ((3 * i) + 0)))) + ((sp_cm (r 5 0) (r 6 1) 1 0 0 (s 5 0) 0) * (s 17 ((3 * i) + 1)))) + ((sp_cm (r 5 0) (r 6 2) 2 0 0 (s 5 0) 0) * (s 17 ((3 * i) + 2))))), (4, .int 0), (0, .ref (tv_ad c 0)), (1, .int p0), (3, .int (nI i))]) C dX8_mixUnlike_123 rfl (by decide) rfl ?_
        refine tv_iinc (v := 1) (lv' := [(4, .int 1), (2, .int (sp_mu s (r 5 0) (r 6) j i)), (6, .int (sp_ab ((((0 + ((sp_cm (r 5 0) (r 6 0) 0 0 0 (s 5 0) 0) * (s 17 ((3 * i) + 0)))) + ((sp_cm (r 5 0) (r 6 1) 1 0 0 (s 5 0) 0) * (s 17 ((3 * i) + 1)))) + ((sp_cm (r 5 0) (r 6 2) 2 0 0 (s 5 0) 0) * (s 17 ((3 * i) + 2)))) - (sp_ln s j i 0)))), (5, .int (((0 + ((sp_cm (r 5 0) (r 6 0) 0 0 0 (s 5 0) 0) * (s 17 ((3 * i) + 0)))) + ((sp_cm (r 5 0) (r 6 1) 1 0 0 (s 5 0) 0) * (s 17 ((3 * i) + 1)))) + ((sp_cm (r 5 0) (r 6 2) 2 0 0 (s 5 0) 0) * (s 17 ((3 * i) + 2))))), (0, .ref (tv_ad c 0)), (1, .int p0), (3, .int (nI i))]) C dX8_mixUnlike_124 3 rfl (by decide) (by decide) rfl ?_
        refine tv_goto C 15 dX8_mixUnlike_127 (by decide) ?_
        refine tv_iload C dX8_mixUnlike_15 0 rfl ?_
        refine tv_iconst (v := 2) C dX8_mixUnlike_17 (by decide) ?_
        refine tv_icmp_ge C 130 dX8_mixUnlike_18 (by decide) (fun c_18 => absurd c_18 (by decide)) (fun c_18 => ?_)
        refine tv_iconst (v := 0) C dX8_mixUnlike_21 (by decide) ?_
        refine tv_istore (lv' := [(5, .int 0), (4, .int 1), (2, .int (sp_mu s (r 5 0) (r 6) j i)), (6, .int (sp_ab ((((0 + ((sp_cm (r 5 0) (r 6 0) 0 0 0 (s 5 0) 0) * (s 17 ((3 * i) + 0)))) + ((sp_cm (r 5 0) (r 6 1) 1 0 0 (s 5 0) 0) * (s 17 ((3 * i) + 1)))) + ((sp_cm (r 5 0) (r 6 2) 2 0 0 (s 5 0) 0) * (s 17 ((3 * i) + 2)))) - (sp_ln s j i 0)))), (0, .ref (tv_ad c 0)), (1, .int p0), (3, .int (nI i))]) C dX8_mixUnlike_22 (by decide) rfl ?_
        refine tv_iconst (v := 0) C dX8_mixUnlike_24 (by decide) ?_
        refine tv_istore (lv' := [(6, .int 0), (5, .int 0), (4, .int 1), (2, .int (sp_mu s (r 5 0) (r 6) j i)), (0, .ref (tv_ad c 0)), (1, .int p0), (3, .int (nI i))]) C dX8_mixUnlike_25 (by decide) rfl ?_
        refine tv_iload C dX8_mixUnlike_27 0 rfl ?_
        refine tv_iconst (v := 3) C dX8_mixUnlike_29 (by decide) ?_
        refine tv_icmp_ge C 86 dX8_mixUnlike_30 (by decide) (fun c_19 => absurd c_19 (by decide)) (fun c_19 => ?_)
        refine tv_iload C dX8_mixUnlike_33 1 rfl ?_
        refine tv_aload_n C dX8_mixUnlike_35 rfl 4 rfl ?_
        refine tv_aload_n C dX8_mixUnlike_36 rfl 4 rfl ?_
        refine tv_get (ci := 8) (Cn := RX8) (T := TX8) (Nf := 35) (v := .int (r 5 0)) C 0 (by decide) rfl rfl in_X8_mixUnlike_X8 25 (by decide) lk_X8_mixUnlike_168 rfl dX8_mixUnlike_37 ?_
        refine tv_aload_n C dX8_mixUnlike_40 rfl 4 rfl ?_
        refine tv_get (ci := 8) (Cn := RX8) (T := TX8) (Nf := 35) (v := .ref (tv_ad c 14)) C 0 (by decide) rfl rfl in_X8_mixUnlike_X8 26 (by decide) lk_X8_mixUnlike_50 rfl dX8_mixUnlike_41 ?_
        refine tv_iload C dX8_mixUnlike_44 0 rfl ?_
        refine tv_iald (f := (r 6)) (v := (r 6 0)) C 14 (by decide) rfl 0 (tn_l 0) (show 0 < 3 by omega) (by decide) rfl dX8_mixUnlike_46 ?_
        refine tv_iload C dX8_mixUnlike_47 0 rfl ?_
        refine tv_iconst (v := 0) C dX8_mixUnlike_49 (by decide) ?_
        refine tv_iconst (v := 0) C dX8_mixUnlike_50 (by decide) ?_
        refine tv_iload C dX8_mixUnlike_51 2 rfl ?_
        refine tv_iconst (v := 1) C dX8_mixUnlike_53 (by decide) ?_
        refine tv_icmp_ne C 61 dX8_mixUnlike_54 (by decide) (fun c_20 => absurd (by decide) c_20) (fun c_20 => ?_)
        refine tv_iconst (v := 1) C dX8_mixUnlike_57 (by decide) ?_
        refine tv_goto C 62 dX8_mixUnlike_58 (by decide) ?_
        refine tv_calli (As := [.int (r 5 0), .int (r 6 0), .int 0, .int 0, .int 0, .int 1]) (rest := [.int 0]) (ci := 8) (cn := RX8) (T := TX8) (Nf := 35) C 0 (kX8_comes c s r  (r 5 0) (r 6 0) 0 0 0 1 ) gX8_mixUnlike_X8_comes rfl yd_X8_comes ⟨rfl, rfl⟩ (by decide) (by decide) rfl rfl rfl rfl (Nat.le_of_ble_eq_true rfl) dX8_mixUnlike_62 (fun q_21 u_21 z_21 => ?_)
        obtain ⟨rfl, rfl⟩ := z_21
        refine tv_aload_n C dX8_mixUnlike_65 rfl 4 rfl ?_
        refine tv_get (ci := 8) (Cn := RX8) (T := TX8) (Nf := 35) (v := .ref (tv_ad c 12)) C 0 (by decide) rfl rfl in_X8_mixUnlike_X8 23 (by decide) lk_X8_mixUnlike_44 rfl dX8_mixUnlike_66 ?_
        refine tv_iconst (v := 3) C dX8_mixUnlike_69 (by decide) ?_
        refine tv_iload_n C dX8_mixUnlike_70 rfl 6 rfl ?_
        refine tv_imul C dX8_mixUnlike_71 ?_
        refine tv_iload C dX8_mixUnlike_72 0 rfl ?_
        refine tv_iadd C dX8_mixUnlike_74 ?_
        refine tv_iald (f := (s 17)) (v := (s 17 ((3 * i) + 0))) C 12 (by decide) rfl ((3 * i) + 0) (tn_add (tn_mul (tn_l 3) (rfl : nI i = nI i)) (tn_l 0)) (show ((3 * i) + 0) < 12 by omega) (by decide) rfl dX8_mixUnlike_75 ?_
        refine tv_imul C dX8_mixUnlike_76 ?_
        refine tv_iadd C dX8_mixUnlike_77 ?_
        refine tv_istore (lv' := [(5, .int (0 + ((sp_cm (r 5 0) (r 6 0) 0 0 0 (s 5 0) 1) * (s 17 ((3 * i) + 0))))), (6, .int 0), (4, .int 1), (2, .int (sp_mu s (r 5 0) (r 6) j i)), (0, .ref (tv_ad c 0)), (1, .int p0), (3, .int (nI i))]) C dX8_mixUnlike_78 (by decide) rfl ?_
        refine tv_iinc (v := 1) (lv' := [(6, .int 1), (5, .int (0 + ((sp_cm (r 5 0) (r 6 0) 0 0 0 (s 5 0) 1) * (s 17 ((3 * i) + 0))))), (4, .int 1), (2, .int (sp_mu s (r 5 0) (r 6) j i)), (0, .ref (tv_ad c 0)), (1, .int p0), (3, .int (nI i))]) C dX8_mixUnlike_80 1 rfl (by decide) (by decide) rfl ?_
        refine tv_goto C 27 dX8_mixUnlike_83 (by decide) ?_
        refine tv_iload C dX8_mixUnlike_27 0 rfl ?_
        refine tv_iconst (v := 3) C dX8_mixUnlike_29 (by decide) ?_
        refine tv_icmp_ge C 86 dX8_mixUnlike_30 (by decide) (fun c_22 => absurd c_22 (by decide)) (fun c_22 => ?_)
        refine tv_iload C dX8_mixUnlike_33 1 rfl ?_
        refine tv_aload_n C dX8_mixUnlike_35 rfl 4 rfl ?_
        refine tv_aload_n C dX8_mixUnlike_36 rfl 4 rfl ?_
        refine tv_get (ci := 8) (Cn := RX8) (T := TX8) (Nf := 35) (v := .int (r 5 0)) C 0 (by decide) rfl rfl in_X8_mixUnlike_X8 25 (by decide) lk_X8_mixUnlike_168 rfl dX8_mixUnlike_37 ?_
        refine tv_aload_n C dX8_mixUnlike_40 rfl 4 rfl ?_
        refine tv_get (ci := 8) (Cn := RX8) (T := TX8) (Nf := 35) (v := .ref (tv_ad c 14)) C 0 (by decide) rfl rfl in_X8_mixUnlike_X8 26 (by decide) lk_X8_mixUnlike_50 rfl dX8_mixUnlike_41 ?_
        refine tv_iload C dX8_mixUnlike_44 0 rfl ?_
        refine tv_iald (f := (r 6)) (v := (r 6 1)) C 14 (by decide) rfl 1 (tn_l 1) (show 1 < 3 by omega) (by decide) rfl dX8_mixUnlike_46 ?_
        refine tv_iload C dX8_mixUnlike_47 0 rfl ?_
        refine tv_iconst (v := 0) C dX8_mixUnlike_49 (by decide) ?_
        refine tv_iconst (v := 0) C dX8_mixUnlike_50 (by decide) ?_
        refine tv_iload C dX8_mixUnlike_51 2 rfl ?_
        refine tv_iconst (v := 1) C dX8_mixUnlike_53 (by decide) ?_
        refine tv_icmp_ne C 61 dX8_mixUnlike_54 (by decide) (fun c_23 => absurd (by decide) c_23) (fun c_23 => ?_)
        refine tv_iconst (v := 1) C dX8_mixUnlike_57 (by decide) ?_
        refine tv_goto C 62 dX8_mixUnlike_58 (by decide) ?_
        refine tv_calli (As := [.int (r 5 0), .int (r 6 1), .int 1, .int 0, .int 0, .int 1]) (rest := [.int (0 + ((sp_cm (r 5 0) (r 6 0) 0 0 0 (s 5 0) 1) * (s 17 ((3 * i) + 0))))]) (ci := 8) (cn := RX8) (T := TX8) (Nf := 35) C 0 (kX8_comes c s r  (r 5 0) (r 6 1) 1 0 0 1 ) gX8_mixUnlike_X8_comes rfl yd_X8_comes ⟨rfl, rfl⟩ (by decide) (by decide) rfl rfl rfl rfl (Nat.le_of_ble_eq_true rfl) dX8_mixUnlike_62 (fun q_24 u_24 z_24 => ?_)
        obtain ⟨rfl, rfl⟩ := z_24
        refine tv_aload_n C dX8_mixUnlike_65 rfl 4 rfl ?_
        refine tv_get (ci := 8) (Cn := RX8) (T := TX8) (Nf := 35) (v := .ref (tv_ad c 12)) C 0 (by decide) rfl rfl in_X8_mixUnlike_X8 23 (by decide) lk_X8_mixUnlike_44 rfl dX8_mixUnlike_66 ?_
        refine tv_iconst (v := 3) C dX8_mixUnlike_69 (by decide) ?_
        refine tv_iload_n C dX8_mixUnlike_70 rfl 6 rfl ?_
        refine tv_imul C dX8_mixUnlike_71 ?_
        refine tv_iload C dX8_mixUnlike_72 0 rfl ?_
        refine tv_iadd C dX8_mixUnlike_74 ?_
        refine tv_iald (f := (s 17)) (v := (s 17 ((3 * i) + 1))) C 12 (by decide) rfl ((3 * i) + 1) (tn_add (tn_mul (tn_l 3) (rfl : nI i = nI i)) (tn_l 1)) (show ((3 * i) + 1) < 12 by omega) (by decide) rfl dX8_mixUnlike_75 ?_
        refine tv_imul C dX8_mixUnlike_76 ?_
        refine tv_iadd C dX8_mixUnlike_77 ?_
        refine tv_istore (lv' := [(5, .int ((0 + ((sp_cm (r 5 0) (r 6 0) 0 0 0 (s 5 0) 1) * (s 17 ((3 * i) + 0)))) + ((sp_cm (r 5 0) (r 6 1) 1 0 0 (s 5 0) 1) * (s 17 ((3 * i) + 1))))), (6, .int 1), (4, .int 1), (2, .int (sp_mu s (r 5 0) (r 6) j i)), (0, .ref (tv_ad c 0)), (1, .int p0), (3, .int (nI i))]) C dX8_mixUnlike_78 (by decide) rfl ?_
        refine tv_iinc (v := 2) (lv' := [(6, .int 2), (5, .int ((0 + ((sp_cm (r 5 0) (r 6 0) 0 0 0 (s 5 0) 1) * (s 17 ((3 * i) + 0)))) + ((sp_cm (r 5 0) (r 6 1) 1 0 0 (s 5 0) 1) * (s 17 ((3 * i) + 1))))), (4, .int 1), (2, .int (sp_mu s (r 5 0) (r 6) j i)), (0, .ref (tv_ad c 0)), (1, .int p0), (3, .int (nI i))]) C dX8_mixUnlike_80 1 rfl (by decide) (by decide) rfl ?_
        refine tv_goto C 27 dX8_mixUnlike_83 (by decide) ?_
        refine tv_iload C dX8_mixUnlike_27 0 rfl ?_
        refine tv_iconst (v := 3) C dX8_mixUnlike_29 (by decide) ?_
        refine tv_icmp_ge C 86 dX8_mixUnlike_30 (by decide) (fun c_25 => absurd c_25 (by decide)) (fun c_25 => ?_)
        refine tv_iload C dX8_mixUnlike_33 1 rfl ?_
        refine tv_aload_n C dX8_mixUnlike_35 rfl 4 rfl ?_
        refine tv_aload_n C dX8_mixUnlike_36 rfl 4 rfl ?_
        refine tv_get (ci := 8) (Cn := RX8) (T := TX8) (Nf := 35) (v := .int (r 5 0)) C 0 (by decide) rfl rfl in_X8_mixUnlike_X8 25 (by decide) lk_X8_mixUnlike_168 rfl dX8_mixUnlike_37 ?_
        refine tv_aload_n C dX8_mixUnlike_40 rfl 4 rfl ?_
        refine tv_get (ci := 8) (Cn := RX8) (T := TX8) (Nf := 35) (v := .ref (tv_ad c 14)) C 0 (by decide) rfl rfl in_X8_mixUnlike_X8 26 (by decide) lk_X8_mixUnlike_50 rfl dX8_mixUnlike_41 ?_
        refine tv_iload C dX8_mixUnlike_44 0 rfl ?_
        refine tv_iald (f := (r 6)) (v := (r 6 2)) C 14 (by decide) rfl 2 (tn_l 2) (show 2 < 3 by omega) (by decide) rfl dX8_mixUnlike_46 ?_
        refine tv_iload C dX8_mixUnlike_47 0 rfl ?_
        refine tv_iconst (v := 0) C dX8_mixUnlike_49 (by decide) ?_
        refine tv_iconst (v := 0) C dX8_mixUnlike_50 (by decide) ?_
        refine tv_iload C dX8_mixUnlike_51 2 rfl ?_
        refine tv_iconst (v := 1) C dX8_mixUnlike_53 (by decide) ?_
        refine tv_icmp_ne C 61 dX8_mixUnlike_54 (by decide) (fun c_26 => absurd (by decide) c_26) (fun c_26 => ?_)
        refine tv_iconst (v := 1) C dX8_mixUnlike_57 (by decide) ?_
        refine tv_goto C 62 dX8_mixUnlike_58 (by decide) ?_
        refine tv_calli (As := [.int (r 5 0), .int (r 6 2), .int 2, .int 0, .int 0, .int 1]) (rest := [.int ((0 + ((sp_cm (r 5 0) (r 6 0) 0 0 0 (s 5 0) 1) * (s 17 ((3 * i) + 0)))) + ((sp_cm (r 5 0) (r 6 1) 1 0 0 (s 5 0) 1) * (s 17 ((3 * i) + 1))))]) (ci := 8) (cn := RX8) (T := TX8) (Nf := 35) C 0 (kX8_comes c s r  (r 5 0) (r 6 2) 2 0 0 1 ) gX8_mixUnlike_X8_comes rfl yd_X8_comes ⟨rfl, rfl⟩ (by decide) (by decide) rfl rfl rfl rfl (Nat.le_of_ble_eq_true rfl) dX8_mixUnlike_62 (fun q_27 u_27 z_27 => ?_)
        obtain ⟨rfl, rfl⟩ := z_27
        refine tv_aload_n C dX8_mixUnlike_65 rfl 4 rfl ?_
        refine tv_get (ci := 8) (Cn := RX8) (T := TX8) (Nf := 35) (v := .ref (tv_ad c 12)) C 0 (by decide) rfl rfl in_X8_mixUnlike_X8 23 (by decide) lk_X8_mixUnlike_44 rfl dX8_mixUnlike_66 ?_
        refine tv_iconst (v := 3) C dX8_mixUnlike_69 (by decide) ?_
        refine tv_iload_n C dX8_mixUnlike_70 rfl 6 rfl ?_
        refine tv_imul C dX8_mixUnlike_71 ?_
        refine tv_iload C dX8_mixUnlike_72 0 rfl ?_
        refine tv_iadd C dX8_mixUnlike_74 ?_
        refine tv_iald (f := (s 17)) (v := (s 17 ((3 * i) + 2))) C 12 (by decide) rfl ((3 * i) + 2) (tn_add (tn_mul (tn_l 3) (rfl : nI i = nI i)) (tn_l 2)) (show ((3 * i) + 2) < 12 by omega) (by decide) rfl dX8_mixUnlike_75 ?_
        refine tv_imul C dX8_mixUnlike_76 ?_
        refine tv_iadd C dX8_mixUnlike_77 ?_
        refine tv_istore (lv' := [(5, .int (((0 + ((sp_cm (r 5 0) (r 6 0) 0 0 0 (s 5 0) 1) * (s 17 ((3 * i) + 0)))) + ((sp_cm (r 5 0) (r 6 1) 1 0 0 (s 5 0) 1) * (s 17 ((3 * i) + 1)))) + ((sp_cm (r 5 0) (r 6 2) 2 0 0 (s 5 0) 1) * (s 17 ((3 * i) + 2))))), (6, .int 2), (4, .int 1), (2, .int (sp_mu s (r 5 0) (r 6) j i)), (0, .ref (tv_ad c 0)), (1, .int p0), (3, .int (nI i))]) C dX8_mixUnlike_78 (by decide) rfl ?_
        refine tv_iinc (v := 3) (lv' := [(6, .int 3), (5, .int (((0 + ((sp_cm (r 5 0) (r 6 0) 0 0 0 (s 5 0) 1) * (s 17 ((3 * i) + 0)))) + ((sp_cm (r 5 0) (r 6 1) 1 0 0 (s 5 0) 1) * (s 17 ((3 * i) + 1)))) + ((sp_cm (r 5 0) (r 6 2) 2 0 0 (s 5 0) 1) * (s 17 ((3 * i) + 2))))), (4, .int 1), (2, .int (sp_mu s (r 5 0) (r 6) j i)), (0, .ref (tv_ad c 0)), (1, .int p0), (3, .int (nI i))]) C dX8_mixUnlike_80 1 rfl (by decide) (by decide) rfl ?_
        refine tv_goto C 27 dX8_mixUnlike_83 (by decide) ?_
        refine tv_iload C dX8_mixUnlike_27 0 rfl ?_
        refine tv_iconst (v := 3) C dX8_mixUnlike_29 (by decide) ?_
        refine tv_icmp_ge C 86 dX8_mixUnlike_30 (by decide) (fun c_28 => ?_) (fun c_28 => absurd (by decide) c_28)
        refine tv_iload C dX8_mixUnlike_86 1 rfl ?_
        refine tv_aload_n C dX8_mixUnlike_88 rfl 4 rfl ?_
        refine tv_iload_n C dX8_mixUnlike_89 rfl 5 rfl ?_
        refine tv_iload_n C dX8_mixUnlike_90 rfl 6 rfl ?_
        refine tv_iload C dX8_mixUnlike_91 2 rfl ?_
        refine tv_iconst (v := 1) C dX8_mixUnlike_93 (by decide) ?_
        refine tv_icmp_ne C 101 dX8_mixUnlike_94 (by decide) (fun c_29 => absurd (by decide) c_29) (fun c_29 => ?_)
        refine tv_iconst (v := 1) C dX8_mixUnlike_97 (by decide) ?_
        refine tv_goto C 102 dX8_mixUnlike_98 (by decide) ?_
        refine tv_calli (As := [.int p0, .int (nI i), .int 1]) (rest := [.int (((0 + ((sp_cm (r 5 0) (r 6 0) 0 0 0 (s 5 0) 1) * (s 17 ((3 * i) + 0)))) + ((sp_cm (r 5 0) (r 6 1) 1 0 0 (s 5 0) 1) * (s 17 ((3 * i) + 1)))) + ((sp_cm (r 5 0) (r 6 2) 2 0 0 (s 5 0) 1) * (s 17 ((3 * i) + 2))))]) (ci := 8) (cn := RX8) (T := TX8) (Nf := 35) C 0 (kX8_lookNow c s r j i p0 (nI i) 1 e_p0 (by omega) (rfl : nI i = nI i) (by omega) hc) gX8_mixUnlike_X8_lookNow rfl yd_X8_lookNow ⟨rfl, rfl⟩ (by decide) (by decide) rfl rfl rfl rfl (Nat.le_of_ble_eq_true rfl) dX8_mixUnlike_102 (fun q_30 u_30 z_30 => ?_)
        obtain ⟨rfl, rfl⟩ := z_30
        refine tv_isub C dX8_mixUnlike_105 ?_
        refine tv_callis (As := [.int ((((0 + ((sp_cm (r 5 0) (r 6 0) 0 0 0 (s 5 0) 1) * (s 17 ((3 * i) + 0)))) + ((sp_cm (r 5 0) (r 6 1) 1 0 0 (s 5 0) 1) * (s 17 ((3 * i) + 1)))) + ((sp_cm (r 5 0) (r 6 2) 2 0 0 (s 5 0) 1) * (s 17 ((3 * i) + 2)))) - (sp_ln s j i 1))]) (rest := []) C (kX8_size c s r  ((((0 + ((sp_cm (r 5 0) (r 6 0) 0 0 0 (s 5 0) 1) * (s 17 ((3 * i) + 0)))) + ((sp_cm (r 5 0) (r 6 1) 1 0 0 (s 5 0) 1) * (s 17 ((3 * i) + 1)))) + ((sp_cm (r 5 0) (r 6 2) 2 0 0 (s 5 0) 1) * (s 17 ((3 * i) + 2)))) - (sp_ln s j i 1)) ) gX8_mixUnlike_X8_size rfl yd_X8_size ⟨rfl, rfl⟩ (by decide) rfl rfl (Nat.le_of_ble_eq_true rfl) dX8_mixUnlike_106 (fun q_31 u_31 z_31 => ?_)
        obtain ⟨rfl, rfl⟩ := z_31
        refine tv_istore (lv' := [(6, .int (sp_ab ((((0 + ((sp_cm (r 5 0) (r 6 0) 0 0 0 (s 5 0) 1) * (s 17 ((3 * i) + 0)))) + ((sp_cm (r 5 0) (r 6 1) 1 0 0 (s 5 0) 1) * (s 17 ((3 * i) + 1)))) + ((sp_cm (r 5 0) (r 6 2) 2 0 0 (s 5 0) 1) * (s 17 ((3 * i) + 2)))) - (sp_ln s j i 1)))), (5, .int (((0 + ((sp_cm (r 5 0) (r 6 0) 0 0 0 (s 5 0) 1) * (s 17 ((3 * i) + 0)))) + ((sp_cm (r 5 0) (r 6 1) 1 0 0 (s 5 0) 1) * (s 17 ((3 * i) + 1)))) + ((sp_cm (r 5 0) (r 6 2) 2 0 0 (s 5 0) 1) * (s 17 ((3 * i) + 2))))), (4, .int 1), (2, .int (sp_mu s (r 5 0) (r 6) j i)), (0, .ref (tv_ad c 0)), (1, .int p0), (3, .int (nI i))]) C dX8_mixUnlike_109 (by decide) rfl ?_
        refine tv_iload C dX8_mixUnlike_111 0 rfl ?_
        refine tv_iload_n C dX8_mixUnlike_113 rfl 3 rfl ?_
        refine tv_icmp_le C 122 dX8_mixUnlike_114 (by decide) (fun c_32 => ?_) (fun c_32 => ?_)
        · skip
          refine tv_iload_n C dX8_mixUnlike_122 rfl 3 rfl ?_
          refine tv_istore_n (lv' := [(2, .int (sp_mu s (r 5 0) (r 6) j i)), (6, .int (sp_ab ((((0 + ((sp_cm (r 5 0) (r 6 0) 0 0 0 (s 5 0) 1) * (s 17 ((3 * i) + 0)))) + ((sp_cm (r 5 0) (r 6 1) 1 0 0 (s 5 0) 1) * (s 17 ((3 * i) + 1)))) + ((sp_cm (r 5 0) (r 6 2) 2 0 0 (s 5 0) 1) * (s 17 ((3 * i) + 2)))) - (sp_ln s j i 1)))), (5, .int (((0 + ((sp_cm (r 5 0) (r 6 0) 0 0 0 (s 5 0) 1) * (s 17 ((3 * i) + 0)))) + ((sp_cm (r 5 0) (r 6 1) 1 0 0 (s 5 0) 1) * (s 17 ((3 * i) + 1)))) + ((sp_cm (r 5 0) (r 6 2) 2 0 0 (s 5 0) 1) * (s 17 ((3 * i) + 2))))), (4, .int 1), (0, .ref (tv_ad c 0)), (1, .int p0), (3, .int (nI i))]) C dX8_mixUnlike_123 rfl (by decide) rfl ?_
          refine tv_iinc (v := 2) (lv' := [(4, .int 2), (2, .int (sp_mu s (r 5 0) (r 6) j i)), (6, .int (sp_ab ((((0 + ((sp_cm (r 5 0) (r 6 0) 0 0 0 (s 5 0) 1) * (s 17 ((3 * i) + 0)))) + ((sp_cm (r 5 0) (r 6 1) 1 0 0 (s 5 0) 1) * (s 17 ((3 * i) + 1)))) + ((sp_cm (r 5 0) (r 6 2) 2 0 0 (s 5 0) 1) * (s 17 ((3 * i) + 2)))) - (sp_ln s j i 1)))), (5, .int (((0 + ((sp_cm (r 5 0) (r 6 0) 0 0 0 (s 5 0) 1) * (s 17 ((3 * i) + 0)))) + ((sp_cm (r 5 0) (r 6 1) 1 0 0 (s 5 0) 1) * (s 17 ((3 * i) + 1)))) + ((sp_cm (r 5 0) (r 6 2) 2 0 0 (s 5 0) 1) * (s 17 ((3 * i) + 2))))), (0, .ref (tv_ad c 0)), (1, .int p0), (3, .int (nI i))]) C dX8_mixUnlike_124 3 rfl (by decide) (by decide) rfl ?_
          refine tv_goto C 15 dX8_mixUnlike_127 (by decide) ?_
          refine tv_iload C dX8_mixUnlike_15 0 rfl ?_
          refine tv_iconst (v := 2) C dX8_mixUnlike_17 (by decide) ?_
          refine tv_icmp_ge C 130 dX8_mixUnlike_18 (by decide) (fun c_33 => ?_) (fun c_33 => absurd (by decide) c_33)
          refine tv_iinc (v := ((nI i) + 1)) (lv' := [(3, .int ((nI i) + 1)), (4, .int 2), (2, .int (sp_mu s (r 5 0) (r 6) j i)), (6, .int (sp_ab ((((0 + ((sp_cm (r 5 0) (r 6 0) 0 0 0 (s 5 0) 1) * (s 17 ((3 * i) + 0)))) + ((sp_cm (r 5 0) (r 6 1) 1 0 0 (s 5 0) 1) * (s 17 ((3 * i) + 1)))) + ((sp_cm (r 5 0) (r 6 2) 2 0 0 (s 5 0) 1) * (s 17 ((3 * i) + 2)))) - (sp_ln s j i 1)))), (5, .int (((0 + ((sp_cm (r 5 0) (r 6 0) 0 0 0 (s 5 0) 1) * (s 17 ((3 * i) + 0)))) + ((sp_cm (r 5 0) (r 6 1) 1 0 0 (s 5 0) 1) * (s 17 ((3 * i) + 1)))) + ((sp_cm (r 5 0) (r 6 2) 2 0 0 (s 5 0) 1) * (s 17 ((3 * i) + 2))))), (0, .ref (tv_ad c 0)), (1, .int p0)]) C dX8_mixUnlike_130 6 rfl rfl (by decide) rfl ?_
          refine tv_goto C 4 dX8_mixUnlike_133 (by decide) ?_
          refine tv_lsub [5, 6, 2, 0] rfl ?_
          exact ih4 (i + 1) _ _ (by omega)  (by simp only [sp_mu, sp_mx, sp_md, c_2, c_17, tn_d_le c_17, c_32, tn_d_le c_32, ↓reduceIte]) (by first | rfl | exact nI_1 _ | (simp only [c_2, c_17, tn_d_le c_17, c_32, tn_d_le c_32, if_true, ↓reduceIte]; done) | (simp [c_2, c_17, tn_d_le c_17, c_32, tn_d_le c_32, if_true]; done) | (exfalso; clear hR C; simp_all; done))
        · skip
          refine tv_iload C dX8_mixUnlike_117 0 rfl ?_
          refine tv_goto C 123 dX8_mixUnlike_119 (by decide) ?_
          refine tv_istore_n (lv' := [(2, .int (sp_ab ((((0 + ((sp_cm (r 5 0) (r 6 0) 0 0 0 (s 5 0) 1) * (s 17 ((3 * i) + 0)))) + ((sp_cm (r 5 0) (r 6 1) 1 0 0 (s 5 0) 1) * (s 17 ((3 * i) + 1)))) + ((sp_cm (r 5 0) (r 6 2) 2 0 0 (s 5 0) 1) * (s 17 ((3 * i) + 2)))) - (sp_ln s j i 1)))), (6, .int (sp_ab ((((0 + ((sp_cm (r 5 0) (r 6 0) 0 0 0 (s 5 0) 1) * (s 17 ((3 * i) + 0)))) + ((sp_cm (r 5 0) (r 6 1) 1 0 0 (s 5 0) 1) * (s 17 ((3 * i) + 1)))) + ((sp_cm (r 5 0) (r 6 2) 2 0 0 (s 5 0) 1) * (s 17 ((3 * i) + 2)))) - (sp_ln s j i 1)))), (5, .int (((0 + ((sp_cm (r 5 0) (r 6 0) 0 0 0 (s 5 0) 1) * (s 17 ((3 * i) + 0)))) + ((sp_cm (r 5 0) (r 6 1) 1 0 0 (s 5 0) 1) * (s 17 ((3 * i) + 1)))) + ((sp_cm (r 5 0) (r 6 2) 2 0 0 (s 5 0) 1) * (s 17 ((3 * i) + 2))))), (4, .int 1), (0, .ref (tv_ad c 0)), (1, .int p0), (3, .int (nI i))]) C dX8_mixUnlike_123 rfl (by decide) rfl ?_
          refine tv_iinc (v := 2) (lv' := [(4, .int 2), (2, .int (sp_ab ((((0 + ((sp_cm (r 5 0) (r 6 0) 0 0 0 (s 5 0) 1) * (s 17 ((3 * i) + 0)))) + ((sp_cm (r 5 0) (r 6 1) 1 0 0 (s 5 0) 1) * (s 17 ((3 * i) + 1)))) + ((sp_cm (r 5 0) (r 6 2) 2 0 0 (s 5 0) 1) * (s 17 ((3 * i) + 2)))) - (sp_ln s j i 1)))), (6, .int (sp_ab ((((0 + ((sp_cm (r 5 0) (r 6 0) 0 0 0 (s 5 0) 1) * (s 17 ((3 * i) + 0)))) + ((sp_cm (r 5 0) (r 6 1) 1 0 0 (s 5 0) 1) * (s 17 ((3 * i) + 1)))) + ((sp_cm (r 5 0) (r 6 2) 2 0 0 (s 5 0) 1) * (s 17 ((3 * i) + 2)))) - (sp_ln s j i 1)))), (5, .int (((0 + ((sp_cm (r 5 0) (r 6 0) 0 0 0 (s 5 0) 1) * (s 17 ((3 * i) + 0)))) + ((sp_cm (r 5 0) (r 6 1) 1 0 0 (s 5 0) 1) * (s 17 ((3 * i) + 1)))) + ((sp_cm (r 5 0) (r 6 2) 2 0 0 (s 5 0) 1) * (s 17 ((3 * i) + 2))))), (0, .ref (tv_ad c 0)), (1, .int p0), (3, .int (nI i))]) C dX8_mixUnlike_124 3 rfl (by decide) (by decide) rfl ?_
          refine tv_goto C 15 dX8_mixUnlike_127 (by decide) ?_
          refine tv_iload C dX8_mixUnlike_15 0 rfl ?_
          refine tv_iconst (v := 2) C dX8_mixUnlike_17 (by decide) ?_
          refine tv_icmp_ge C 130 dX8_mixUnlike_18 (by decide) (fun c_34 => ?_) (fun c_34 => absurd (by decide) c_34)
          refine tv_iinc (v := ((nI i) + 1)) (lv' := [(3, .int ((nI i) + 1)), (4, .int 2), (2, .int (sp_ab ((((0 + ((sp_cm (r 5 0) (r 6 0) 0 0 0 (s 5 0) 1) * (s 17 ((3 * i) + 0)))) + ((sp_cm (r 5 0) (r 6 1) 1 0 0 (s 5 0) 1) * (s 17 ((3 * i) + 1)))) + ((sp_cm (r 5 0) (r 6 2) 2 0 0 (s 5 0) 1) * (s 17 ((3 * i) + 2)))) - (sp_ln s j i 1)))), (6, .int (sp_ab ((((0 + ((sp_cm (r 5 0) (r 6 0) 0 0 0 (s 5 0) 1) * (s 17 ((3 * i) + 0)))) + ((sp_cm (r 5 0) (r 6 1) 1 0 0 (s 5 0) 1) * (s 17 ((3 * i) + 1)))) + ((sp_cm (r 5 0) (r 6 2) 2 0 0 (s 5 0) 1) * (s 17 ((3 * i) + 2)))) - (sp_ln s j i 1)))), (5, .int (((0 + ((sp_cm (r 5 0) (r 6 0) 0 0 0 (s 5 0) 1) * (s 17 ((3 * i) + 0)))) + ((sp_cm (r 5 0) (r 6 1) 1 0 0 (s 5 0) 1) * (s 17 ((3 * i) + 1)))) + ((sp_cm (r 5 0) (r 6 2) 2 0 0 (s 5 0) 1) * (s 17 ((3 * i) + 2))))), (0, .ref (tv_ad c 0)), (1, .int p0)]) C dX8_mixUnlike_130 6 rfl rfl (by decide) rfl ?_
          refine tv_goto C 4 dX8_mixUnlike_133 (by decide) ?_
          refine tv_lsub [5, 6, 2, 0] rfl ?_
          exact ih4 (i + 1) _ _ (by omega)  (by simp only [sp_mu, sp_mx, sp_md, c_2, c_17, tn_d_le c_17, c_32, tn_d_nle c_32, ↓reduceIte]) (by first | rfl | exact nI_1 _ | (simp only [c_2, c_17, tn_d_le c_17, c_32, tn_d_nle c_32, if_true, ↓reduceIte]; done) | (simp [c_2, c_17, tn_d_le c_17, c_32, tn_d_nle c_32, if_true]; done) | (exfalso; clear hR C; simp_all; done))
      · skip
        refine tv_iload C dX8_mixUnlike_117 0 rfl ?_
        refine tv_goto C 123 dX8_mixUnlike_119 (by decide) ?_
        refine tv_istore_n (lv' := [(2, .int (sp_ab ((((0 + ((sp_cm (r 5 0) (r 6 0) 0 0 0 (s 5 0) 0) * (s 17 ((3 * i) + 0)))) + ((sp_cm (r 5 0) (r 6 1) 1 0 0 (s 5 0) 0) * (s 17 ((3 * i) + 1)))) + ((sp_cm (r 5 0) (r 6 2) 2 0 0 (s 5 0) 0) * (s 17 ((3 * i) + 2)))) - (sp_ln s j i 0)))), (6, .int (sp_ab ((((0 + ((sp_cm (r 5 0) (r 6 0) 0 0 0 (s 5 0) 0) * (s 17 ((3 * i) + 0)))) + ((sp_cm (r 5 0) (r 6 1) 1 0 0 (s 5 0) 0) * (s 17 ((3 * i) + 1)))) + ((sp_cm (r 5 0) (r 6 2) 2 0 0 (s 5 0) 0) * (s 17 ((3 * i) + 2)))) - (sp_ln s j i 0)))), (5, .int (((0 + ((sp_cm (r 5 0) (r 6 0) 0 0 0 (s 5 0) 0) * (s 17 ((3 * i) + 0)))) + ((sp_cm (r 5 0) (r 6 1) 1 0 0 (s 5 0) 0) * (s 17 ((3 * i) + 1)))) + ((sp_cm (r 5 0) (r 6 2) 2 0 0 (s 5 0) 0) * (s 17 ((3 * i) + 2))))), (4, .int 0), (0, .ref (tv_ad c 0)), (1, .int p0), (3, .int (nI i))]) C dX8_mixUnlike_123 rfl (by decide) rfl ?_
        refine tv_iinc (v := 1) (lv' := [(4, .int 1), (2, .int (sp_ab ((((0 + ((sp_cm (r 5 0) (r 6 0) 0 0 0 (s 5 0) 0) * (s 17 ((3 * i) + 0)))) + ((sp_cm (r 5 0) (r 6 1) 1 0 0 (s 5 0) 0) * (s 17 ((3 * i) + 1)))) + ((sp_cm (r 5 0) (r 6 2) 2 0 0 (s 5 0) 0) * (s 17 ((3 * i) + 2)))) - (sp_ln s j i 0)))), (6, .int (sp_ab ((((0 + ((sp_cm (r 5 0) (r 6 0) 0 0 0 (s 5 0) 0) * (s 17 ((3 * i) + 0)))) + ((sp_cm (r 5 0) (r 6 1) 1 0 0 (s 5 0) 0) * (s 17 ((3 * i) + 1)))) + ((sp_cm (r 5 0) (r 6 2) 2 0 0 (s 5 0) 0) * (s 17 ((3 * i) + 2)))) - (sp_ln s j i 0)))), (5, .int (((0 + ((sp_cm (r 5 0) (r 6 0) 0 0 0 (s 5 0) 0) * (s 17 ((3 * i) + 0)))) + ((sp_cm (r 5 0) (r 6 1) 1 0 0 (s 5 0) 0) * (s 17 ((3 * i) + 1)))) + ((sp_cm (r 5 0) (r 6 2) 2 0 0 (s 5 0) 0) * (s 17 ((3 * i) + 2))))), (0, .ref (tv_ad c 0)), (1, .int p0), (3, .int (nI i))]) C dX8_mixUnlike_124 3 rfl (by decide) (by decide) rfl ?_
        refine tv_goto C 15 dX8_mixUnlike_127 (by decide) ?_
        refine tv_iload C dX8_mixUnlike_15 0 rfl ?_
        refine tv_iconst (v := 2) C dX8_mixUnlike_17 (by decide) ?_
        refine tv_icmp_ge C 130 dX8_mixUnlike_18 (by decide) (fun c_35 => absurd c_35 (by decide)) (fun c_35 => ?_)
        refine tv_iconst (v := 0) C dX8_mixUnlike_21 (by decide) ?_
        refine tv_istore (lv' := [(5, .int 0), (4, .int 1), (2, .int (sp_ab ((((0 + ((sp_cm (r 5 0) (r 6 0) 0 0 0 (s 5 0) 0) * (s 17 ((3 * i) + 0)))) + ((sp_cm (r 5 0) (r 6 1) 1 0 0 (s 5 0) 0) * (s 17 ((3 * i) + 1)))) + ((sp_cm (r 5 0) (r 6 2) 2 0 0 (s 5 0) 0) * (s 17 ((3 * i) + 2)))) - (sp_ln s j i 0)))), (6, .int (sp_ab ((((0 + ((sp_cm (r 5 0) (r 6 0) 0 0 0 (s 5 0) 0) * (s 17 ((3 * i) + 0)))) + ((sp_cm (r 5 0) (r 6 1) 1 0 0 (s 5 0) 0) * (s 17 ((3 * i) + 1)))) + ((sp_cm (r 5 0) (r 6 2) 2 0 0 (s 5 0) 0) * (s 17 ((3 * i) + 2)))) - (sp_ln s j i 0)))), (0, .ref (tv_ad c 0)), (1, .int p0), (3, .int (nI i))]) C dX8_mixUnlike_22 (by decide) rfl ?_
        refine tv_iconst (v := 0) C dX8_mixUnlike_24 (by decide) ?_
        refine tv_istore (lv' := [(6, .int 0), (5, .int 0), (4, .int 1), (2, .int (sp_ab ((((0 + ((sp_cm (r 5 0) (r 6 0) 0 0 0 (s 5 0) 0) * (s 17 ((3 * i) + 0)))) + ((sp_cm (r 5 0) (r 6 1) 1 0 0 (s 5 0) 0) * (s 17 ((3 * i) + 1)))) + ((sp_cm (r 5 0) (r 6 2) 2 0 0 (s 5 0) 0) * (s 17 ((3 * i) + 2)))) - (sp_ln s j i 0)))), (0, .ref (tv_ad c 0)), (1, .int p0), (3, .int (nI i))]) C dX8_mixUnlike_25 (by decide) rfl ?_
        refine tv_iload C dX8_mixUnlike_27 0 rfl ?_
        refine tv_iconst (v := 3) C dX8_mixUnlike_29 (by decide) ?_
        refine tv_icmp_ge C 86 dX8_mixUnlike_30 (by decide) (fun c_36 => absurd c_36 (by decide)) (fun c_36 => ?_)
        refine tv_iload C dX8_mixUnlike_33 1 rfl ?_
        refine tv_aload_n C dX8_mixUnlike_35 rfl 4 rfl ?_
        refine tv_aload_n C dX8_mixUnlike_36 rfl 4 rfl ?_
        refine tv_get (ci := 8) (Cn := RX8) (T := TX8) (Nf := 35) (v := .int (r 5 0)) C 0 (by decide) rfl rfl in_X8_mixUnlike_X8 25 (by decide) lk_X8_mixUnlike_168 rfl dX8_mixUnlike_37 ?_
        refine tv_aload_n C dX8_mixUnlike_40 rfl 4 rfl ?_
        refine tv_get (ci := 8) (Cn := RX8) (T := TX8) (Nf := 35) (v := .ref (tv_ad c 14)) C 0 (by decide) rfl rfl in_X8_mixUnlike_X8 26 (by decide) lk_X8_mixUnlike_50 rfl dX8_mixUnlike_41 ?_
        refine tv_iload C dX8_mixUnlike_44 0 rfl ?_
        refine tv_iald (f := (r 6)) (v := (r 6 0)) C 14 (by decide) rfl 0 (tn_l 0) (show 0 < 3 by omega) (by decide) rfl dX8_mixUnlike_46 ?_
        refine tv_iload C dX8_mixUnlike_47 0 rfl ?_
        refine tv_iconst (v := 0) C dX8_mixUnlike_49 (by decide) ?_
        refine tv_iconst (v := 0) C dX8_mixUnlike_50 (by decide) ?_
        refine tv_iload C dX8_mixUnlike_51 2 rfl ?_
        refine tv_iconst (v := 1) C dX8_mixUnlike_53 (by decide) ?_
        refine tv_icmp_ne C 61 dX8_mixUnlike_54 (by decide) (fun c_37 => absurd (by decide) c_37) (fun c_37 => ?_)
        refine tv_iconst (v := 1) C dX8_mixUnlike_57 (by decide) ?_
        refine tv_goto C 62 dX8_mixUnlike_58 (by decide) ?_
        refine tv_calli (As := [.int (r 5 0), .int (r 6 0), .int 0, .int 0, .int 0, .int 1]) (rest := [.int 0]) (ci := 8) (cn := RX8) (T := TX8) (Nf := 35) C 0 (kX8_comes c s r  (r 5 0) (r 6 0) 0 0 0 1 ) gX8_mixUnlike_X8_comes rfl yd_X8_comes ⟨rfl, rfl⟩ (by decide) (by decide) rfl rfl rfl rfl (Nat.le_of_ble_eq_true rfl) dX8_mixUnlike_62 (fun q_38 u_38 z_38 => ?_)
        obtain ⟨rfl, rfl⟩ := z_38
        refine tv_aload_n C dX8_mixUnlike_65 rfl 4 rfl ?_
        refine tv_get (ci := 8) (Cn := RX8) (T := TX8) (Nf := 35) (v := .ref (tv_ad c 12)) C 0 (by decide) rfl rfl in_X8_mixUnlike_X8 23 (by decide) lk_X8_mixUnlike_44 rfl dX8_mixUnlike_66 ?_
        refine tv_iconst (v := 3) C dX8_mixUnlike_69 (by decide) ?_
        refine tv_iload_n C dX8_mixUnlike_70 rfl 6 rfl ?_
        refine tv_imul C dX8_mixUnlike_71 ?_
        refine tv_iload C dX8_mixUnlike_72 0 rfl ?_
        refine tv_iadd C dX8_mixUnlike_74 ?_
        refine tv_iald (f := (s 17)) (v := (s 17 ((3 * i) + 0))) C 12 (by decide) rfl ((3 * i) + 0) (tn_add (tn_mul (tn_l 3) (rfl : nI i = nI i)) (tn_l 0)) (show ((3 * i) + 0) < 12 by omega) (by decide) rfl dX8_mixUnlike_75 ?_
        refine tv_imul C dX8_mixUnlike_76 ?_
        refine tv_iadd C dX8_mixUnlike_77 ?_
        refine tv_istore (lv' := [(5, .int (0 + ((sp_cm (r 5 0) (r 6 0) 0 0 0 (s 5 0) 1) * (s 17 ((3 * i) + 0))))), (6, .int 0), (4, .int 1), (2, .int (sp_ab ((((0 + ((sp_cm (r 5 0) (r 6 0) 0 0 0 (s 5 0) 0) * (s 17 ((3 * i) + 0)))) + ((sp_cm (r 5 0) (r 6 1) 1 0 0 (s 5 0) 0) * (s 17 ((3 * i) + 1)))) + ((sp_cm (r 5 0) (r 6 2) 2 0 0 (s 5 0) 0) * (s 17 ((3 * i) + 2)))) - (sp_ln s j i 0)))), (0, .ref (tv_ad c 0)), (1, .int p0), (3, .int (nI i))]) C dX8_mixUnlike_78 (by decide) rfl ?_
        refine tv_iinc (v := 1) (lv' := [(6, .int 1), (5, .int (0 + ((sp_cm (r 5 0) (r 6 0) 0 0 0 (s 5 0) 1) * (s 17 ((3 * i) + 0))))), (4, .int 1), (2, .int (sp_ab ((((0 + ((sp_cm (r 5 0) (r 6 0) 0 0 0 (s 5 0) 0) * (s 17 ((3 * i) + 0)))) + ((sp_cm (r 5 0) (r 6 1) 1 0 0 (s 5 0) 0) * (s 17 ((3 * i) + 1)))) + ((sp_cm (r 5 0) (r 6 2) 2 0 0 (s 5 0) 0) * (s 17 ((3 * i) + 2)))) - (sp_ln s j i 0)))), (0, .ref (tv_ad c 0)), (1, .int p0), (3, .int (nI i))]) C dX8_mixUnlike_80 1 rfl (by decide) (by decide) rfl ?_
        refine tv_goto C 27 dX8_mixUnlike_83 (by decide) ?_
        refine tv_iload C dX8_mixUnlike_27 0 rfl ?_
        refine tv_iconst (v := 3) C dX8_mixUnlike_29 (by decide) ?_
        refine tv_icmp_ge C 86 dX8_mixUnlike_30 (by decide) (fun c_39 => absurd c_39 (by decide)) (fun c_39 => ?_)
        refine tv_iload C dX8_mixUnlike_33 1 rfl ?_
        refine tv_aload_n C dX8_mixUnlike_35 rfl 4 rfl ?_
        refine tv_aload_n C dX8_mixUnlike_36 rfl 4 rfl ?_
        refine tv_get (ci := 8) (Cn := RX8) (T := TX8) (Nf := 35) (v := .int (r 5 0)) C 0 (by decide) rfl rfl in_X8_mixUnlike_X8 25 (by decide) lk_X8_mixUnlike_168 rfl dX8_mixUnlike_37 ?_
        refine tv_aload_n C dX8_mixUnlike_40 rfl 4 rfl ?_
        refine tv_get (ci := 8) (Cn := RX8) (T := TX8) (Nf := 35) (v := .ref (tv_ad c 14)) C 0 (by decide) rfl rfl in_X8_mixUnlike_X8 26 (by decide) lk_X8_mixUnlike_50 rfl dX8_mixUnlike_41 ?_
        refine tv_iload C dX8_mixUnlike_44 0 rfl ?_
        refine tv_iald (f := (r 6)) (v := (r 6 1)) C 14 (by decide) rfl 1 (tn_l 1) (show 1 < 3 by omega) (by decide) rfl dX8_mixUnlike_46 ?_
        refine tv_iload C dX8_mixUnlike_47 0 rfl ?_
        refine tv_iconst (v := 0) C dX8_mixUnlike_49 (by decide) ?_
        refine tv_iconst (v := 0) C dX8_mixUnlike_50 (by decide) ?_
        refine tv_iload C dX8_mixUnlike_51 2 rfl ?_
        refine tv_iconst (v := 1) C dX8_mixUnlike_53 (by decide) ?_
        refine tv_icmp_ne C 61 dX8_mixUnlike_54 (by decide) (fun c_40 => absurd (by decide) c_40) (fun c_40 => ?_)
        refine tv_iconst (v := 1) C dX8_mixUnlike_57 (by decide) ?_
        refine tv_goto C 62 dX8_mixUnlike_58 (by decide) ?_
        refine tv_calli (As := [.int (r 5 0), .int (r 6 1), .int 1, .int 0, .int 0, .int 1]) (rest := [.int (0 + ((sp_cm (r 5 0) (r 6 0) 0 0 0 (s 5 0) 1) * (s 17 ((3 * i) + 0))))]) (ci := 8) (cn := RX8) (T := TX8) (Nf := 35) C 0 (kX8_comes c s r  (r 5 0) (r 6 1) 1 0 0 1 ) gX8_mixUnlike_X8_comes rfl yd_X8_comes ⟨rfl, rfl⟩ (by decide) (by decide) rfl rfl rfl rfl (Nat.le_of_ble_eq_true rfl) dX8_mixUnlike_62 (fun q_41 u_41 z_41 => ?_)
        obtain ⟨rfl, rfl⟩ := z_41
        refine tv_aload_n C dX8_mixUnlike_65 rfl 4 rfl ?_
        refine tv_get (ci := 8) (Cn := RX8) (T := TX8) (Nf := 35) (v := .ref (tv_ad c 12)) C 0 (by decide) rfl rfl in_X8_mixUnlike_X8 23 (by decide) lk_X8_mixUnlike_44 rfl dX8_mixUnlike_66 ?_
        refine tv_iconst (v := 3) C dX8_mixUnlike_69 (by decide) ?_
        refine tv_iload_n C dX8_mixUnlike_70 rfl 6 rfl ?_
        refine tv_imul C dX8_mixUnlike_71 ?_
        refine tv_iload C dX8_mixUnlike_72 0 rfl ?_
        refine tv_iadd C dX8_mixUnlike_74 ?_
        refine tv_iald (f := (s 17)) (v := (s 17 ((3 * i) + 1))) C 12 (by decide) rfl ((3 * i) + 1) (tn_add (tn_mul (tn_l 3) (rfl : nI i = nI i)) (tn_l 1)) (show ((3 * i) + 1) < 12 by omega) (by decide) rfl dX8_mixUnlike_75 ?_
        refine tv_imul C dX8_mixUnlike_76 ?_
        refine tv_iadd C dX8_mixUnlike_77 ?_
        refine tv_istore (lv' := [(5, .int ((0 + ((sp_cm (r 5 0) (r 6 0) 0 0 0 (s 5 0) 1) * (s 17 ((3 * i) + 0)))) + ((sp_cm (r 5 0) (r 6 1) 1 0 0 (s 5 0) 1) * (s 17 ((3 * i) + 1))))), (6, .int 1), (4, .int 1), (2, .int (sp_ab ((((0 + ((sp_cm (r 5 0) (r 6 0) 0 0 0 (s 5 0) 0) * (s 17 ((3 * i) + 0)))) + ((sp_cm (r 5 0) (r 6 1) 1 0 0 (s 5 0) 0) * (s 17 ((3 * i) + 1)))) + ((sp_cm (r 5 0) (r 6 2) 2 0 0 (s 5 0) 0) * (s 17 ((3 * i) + 2)))) - (sp_ln s j i 0)))), (0, .ref (tv_ad c 0)), (1, .int p0), (3, .int (nI i))]) C dX8_mixUnlike_78 (by decide) rfl ?_
        refine tv_iinc (v := 2) (lv' := [(6, .int 2), (5, .int ((0 + ((sp_cm (r 5 0) (r 6 0) 0 0 0 (s 5 0) 1) * (s 17 ((3 * i) + 0)))) + ((sp_cm (r 5 0) (r 6 1) 1 0 0 (s 5 0) 1) * (s 17 ((3 * i) + 1))))), (4, .int 1), (2, .int (sp_ab ((((0 + ((sp_cm (r 5 0) (r 6 0) 0 0 0 (s 5 0) 0) * (s 17 ((3 * i) + 0)))) + ((sp_cm (r 5 0) (r 6 1) 1 0 0 (s 5 0) 0) * (s 17 ((3 * i) + 1)))) + ((sp_cm (r 5 0) (r 6 2) 2 0 0 (s 5 0) 0) * (s 17 ((3 * i) + 2)))) - (sp_ln s j i 0)))), (0, .ref (tv_ad c 0)), (1, .int p0), (3, .int (nI i))]) C dX8_mixUnlike_80 1 rfl (by decide) (by decide) rfl ?_
        refine tv_goto C 27 dX8_mixUnlike_83 (by decide) ?_
        refine tv_iload C dX8_mixUnlike_27 0 rfl ?_
        refine tv_iconst (v := 3) C dX8_mixUnlike_29 (by decide) ?_
        refine tv_icmp_ge C 86 dX8_mixUnlike_30 (by decide) (fun c_42 => absurd c_42 (by decide)) (fun c_42 => ?_)
        refine tv_iload C dX8_mixUnlike_33 1 rfl ?_
        refine tv_aload_n C dX8_mixUnlike_35 rfl 4 rfl ?_
        refine tv_aload_n C dX8_mixUnlike_36 rfl 4 rfl ?_
        refine tv_get (ci := 8) (Cn := RX8) (T := TX8) (Nf := 35) (v := .int (r 5 0)) C 0 (by decide) rfl rfl in_X8_mixUnlike_X8 25 (by decide) lk_X8_mixUnlike_168 rfl dX8_mixUnlike_37 ?_
        refine tv_aload_n C dX8_mixUnlike_40 rfl 4 rfl ?_
        refine tv_get (ci := 8) (Cn := RX8) (T := TX8) (Nf := 35) (v := .ref (tv_ad c 14)) C 0 (by decide) rfl rfl in_X8_mixUnlike_X8 26 (by decide) lk_X8_mixUnlike_50 rfl dX8_mixUnlike_41 ?_
        refine tv_iload C dX8_mixUnlike_44 0 rfl ?_
        refine tv_iald (f := (r 6)) (v := (r 6 2)) C 14 (by decide) rfl 2 (tn_l 2) (show 2 < 3 by omega) (by decide) rfl dX8_mixUnlike_46 ?_
        refine tv_iload C dX8_mixUnlike_47 0 rfl ?_
        refine tv_iconst (v := 0) C dX8_mixUnlike_49 (by decide) ?_
        refine tv_iconst (v := 0) C dX8_mixUnlike_50 (by decide) ?_
        refine tv_iload C dX8_mixUnlike_51 2 rfl ?_
        refine tv_iconst (v := 1) C dX8_mixUnlike_53 (by decide) ?_
        refine tv_icmp_ne C 61 dX8_mixUnlike_54 (by decide) (fun c_43 => absurd (by decide) c_43) (fun c_43 => ?_)
        refine tv_iconst (v := 1) C dX8_mixUnlike_57 (by decide) ?_
        refine tv_goto C 62 dX8_mixUnlike_58 (by decide) ?_
        refine tv_calli (As := [.int (r 5 0), .int (r 6 2), .int 2, .int 0, .int 0, .int 1]) (rest := [.int ((0 + ((sp_cm (r 5 0) (r 6 0) 0 0 0 (s 5 0) 1) * (s 17 ((3 * i) + 0)))) + ((sp_cm (r 5 0) (r 6 1) 1 0 0 (s 5 0) 1) * (s 17 ((3 * i) + 1))))]) (ci := 8) (cn := RX8) (T := TX8) (Nf := 35) C 0 (kX8_comes c s r  (r 5 0) (r 6 2) 2 0 0 1 ) gX8_mixUnlike_X8_comes rfl yd_X8_comes ⟨rfl, rfl⟩ (by decide) (by decide) rfl rfl rfl rfl (Nat.le_of_ble_eq_true rfl) dX8_mixUnlike_62 (fun q_44 u_44 z_44 => ?_)
        obtain ⟨rfl, rfl⟩ := z_44
        refine tv_aload_n C dX8_mixUnlike_65 rfl 4 rfl ?_
        refine tv_get (ci := 8) (Cn := RX8) (T := TX8) (Nf := 35) (v := .ref (tv_ad c 12)) C 0 (by decide) rfl rfl in_X8_mixUnlike_X8 23 (by decide) lk_X8_mixUnlike_44 rfl dX8_mixUnlike_66 ?_
        refine tv_iconst (v := 3) C dX8_mixUnlike_69 (by decide) ?_
        refine tv_iload_n C dX8_mixUnlike_70 rfl 6 rfl ?_
        refine tv_imul C dX8_mixUnlike_71 ?_
        refine tv_iload C dX8_mixUnlike_72 0 rfl ?_
        refine tv_iadd C dX8_mixUnlike_74 ?_
        refine tv_iald (f := (s 17)) (v := (s 17 ((3 * i) + 2))) C 12 (by decide) rfl ((3 * i) + 2) (tn_add (tn_mul (tn_l 3) (rfl : nI i = nI i)) (tn_l 2)) (show ((3 * i) + 2) < 12 by omega) (by decide) rfl dX8_mixUnlike_75 ?_
        refine tv_imul C dX8_mixUnlike_76 ?_
        refine tv_iadd C dX8_mixUnlike_77 ?_
        refine tv_istore (lv' := [(5, .int (((0 + ((sp_cm (r 5 0) (r 6 0) 0 0 0 (s 5 0) 1) * (s 17 ((3 * i) + 0)))) + ((sp_cm (r 5 0) (r 6 1) 1 0 0 (s 5 0) 1) * (s 17 ((3 * i) + 1)))) + ((sp_cm (r 5 0) (r 6 2) 2 0 0 (s 5 0) 1) * (s 17 ((3 * i) + 2))))), (6, .int 2), (4, .int 1), (2, .int (sp_ab ((((0 + ((sp_cm (r 5 0) (r 6 0) 0 0 0 (s 5 0) 0) * (s 17 ((3 * i) + 0)))) + ((sp_cm (r 5 0) (r 6 1) 1 0 0 (s 5 0) 0) * (s 17 ((3 * i) + 1)))) + ((sp_cm (r 5 0) (r 6 2) 2 0 0 (s 5 0) 0) * (s 17 ((3 * i) + 2)))) - (sp_ln s j i 0)))), (0, .ref (tv_ad c 0)), (1, .int p0), (3, .int (nI i))]) C dX8_mixUnlike_78 (by decide) rfl ?_
        refine tv_iinc (v := 3) (lv' := [(6, .int 3), (5, .int (((0 + ((sp_cm (r 5 0) (r 6 0) 0 0 0 (s 5 0) 1) * (s 17 ((3 * i) + 0)))) + ((sp_cm (r 5 0) (r 6 1) 1 0 0 (s 5 0) 1) * (s 17 ((3 * i) + 1)))) + ((sp_cm (r 5 0) (r 6 2) 2 0 0 (s 5 0) 1) * (s 17 ((3 * i) + 2))))), (4, .int 1), (2, .int (sp_ab ((((0 + ((sp_cm (r 5 0) (r 6 0) 0 0 0 (s 5 0) 0) * (s 17 ((3 * i) + 0)))) + ((sp_cm (r 5 0) (r 6 1) 1 0 0 (s 5 0) 0) * (s 17 ((3 * i) + 1)))) + ((sp_cm (r 5 0) (r 6 2) 2 0 0 (s 5 0) 0) * (s 17 ((3 * i) + 2)))) - (sp_ln s j i 0)))), (0, .ref (tv_ad c 0)), (1, .int p0), (3, .int (nI i))]) C dX8_mixUnlike_80 1 rfl (by decide) (by decide) rfl ?_
        refine tv_goto C 27 dX8_mixUnlike_83 (by decide) ?_
        refine tv_iload C dX8_mixUnlike_27 0 rfl ?_
        refine tv_iconst (v := 3) C dX8_mixUnlike_29 (by decide) ?_
        refine tv_icmp_ge C 86 dX8_mixUnlike_30 (by decide) (fun c_45 => ?_) (fun c_45 => absurd (by decide) c_45)
        refine tv_iload C dX8_mixUnlike_86 1 rfl ?_
        refine tv_aload_n C dX8_mixUnlike_88 rfl 4 rfl ?_
        refine tv_iload_n C dX8_mixUnlike_89 rfl 5 rfl ?_
        refine tv_iload_n C dX8_mixUnlike_90 rfl 6 rfl ?_
        refine tv_iload C dX8_mixUnlike_91 2 rfl ?_
        refine tv_iconst (v := 1) C dX8_mixUnlike_93 (by decide) ?_
        refine tv_icmp_ne C 101 dX8_mixUnlike_94 (by decide) (fun c_46 => absurd (by decide) c_46) (fun c_46 => ?_)
        refine tv_iconst (v := 1) C dX8_mixUnlike_97 (by decide) ?_
        refine tv_goto C 102 dX8_mixUnlike_98 (by decide) ?_
        refine tv_calli (As := [.int p0, .int (nI i), .int 1]) (rest := [.int (((0 + ((sp_cm (r 5 0) (r 6 0) 0 0 0 (s 5 0) 1) * (s 17 ((3 * i) + 0)))) + ((sp_cm (r 5 0) (r 6 1) 1 0 0 (s 5 0) 1) * (s 17 ((3 * i) + 1)))) + ((sp_cm (r 5 0) (r 6 2) 2 0 0 (s 5 0) 1) * (s 17 ((3 * i) + 2))))]) (ci := 8) (cn := RX8) (T := TX8) (Nf := 35) C 0 (kX8_lookNow c s r j i p0 (nI i) 1 e_p0 (by omega) (rfl : nI i = nI i) (by omega) hc) gX8_mixUnlike_X8_lookNow rfl yd_X8_lookNow ⟨rfl, rfl⟩ (by decide) (by decide) rfl rfl rfl rfl (Nat.le_of_ble_eq_true rfl) dX8_mixUnlike_102 (fun q_47 u_47 z_47 => ?_)
        obtain ⟨rfl, rfl⟩ := z_47
        refine tv_isub C dX8_mixUnlike_105 ?_
        refine tv_callis (As := [.int ((((0 + ((sp_cm (r 5 0) (r 6 0) 0 0 0 (s 5 0) 1) * (s 17 ((3 * i) + 0)))) + ((sp_cm (r 5 0) (r 6 1) 1 0 0 (s 5 0) 1) * (s 17 ((3 * i) + 1)))) + ((sp_cm (r 5 0) (r 6 2) 2 0 0 (s 5 0) 1) * (s 17 ((3 * i) + 2)))) - (sp_ln s j i 1))]) (rest := []) C (kX8_size c s r  ((((0 + ((sp_cm (r 5 0) (r 6 0) 0 0 0 (s 5 0) 1) * (s 17 ((3 * i) + 0)))) + ((sp_cm (r 5 0) (r 6 1) 1 0 0 (s 5 0) 1) * (s 17 ((3 * i) + 1)))) + ((sp_cm (r 5 0) (r 6 2) 2 0 0 (s 5 0) 1) * (s 17 ((3 * i) + 2)))) - (sp_ln s j i 1)) ) gX8_mixUnlike_X8_size rfl yd_X8_size ⟨rfl, rfl⟩ (by decide) rfl rfl (Nat.le_of_ble_eq_true rfl) dX8_mixUnlike_106 (fun q_48 u_48 z_48 => ?_)
        obtain ⟨rfl, rfl⟩ := z_48
        refine tv_istore (lv' := [(6, .int (sp_ab ((((0 + ((sp_cm (r 5 0) (r 6 0) 0 0 0 (s 5 0) 1) * (s 17 ((3 * i) + 0)))) + ((sp_cm (r 5 0) (r 6 1) 1 0 0 (s 5 0) 1) * (s 17 ((3 * i) + 1)))) + ((sp_cm (r 5 0) (r 6 2) 2 0 0 (s 5 0) 1) * (s 17 ((3 * i) + 2)))) - (sp_ln s j i 1)))), (5, .int (((0 + ((sp_cm (r 5 0) (r 6 0) 0 0 0 (s 5 0) 1) * (s 17 ((3 * i) + 0)))) + ((sp_cm (r 5 0) (r 6 1) 1 0 0 (s 5 0) 1) * (s 17 ((3 * i) + 1)))) + ((sp_cm (r 5 0) (r 6 2) 2 0 0 (s 5 0) 1) * (s 17 ((3 * i) + 2))))), (4, .int 1), (2, .int (sp_ab ((((0 + ((sp_cm (r 5 0) (r 6 0) 0 0 0 (s 5 0) 0) * (s 17 ((3 * i) + 0)))) + ((sp_cm (r 5 0) (r 6 1) 1 0 0 (s 5 0) 0) * (s 17 ((3 * i) + 1)))) + ((sp_cm (r 5 0) (r 6 2) 2 0 0 (s 5 0) 0) * (s 17 ((3 * i) + 2)))) - (sp_ln s j i 0)))), (0, .ref (tv_ad c 0)), (1, .int p0), (3, .int (nI i))]) C dX8_mixUnlike_109 (by decide) rfl ?_
        refine tv_iload C dX8_mixUnlike_111 0 rfl ?_
        refine tv_iload_n C dX8_mixUnlike_113 rfl 3 rfl ?_
        refine tv_icmp_le C 122 dX8_mixUnlike_114 (by decide) (fun c_49 => ?_) (fun c_49 => ?_)
        · skip
          refine tv_iload_n C dX8_mixUnlike_122 rfl 3 rfl ?_
          refine tv_istore_n (lv' := [(2, .int (sp_ab ((((0 + ((sp_cm (r 5 0) (r 6 0) 0 0 0 (s 5 0) 0) * (s 17 ((3 * i) + 0)))) + ((sp_cm (r 5 0) (r 6 1) 1 0 0 (s 5 0) 0) * (s 17 ((3 * i) + 1)))) + ((sp_cm (r 5 0) (r 6 2) 2 0 0 (s 5 0) 0) * (s 17 ((3 * i) + 2)))) - (sp_ln s j i 0)))), (6, .int (sp_ab ((((0 + ((sp_cm (r 5 0) (r 6 0) 0 0 0 (s 5 0) 1) * (s 17 ((3 * i) + 0)))) + ((sp_cm (r 5 0) (r 6 1) 1 0 0 (s 5 0) 1) * (s 17 ((3 * i) + 1)))) + ((sp_cm (r 5 0) (r 6 2) 2 0 0 (s 5 0) 1) * (s 17 ((3 * i) + 2)))) - (sp_ln s j i 1)))), (5, .int (((0 + ((sp_cm (r 5 0) (r 6 0) 0 0 0 (s 5 0) 1) * (s 17 ((3 * i) + 0)))) + ((sp_cm (r 5 0) (r 6 1) 1 0 0 (s 5 0) 1) * (s 17 ((3 * i) + 1)))) + ((sp_cm (r 5 0) (r 6 2) 2 0 0 (s 5 0) 1) * (s 17 ((3 * i) + 2))))), (4, .int 1), (0, .ref (tv_ad c 0)), (1, .int p0), (3, .int (nI i))]) C dX8_mixUnlike_123 rfl (by decide) rfl ?_
          refine tv_iinc (v := 2) (lv' := [(4, .int 2), (2, .int (sp_ab ((((0 + ((sp_cm (r 5 0) (r 6 0) 0 0 0 (s 5 0) 0) * (s 17 ((3 * i) + 0)))) + ((sp_cm (r 5 0) (r 6 1) 1 0 0 (s 5 0) 0) * (s 17 ((3 * i) + 1)))) + ((sp_cm (r 5 0) (r 6 2) 2 0 0 (s 5 0) 0) * (s 17 ((3 * i) + 2)))) - (sp_ln s j i 0)))), (6, .int (sp_ab ((((0 + ((sp_cm (r 5 0) (r 6 0) 0 0 0 (s 5 0) 1) * (s 17 ((3 * i) + 0)))) + ((sp_cm (r 5 0) (r 6 1) 1 0 0 (s 5 0) 1) * (s 17 ((3 * i) + 1)))) + ((sp_cm (r 5 0) (r 6 2) 2 0 0 (s 5 0) 1) * (s 17 ((3 * i) + 2)))) - (sp_ln s j i 1)))), (5, .int (((0 + ((sp_cm (r 5 0) (r 6 0) 0 0 0 (s 5 0) 1) * (s 17 ((3 * i) + 0)))) + ((sp_cm (r 5 0) (r 6 1) 1 0 0 (s 5 0) 1) * (s 17 ((3 * i) + 1)))) + ((sp_cm (r 5 0) (r 6 2) 2 0 0 (s 5 0) 1) * (s 17 ((3 * i) + 2))))), (0, .ref (tv_ad c 0)), (1, .int p0), (3, .int (nI i))]) C dX8_mixUnlike_124 3 rfl (by decide) (by decide) rfl ?_
          refine tv_goto C 15 dX8_mixUnlike_127 (by decide) ?_
          refine tv_iload C dX8_mixUnlike_15 0 rfl ?_
          refine tv_iconst (v := 2) C dX8_mixUnlike_17 (by decide) ?_
          refine tv_icmp_ge C 130 dX8_mixUnlike_18 (by decide) (fun c_50 => ?_) (fun c_50 => absurd (by decide) c_50)
          refine tv_iinc (v := ((nI i) + 1)) (lv' := [(3, .int ((nI i) + 1)), (4, .int 2), (2, .int (sp_ab ((((0 + ((sp_cm (r 5 0) (r 6 0) 0 0 0 (s 5 0) 0) * (s 17 ((3 * i) + 0)))) + ((sp_cm (r 5 0) (r 6 1) 1 0 0 (s 5 0) 0) * (s 17 ((3 * i) + 1)))) + ((sp_cm (r 5 0) (r 6 2) 2 0 0 (s 5 0) 0) * (s 17 ((3 * i) + 2)))) - (sp_ln s j i 0)))), (6, .int (sp_ab ((((0 + ((sp_cm (r 5 0) (r 6 0) 0 0 0 (s 5 0) 1) * (s 17 ((3 * i) + 0)))) + ((sp_cm (r 5 0) (r 6 1) 1 0 0 (s 5 0) 1) * (s 17 ((3 * i) + 1)))) + ((sp_cm (r 5 0) (r 6 2) 2 0 0 (s 5 0) 1) * (s 17 ((3 * i) + 2)))) - (sp_ln s j i 1)))), (5, .int (((0 + ((sp_cm (r 5 0) (r 6 0) 0 0 0 (s 5 0) 1) * (s 17 ((3 * i) + 0)))) + ((sp_cm (r 5 0) (r 6 1) 1 0 0 (s 5 0) 1) * (s 17 ((3 * i) + 1)))) + ((sp_cm (r 5 0) (r 6 2) 2 0 0 (s 5 0) 1) * (s 17 ((3 * i) + 2))))), (0, .ref (tv_ad c 0)), (1, .int p0)]) C dX8_mixUnlike_130 6 rfl rfl (by decide) rfl ?_
          refine tv_goto C 4 dX8_mixUnlike_133 (by decide) ?_
          refine tv_lsub [5, 6, 2, 0] rfl ?_
          exact ih4 (i + 1) _ _ (by omega)  (by simp only [sp_mu, sp_mx, sp_md, c_2, c_17, tn_d_nle c_17, c_49, tn_d_le c_49, ↓reduceIte]) (by first | rfl | exact nI_1 _ | (simp only [c_2, c_17, tn_d_nle c_17, c_49, tn_d_le c_49, if_true, ↓reduceIte]; done) | (simp [c_2, c_17, tn_d_nle c_17, c_49, tn_d_le c_49, if_true]; done) | (exfalso; clear hR C; simp_all; done))
        · skip
          refine tv_iload C dX8_mixUnlike_117 0 rfl ?_
          refine tv_goto C 123 dX8_mixUnlike_119 (by decide) ?_
          refine tv_istore_n (lv' := [(2, .int (sp_ab ((((0 + ((sp_cm (r 5 0) (r 6 0) 0 0 0 (s 5 0) 1) * (s 17 ((3 * i) + 0)))) + ((sp_cm (r 5 0) (r 6 1) 1 0 0 (s 5 0) 1) * (s 17 ((3 * i) + 1)))) + ((sp_cm (r 5 0) (r 6 2) 2 0 0 (s 5 0) 1) * (s 17 ((3 * i) + 2)))) - (sp_ln s j i 1)))), (6, .int (sp_ab ((((0 + ((sp_cm (r 5 0) (r 6 0) 0 0 0 (s 5 0) 1) * (s 17 ((3 * i) + 0)))) + ((sp_cm (r 5 0) (r 6 1) 1 0 0 (s 5 0) 1) * (s 17 ((3 * i) + 1)))) + ((sp_cm (r 5 0) (r 6 2) 2 0 0 (s 5 0) 1) * (s 17 ((3 * i) + 2)))) - (sp_ln s j i 1)))), (5, .int (((0 + ((sp_cm (r 5 0) (r 6 0) 0 0 0 (s 5 0) 1) * (s 17 ((3 * i) + 0)))) + ((sp_cm (r 5 0) (r 6 1) 1 0 0 (s 5 0) 1) * (s 17 ((3 * i) + 1)))) + ((sp_cm (r 5 0) (r 6 2) 2 0 0 (s 5 0) 1) * (s 17 ((3 * i) + 2))))), (4, .int 1), (0, .ref (tv_ad c 0)), (1, .int p0), (3, .int (nI i))]) C dX8_mixUnlike_123 rfl (by decide) rfl ?_
          refine tv_iinc (v := 2) (lv' := [(4, .int 2), (2, .int (sp_ab ((((0 + ((sp_cm (r 5 0) (r 6 0) 0 0 0 (s 5 0) 1) * (s 17 ((3 * i) + 0)))) + ((sp_cm (r 5 0) (r 6 1) 1 0 0 (s 5 0) 1) * (s 17 ((3 * i) + 1)))) + ((sp_cm (r 5 0) (r 6 2) 2 0 0 (s 5 0) 1) * (s 17 ((3 * i) + 2)))) - (sp_ln s j i 1)))), (6, .int (sp_ab ((((0 + ((sp_cm (r 5 0) (r 6 0) 0 0 0 (s 5 0) 1) * (s 17 ((3 * i) + 0)))) + ((sp_cm (r 5 0) (r 6 1) 1 0 0 (s 5 0) 1) * (s 17 ((3 * i) + 1)))) + ((sp_cm (r 5 0) (r 6 2) 2 0 0 (s 5 0) 1) * (s 17 ((3 * i) + 2)))) - (sp_ln s j i 1)))), (5, .int (((0 + ((sp_cm (r 5 0) (r 6 0) 0 0 0 (s 5 0) 1) * (s 17 ((3 * i) + 0)))) + ((sp_cm (r 5 0) (r 6 1) 1 0 0 (s 5 0) 1) * (s 17 ((3 * i) + 1)))) + ((sp_cm (r 5 0) (r 6 2) 2 0 0 (s 5 0) 1) * (s 17 ((3 * i) + 2))))), (0, .ref (tv_ad c 0)), (1, .int p0), (3, .int (nI i))]) C dX8_mixUnlike_124 3 rfl (by decide) (by decide) rfl ?_
          refine tv_goto C 15 dX8_mixUnlike_127 (by decide) ?_
          refine tv_iload C dX8_mixUnlike_15 0 rfl ?_
          refine tv_iconst (v := 2) C dX8_mixUnlike_17 (by decide) ?_
          refine tv_icmp_ge C 130 dX8_mixUnlike_18 (by decide) (fun c_51 => ?_) (fun c_51 => absurd (by decide) c_51)
          refine tv_iinc (v := ((nI i) + 1)) (lv' := [(3, .int ((nI i) + 1)), (4, .int 2), (2, .int (sp_ab ((((0 + ((sp_cm (r 5 0) (r 6 0) 0 0 0 (s 5 0) 1) * (s 17 ((3 * i) + 0)))) + ((sp_cm (r 5 0) (r 6 1) 1 0 0 (s 5 0) 1) * (s 17 ((3 * i) + 1)))) + ((sp_cm (r 5 0) (r 6 2) 2 0 0 (s 5 0) 1) * (s 17 ((3 * i) + 2)))) - (sp_ln s j i 1)))), (6, .int (sp_ab ((((0 + ((sp_cm (r 5 0) (r 6 0) 0 0 0 (s 5 0) 1) * (s 17 ((3 * i) + 0)))) + ((sp_cm (r 5 0) (r 6 1) 1 0 0 (s 5 0) 1) * (s 17 ((3 * i) + 1)))) + ((sp_cm (r 5 0) (r 6 2) 2 0 0 (s 5 0) 1) * (s 17 ((3 * i) + 2)))) - (sp_ln s j i 1)))), (5, .int (((0 + ((sp_cm (r 5 0) (r 6 0) 0 0 0 (s 5 0) 1) * (s 17 ((3 * i) + 0)))) + ((sp_cm (r 5 0) (r 6 1) 1 0 0 (s 5 0) 1) * (s 17 ((3 * i) + 1)))) + ((sp_cm (r 5 0) (r 6 2) 2 0 0 (s 5 0) 1) * (s 17 ((3 * i) + 2))))), (0, .ref (tv_ad c 0)), (1, .int p0)]) C dX8_mixUnlike_130 6 rfl rfl (by decide) rfl ?_
          refine tv_goto C 4 dX8_mixUnlike_133 (by decide) ?_
          refine tv_lsub [5, 6, 2, 0] rfl ?_
          exact ih4 (i + 1) _ _ (by omega)  (by simp only [sp_mu, sp_mx, sp_md, c_2, c_17, tn_d_nle c_17, c_49, tn_d_nle c_49, ↓reduceIte]) (by first | rfl | exact nI_1 _ | (simp only [c_2, c_17, tn_d_nle c_17, c_49, tn_d_nle c_49, if_true, ↓reduceIte]; done) | (simp [c_2, c_17, tn_d_nle c_17, c_49, tn_d_nle c_49, if_true]; done) | (exfalso; clear hR C; simp_all; done))
  refine tv_lsub [2, 3, 1, 0] rfl ?_
  exact hL4 (nl - 0) 0 _ _ (by omega)  (by first | (simp only [if_true, ↓reduceIte]; done) | rfl | (simp [if_true]; done) | (exfalso; clear hR C; simp_all; done)) (by first | (simp only [if_true, ↓reduceIte]; done) | rfl | (simp [if_true]; done) | (exfalso; clear hR C; simp_all; done))
set_option maxHeartbeats 4000000 in
set_option maxRecDepth 100000 in
theorem kX8_traitors (c : tv_c) (s r : ts_T)  (p0 p1 p2 : Int32) (hI : iv s) : tv_Fi c 19 yX8_traitors wsX8_traitors { frames := 4, cells := 0, slots := 0, locals := 103 } [.ref (tv_ad c 0), .int p0, .int p1, .int p2] (eM c s r) (sp_traitors s p0 p1 p2) (eM c s r) := by
  refine tv_metI (by decide +kernel) rfl rfl (Nat.le_of_ble_eq_true rfl) (fun X C hR => ?_)
  show tv_V c 19 X (eM c s r) 0 [(0, .ref (tv_ad c 0)), (1, .int p0), (2, .int p1), (3, .int p2)] []
  have hC := iv.hC hI
  obtain ⟨h, w, n, nk, nl, ny, nm, li, e2, e3, e9, hnw, hh, hw, hn, hz, hp, e7, hk, e8, hl, e4, hy, e5, hm, e6, hli, hcel, hkin, hban, hwei, hshe⟩ := id hI
  have ek7 := tk_e e7 (by omega)
  refine tv_aload_n C dX8_traitors_0 rfl 0 rfl ?_
  refine tv_iload_n C dX8_traitors_1 rfl 1 rfl ?_
  refine tv_calli (As := [.int p0]) (rest := []) (ci := 8) (cn := RX8) (T := TX8) (Nf := 35) C 0 (kX8_isLight c s r  p0 ) gX8_traitors_X8_isLight rfl yd_X8_isLight ⟨rfl, rfl⟩ (by decide) (by decide) rfl rfl rfl rfl (Nat.le_of_ble_eq_true rfl) dX8_traitors_2 (fun q_1 u_1 z_1 => ?_)
  obtain ⟨rfl, rfl⟩ := z_1
  refine tv_if_eq C 21 dX8_traitors_5 (by decide) (fun c_2 => ?_) (fun c_2 => ?_)
  · skip
    refine tv_iconst (v := (-1)) C dX8_traitors_21 (by decide) ?_
    exact hR _ _ _ _ dX8_traitors_22 ⟨by first | (simp only [sp_traitors, ek7, eq_true c_2, if_true, ↓reduceIte]; done) | rfl | (simp [sp_traitors, ek7, eq_true c_2, if_true]; done) | (exfalso; clear hR C; simp_all; done), by first | (simp only [sp_traitors, ek7, eq_true c_2, if_true, ts_ss, ts_aa, ↓reduceIte]; done) | rfl | (simp [sp_traitors, ek7, eq_true c_2, if_true, ts_ss, ts_aa]; done) | (exfalso; clear hR C; simp_all; done)⟩
  · skip
    obtain ⟨j_p0, hj_p0, ej_p0, ek_p0⟩ := in_ix e8 (by omega) c_2
    refine tv_aload_n C dX8_traitors_8 rfl 0 rfl ?_
    refine tv_iload_n C dX8_traitors_9 rfl 2 rfl ?_
    refine tv_calli (As := [.int p1]) (rest := []) (ci := 8) (cn := RX8) (T := TX8) (Nf := 35) C 0 (kX8_isLight c s r  p1 ) gX8_traitors_X8_isLight rfl yd_X8_isLight ⟨rfl, rfl⟩ (by decide) (by decide) rfl rfl rfl rfl (Nat.le_of_ble_eq_true rfl) dX8_traitors_10 (fun q_3 u_3 z_3 => ?_)
    obtain ⟨rfl, rfl⟩ := z_3
    refine tv_if_eq C 21 dX8_traitors_13 (by decide) (fun c_4 => ?_) (fun c_4 => ?_)
    · skip
      refine tv_iconst (v := (-1)) C dX8_traitors_21 (by decide) ?_
      exact hR _ _ _ _ dX8_traitors_22 ⟨by first | (simp only [sp_traitors, ek7, c_2, ek_p0, eq_true c_4, if_true, ↓reduceIte]; done) | rfl | (simp [sp_traitors, ek7, c_2, ek_p0, eq_true c_4, if_true]; done) | (exfalso; clear hR C; simp_all; done), by first | (simp only [sp_traitors, ek7, c_2, ek_p0, eq_true c_4, if_true, ts_ss, ts_aa, ↓reduceIte]; done) | rfl | (simp [sp_traitors, ek7, c_2, ek_p0, eq_true c_4, if_true, ts_ss, ts_aa]; done) | (exfalso; clear hR C; simp_all; done)⟩
    · skip
      obtain ⟨j_p1, hj_p1, ej_p1, ek_p1⟩ := in_ix e8 (by omega) c_4
      refine tv_iload_n C dX8_traitors_16 rfl 3 rfl ?_
      refine tv_iconst (v := (-1)) C dX8_traitors_17 (by decide) ?_
      refine tv_icmp_ge C 23 dX8_traitors_18 (by decide) (fun c_5 => ?_) (fun c_5 => ?_)
      · skip
        refine tv_iconst (v := 0) C dX8_traitors_23 (by decide) ?_
        refine tv_istore (lv' := [(4, .int 0), (0, .ref (tv_ad c 0)), (1, .int p0), (2, .int p1), (3, .int p2)]) C dX8_traitors_24 (by decide) rfl ?_
        refine tv_iconst (v := 0) C dX8_traitors_26 (by decide) ?_
        refine tv_istore (lv' := [(5, .int 0), (4, .int 0), (0, .ref (tv_ad c 0)), (1, .int p0), (2, .int p1), (3, .int p2)]) C dX8_traitors_27 (by decide) rfl ?_
        have hL29 : ∀ (k_29 i : Nat) (x_29_4 : Int32) (x_29_5 : Int32), i + k_29 = nk → (sp_to s j_p0 j_p1 p2 nk nk 0 0 = sp_to s j_p0 j_p1 p2 nk (nk - i) i x_29_4) → x_29_5 = (nI i) → tv_V c 19 X (eM c s r) 29 [(0, .ref (tv_ad c 0)), (1, .int p0), (2, .int p1), (3, .int p2), (4, .int x_29_4), (5, .int x_29_5)] [] := by
          intro k_29
          induction k_29 with
          | zero =>
            intro i x_29_4 x_29_5 hi29 q1 ex_29_5
            subst ex_29_5
            have hN29 : i = nk := by omega
            refine tv_iload C dX8_traitors_29 5 rfl ?_
            refine tv_aload_n C dX8_traitors_31 rfl 0 rfl ?_
            refine tv_get (ci := 8) (Cn := RX8) (T := TX8) (Nf := 35) (v := .int (s 7 0)) C 0 (by decide) rfl rfl in_X8_traitors_X8 19 (by decide) lk_X8_traitors_124 rfl dX8_traitors_32 ?_
            refine tv_icmp_ge C 115 dX8_traitors_35 (by decide) (fun c_6 => ?_) (fun c_6 => absurd (tn_le e7 (rfl : nI i = nI i) (by omega) (by omega)) c_6)
            refine tv_iload_n C dX8_traitors_115 rfl 3 rfl ?_
            refine tv_iconst (v := (-1)) C dX8_traitors_116 (by decide) ?_
            refine tv_icmp_ne C 125 dX8_traitors_117 (by decide) (fun c_7 => ?_) (fun c_7 => ?_)
            · skip
              refine tv_bipush (v := (-9)) C dX8_traitors_125 (by decide) ?_
              exact hR _ _ _ _ dX8_traitors_127 ⟨by rw [hN29, Nat.sub_self] at q1; simp only [sp_traitors, ek7, c_2, ek_p0, c_4, ek_p1, c_5, tn_d_le c_5, c_6, c_7, ↓reduceIte, q1, sp_to], by first | (simp only [sp_traitors, ek7, c_2, ek_p0, c_4, ek_p1, c_5, tn_d_le c_5, q1, c_6, c_7, if_true, ts_ss, ts_aa, ↓reduceIte]; done) | rfl | (simp [sp_traitors, ek7, c_2, ek_p0, c_4, ek_p1, c_5, tn_d_le c_5, q1, c_6, c_7, if_true, ts_ss, ts_aa]; done) | (exfalso; clear hR C; simp_all; done)⟩
            · skip
              refine tv_iload C dX8_traitors_120 4 rfl ?_
              refine tv_goto C 127 dX8_traitors_122 (by decide) ?_
              exact hR _ _ _ _ dX8_traitors_127 ⟨by rw [hN29, Nat.sub_self] at q1; simp only [sp_traitors, ek7, c_2, ek_p0, c_4, ek_p1, c_5, tn_d_le c_5, c_6, eq_true c_7, ↓reduceIte, q1, sp_to], by first | (simp only [sp_traitors, ek7, c_2, ek_p0, c_4, ek_p1, c_5, tn_d_le c_5, q1, c_6, eq_true c_7, if_true, ts_ss, ts_aa, ↓reduceIte]; done) | rfl | (simp [sp_traitors, ek7, c_2, ek_p0, c_4, ek_p1, c_5, tn_d_le c_5, q1, c_6, eq_true c_7, if_true, ts_ss, ts_aa]; done) | (exfalso; clear hR C; simp_all; done)⟩
          | succ k_29 ih29 =>
            intro i x_29_4 x_29_5 hi29 q1 ex_29_5
            subst ex_29_5
            have hN29 : i < nk := by omega
            refine tv_iload C dX8_traitors_29 5 rfl ?_
            refine tv_aload_n C dX8_traitors_31 rfl 0 rfl ?_
            refine tv_get (ci := 8) (Cn := RX8) (T := TX8) (Nf := 35) (v := .int (s 7 0)) C 0 (by decide) rfl rfl in_X8_traitors_X8 19 (by decide) lk_X8_traitors_124 rfl dX8_traitors_32 ?_
            refine tv_icmp_ge C 115 dX8_traitors_35 (by decide) (fun c_8 => absurd c_8 (tn_nle e7 (rfl : nI i = nI i) (by omega) (by omega))) (fun c_8 => ?_)
            refine tv_iload C dX8_traitors_38 5 rfl ?_
            refine tv_iconst (v := 1) C dX8_traitors_40 (by decide) ?_
            refine tv_iadd C dX8_traitors_41 ?_
            refine tv_istore (lv' := [(6, .int ((nI i) + 1)), (0, .ref (tv_ad c 0)), (1, .int p0), (2, .int p1), (3, .int p2), (4, .int x_29_4), (5, .int (nI i))]) C dX8_traitors_42 (by decide) rfl ?_
            have hL44 : ∀ (k_44 m : Nat) (x_44_4 : Int32) (x_44_6 : Int32), m + k_44 = nk → (sp_to s j_p0 j_p1 p2 nk nk 0 0 = (match sp_ti s j_p0 j_p1 p2 i (nk - m) m x_44_4 with | .inl v => .inl v | .inr y => sp_to s j_p0 j_p1 p2 nk (nk - (i + 1)) (i + 1) y)) → x_44_6 = (nI m) → tv_V c 19 X (eM c s r) 44 [(0, .ref (tv_ad c 0)), (1, .int p0), (2, .int p1), (3, .int p2), (4, .int x_44_4), (5, .int (nI i)), (6, .int x_44_6)] [] := by
              intro k_44
              induction k_44 with
              | zero =>
                intro m x_44_4 x_44_6 hi44 q2 ex_44_6
                subst ex_44_6
                have hN44 : m = nk := by omega
                refine tv_iload C dX8_traitors_44 6 rfl ?_
                refine tv_aload_n C dX8_traitors_46 rfl 0 rfl ?_
                refine tv_get (ci := 8) (Cn := RX8) (T := TX8) (Nf := 35) (v := .int (s 7 0)) C 0 (by decide) rfl rfl in_X8_traitors_X8 19 (by decide) lk_X8_traitors_124 rfl dX8_traitors_47 ?_
                refine tv_icmp_ge C 109 dX8_traitors_50 (by decide) (fun c_9 => ?_) (fun c_9 => absurd (tn_le e7 (rfl : nI m = nI m) (by omega) (by omega)) c_9)
                refine tv_iinc (v := ((nI i) + 1)) (lv' := [(5, .int ((nI i) + 1)), (0, .ref (tv_ad c 0)), (1, .int p0), (2, .int p1), (3, .int p2), (4, .int x_44_4), (6, .int (nI m))]) C dX8_traitors_109 5 rfl rfl (by decide) rfl ?_
                refine tv_goto C 29 dX8_traitors_112 (by decide) ?_
                refine tv_lsub [1, 2, 3, 4, 5, 0] rfl ?_
                exact ih29 (i + 1) x_44_4 _ (by omega) (by rw [q2, hN44, Nat.sub_self]; rfl) (by first | rfl | exact nI_1 _ | (simp only [sp_traitors, ek7, c_2, ek_p0, c_4, ek_p1, c_5, tn_d_le c_5, q1, c_8, q2, c_9, if_true, ↓reduceIte]; done) | (simp [sp_traitors, ek7, c_2, ek_p0, c_4, ek_p1, c_5, tn_d_le c_5, q1, c_8, q2, c_9, if_true]; done) | (exfalso; clear hR C; simp_all; done))
              | succ k_44 ih44 =>
                intro m x_44_4 x_44_6 hi44 q2 ex_44_6
                subst ex_44_6
                have hN44 : m < nk := by omega
                refine tv_iload C dX8_traitors_44 6 rfl ?_
                refine tv_aload_n C dX8_traitors_46 rfl 0 rfl ?_
                refine tv_get (ci := 8) (Cn := RX8) (T := TX8) (Nf := 35) (v := .int (s 7 0)) C 0 (by decide) rfl rfl in_X8_traitors_X8 19 (by decide) lk_X8_traitors_124 rfl dX8_traitors_47 ?_
                refine tv_icmp_ge C 109 dX8_traitors_50 (by decide) (fun c_10 => absurd c_10 (tn_nle e7 (rfl : nI m = nI m) (by omega) (by omega))) (fun c_10 => ?_)
                refine tv_aload_n C dX8_traitors_53 rfl 0 rfl ?_
                refine tv_iload C dX8_traitors_54 5 rfl ?_
                refine tv_iload C dX8_traitors_56 6 rfl ?_
                refine tv_iload_n C dX8_traitors_58 rfl 1 rfl ?_
                refine tv_calli (As := [.int (nI i), .int (nI m), .int p0]) (rest := []) (ci := 8) (cn := RX8) (T := TX8) (Nf := 35) C 0 (kX8_freshUnlike c s r i m j_p0 (nI i) (nI m) p0 (rfl : nI i = nI i) (by omega) (rfl : nI m = nI m) (by omega) ej_p0 (by omega)) gX8_traitors_X8_freshUnlike rfl yd_X8_freshUnlike ⟨rfl, rfl⟩ (by decide) (by decide) rfl rfl rfl rfl (Nat.le_of_ble_eq_true rfl) dX8_traitors_59 (fun q_11 u_11 z_11 => ?_)
                obtain ⟨rfl, rfl⟩ := z_11
                refine tv_aload_n C dX8_traitors_62 rfl 0 rfl ?_
                refine tv_get (ci := 8) (Cn := RX8) (T := TX8) (Nf := 35) (v := .int (s 6 0)) C 0 (by decide) rfl rfl in_X8_traitors_X8 9 (by decide) lk_X8_traitors_118 rfl dX8_traitors_63 ?_
                refine tv_icmp_ge C 103 dX8_traitors_66 (by decide) (fun c_12 => ?_) (fun c_12 => ?_)
                · skip
                  refine tv_iinc (v := ((nI m) + 1)) (lv' := [(6, .int ((nI m) + 1)), (0, .ref (tv_ad c 0)), (1, .int p0), (2, .int p1), (3, .int p2), (4, .int x_44_4), (5, .int (nI i))]) C dX8_traitors_103 6 rfl rfl (by decide) rfl ?_
                  refine tv_goto C 44 dX8_traitors_106 (by decide) ?_
                  refine tv_lsub [1, 2, 3, 4, 5, 6, 0] rfl ?_
                  exact ih44 (m + 1) x_44_4 _ (by omega) (by rw [q2, show nk - m = (nk - (m + 1)) + 1 by omega]; simp only [sp_ti, sp_tp, c_10, c_12, tn_d_le c_12, decide_true, decide_false, Bool.and_true, Bool.true_and, Bool.and_false, Bool.false_and, Bool.false_eq_true, ↓reduceIte]) (by first | rfl | exact nI_1 _ | (simp only [sp_traitors, ek7, c_2, ek_p0, c_4, ek_p1, c_5, tn_d_le c_5, q1, c_8, q2, c_10, c_12, tn_d_le c_12, if_true, ↓reduceIte]; done) | (simp [sp_traitors, ek7, c_2, ek_p0, c_4, ek_p1, c_5, tn_d_le c_5, q1, c_8, q2, c_10, c_12, tn_d_le c_12, if_true]; done) | (exfalso; clear hR C; simp_all; done))
                · skip
                  refine tv_aload_n C dX8_traitors_69 rfl 0 rfl ?_
                  refine tv_iload C dX8_traitors_70 5 rfl ?_
                  refine tv_iload C dX8_traitors_72 6 rfl ?_
                  refine tv_iload_n C dX8_traitors_74 rfl 2 rfl ?_
                  refine tv_calli (As := [.int (nI i), .int (nI m), .int p1]) (rest := []) (ci := 8) (cn := RX8) (T := TX8) (Nf := 35) C 0 (kX8_freshUnlike c s r i m j_p1 (nI i) (nI m) p1 (rfl : nI i = nI i) (by omega) (rfl : nI m = nI m) (by omega) ej_p1 (by omega)) gX8_traitors_X8_freshUnlike rfl yd_X8_freshUnlike ⟨rfl, rfl⟩ (by decide) (by decide) rfl rfl rfl rfl (Nat.le_of_ble_eq_true rfl) dX8_traitors_75 (fun q_13 u_13 z_13 => ?_)
                  obtain ⟨rfl, rfl⟩ := z_13
                  refine tv_aload_n C dX8_traitors_78 rfl 0 rfl ?_
                  refine tv_get (ci := 8) (Cn := RX8) (T := TX8) (Nf := 35) (v := .int (s 6 0)) C 0 (by decide) rfl rfl in_X8_traitors_X8 9 (by decide) lk_X8_traitors_118 rfl dX8_traitors_79 ?_
                  refine tv_icmp_lt C 103 dX8_traitors_82 (by decide) (fun c_14 => ?_) (fun c_14 => ?_)
                  · skip
                    refine tv_iinc (v := ((nI m) + 1)) (lv' := [(6, .int ((nI m) + 1)), (0, .ref (tv_ad c 0)), (1, .int p0), (2, .int p1), (3, .int p2), (4, .int x_44_4), (5, .int (nI i))]) C dX8_traitors_103 6 rfl rfl (by decide) rfl ?_
                    refine tv_goto C 44 dX8_traitors_106 (by decide) ?_
                    refine tv_lsub [1, 2, 3, 4, 5, 6, 0] rfl ?_
                    exact ih44 (m + 1) x_44_4 _ (by omega) (by rw [q2, show nk - m = (nk - (m + 1)) + 1 by omega]; simp only [sp_ti, sp_tp, c_10, c_12, tn_d_nle c_12, c_14, tn_d_lt c_14, decide_true, decide_false, Bool.and_true, Bool.true_and, Bool.and_false, Bool.false_and, Bool.false_eq_true, ↓reduceIte]) (by first | rfl | exact nI_1 _ | (simp only [sp_traitors, ek7, c_2, ek_p0, c_4, ek_p1, c_5, tn_d_le c_5, q1, c_8, q2, c_10, c_12, tn_d_nle c_12, c_14, tn_d_lt c_14, if_true, ↓reduceIte]; done) | (simp [sp_traitors, ek7, c_2, ek_p0, c_4, ek_p1, c_5, tn_d_le c_5, q1, c_8, q2, c_10, c_12, tn_d_nle c_12, c_14, tn_d_lt c_14, if_true]; done) | (exfalso; clear hR C; simp_all; done))
                  · skip
                    refine tv_iload C dX8_traitors_85 4 rfl ?_
                    refine tv_iload_n C dX8_traitors_87 rfl 3 rfl ?_
                    refine tv_icmp_ne C 100 dX8_traitors_88 (by decide) (fun c_15 => ?_) (fun c_15 => ?_)
                    · skip
                      refine tv_iinc (v := (x_44_4 + 1)) (lv' := [(4, .int (x_44_4 + 1)), (0, .ref (tv_ad c 0)), (1, .int p0), (2, .int p1), (3, .int p2), (5, .int (nI i)), (6, .int (nI m))]) C dX8_traitors_100 4 rfl rfl (by decide) rfl ?_
                      refine tv_iinc (v := ((nI m) + 1)) (lv' := [(6, .int ((nI m) + 1)), (4, .int (x_44_4 + 1)), (0, .ref (tv_ad c 0)), (1, .int p0), (2, .int p1), (3, .int p2), (5, .int (nI i))]) C dX8_traitors_103 6 rfl rfl (by decide) rfl ?_
                      refine tv_goto C 44 dX8_traitors_106 (by decide) ?_
                      refine tv_lsub [2, 3, 4, 5, 1, 6, 0] rfl ?_
                      exact ih44 (m + 1) (x_44_4 + 1) _ (by omega) (by rw [q2, show nk - m = (nk - (m + 1)) + 1 by omega]; simp only [sp_ti, sp_tp, c_10, c_12, tn_d_nle c_12, c_14, tn_d_nlt c_14, c_15, decide_true, decide_false, Bool.and_true, Bool.true_and, Bool.and_false, Bool.false_and, Bool.false_eq_true, ↓reduceIte]) (by first | rfl | exact nI_1 _ | (simp only [sp_traitors, ek7, c_2, ek_p0, c_4, ek_p1, c_5, tn_d_le c_5, q1, c_8, q2, c_10, c_12, tn_d_nle c_12, c_14, tn_d_nlt c_14, c_15, if_true, ↓reduceIte]; done) | (simp [sp_traitors, ek7, c_2, ek_p0, c_4, ek_p1, c_5, tn_d_le c_5, q1, c_8, q2, c_10, c_12, tn_d_nle c_12, c_14, tn_d_nlt c_14, c_15, if_true]; done) | (exfalso; clear hR C; simp_all; done))
                    · skip
                      refine tv_bipush (v := 10) C dX8_traitors_91 (by decide) ?_
                      refine tv_iload C dX8_traitors_93 5 rfl ?_
                      refine tv_imul C dX8_traitors_95 ?_
                      refine tv_iload C dX8_traitors_96 6 rfl ?_
                      refine tv_iadd C dX8_traitors_98 ?_
                      exact hR _ _ _ _ dX8_traitors_99 ⟨by rw [show nk - m = (nk - (m + 1)) + 1 by omega] at q2; simp only [sp_ti, sp_tp, c_10, c_12, tn_d_nle c_12, c_14, tn_d_nlt c_14, eq_true c_15, decide_true, decide_false, Bool.and_true, Bool.true_and, Bool.and_false, Bool.false_and, Bool.false_eq_true, ↓reduceIte] at q2; simp only [sp_traitors, ek7, c_2, ek_p0, c_4, ek_p1, c_5, tn_d_le c_5, c_8, c_10, c_12, tn_d_nle c_12, c_14, tn_d_nlt c_14, eq_true c_15, q2, ↓reduceIte], by first | (simp only [sp_traitors, ek7, c_2, ek_p0, c_4, ek_p1, c_5, tn_d_le c_5, q1, c_8, q2, c_10, c_12, tn_d_nle c_12, c_14, tn_d_nlt c_14, eq_true c_15, if_true, ts_ss, ts_aa, ↓reduceIte]; done) | rfl | (simp [sp_traitors, ek7, c_2, ek_p0, c_4, ek_p1, c_5, tn_d_le c_5, q1, c_8, q2, c_10, c_12, tn_d_nle c_12, c_14, tn_d_nlt c_14, eq_true c_15, if_true, ts_ss, ts_aa]; done) | (exfalso; clear hR C; simp_all; done)⟩
            refine tv_lsub [1, 2, 3, 4, 5, 6, 0] rfl ?_
            exact hL44 (nk - (i + 1)) (i + 1) x_29_4 _ (by omega) (by rw [q1, show nk - i = (nk - (i + 1)) + 1 by omega]; rfl) (by exact nI_1 _)
        refine tv_lsub [2, 3, 4, 5, 1, 0] rfl ?_
        exact hL29 (nk - 0) 0 0 _ (by omega) (by rfl) (by first | (simp only [sp_traitors, ek7, c_2, ek_p0, c_4, ek_p1, c_5, tn_d_le c_5, if_true, ↓reduceIte]; done) | rfl | (simp [sp_traitors, ek7, c_2, ek_p0, c_4, ek_p1, c_5, tn_d_le c_5, if_true]; done) | (exfalso; clear hR C; simp_all; done))
      · skip
        refine tv_iconst (v := (-1)) C dX8_traitors_21 (by decide) ?_
        exact hR _ _ _ _ dX8_traitors_22 ⟨by first | (simp only [sp_traitors, ek7, c_2, ek_p0, c_4, ek_p1, c_5, tn_d_nle c_5, if_true, ↓reduceIte]; done) | rfl | (simp [sp_traitors, ek7, c_2, ek_p0, c_4, ek_p1, c_5, tn_d_nle c_5, if_true]; done) | (exfalso; clear hR C; simp_all; done), by first | (simp only [sp_traitors, ek7, c_2, ek_p0, c_4, ek_p1, c_5, tn_d_nle c_5, if_true, ts_ss, ts_aa, ↓reduceIte]; done) | rfl | (simp [sp_traitors, ek7, c_2, ek_p0, c_4, ek_p1, c_5, tn_d_nle c_5, if_true, ts_ss, ts_aa]; done) | (exfalso; clear hR C; simp_all; done)⟩
set_option maxHeartbeats 4000000 in
set_option maxRecDepth 100000 in
theorem kX8_mix (c : tv_c) (s r : ts_T)  (p0 p1 p2 p3 : Int32) (hI : iv s) : tv_Mi c 19 yX8_mix wsX8_mix { frames := 2, cells := 0, slots := 0, locals := 44 } [.ref (tv_ad c 0), .int p0, .int p1, .int p2, .int p3] (eM c s r) (fun q_0 u_0 => q_0 = (sp_mix s p0 p1 p2 p3).1 ∧ ∃ r_0, u_0 = eM c (sp_mix s p0 p1 p2 p3).2 r_0) := by
  refine tv_metI (by decide +kernel) rfl rfl (Nat.le_of_ble_eq_true rfl) (fun X C hR => ?_)
  show tv_V c 19 X (eM c s r) 0 [(0, .ref (tv_ad c 0)), (1, .int p0), (2, .int p1), (3, .int p2), (4, .int p3)] []
  have hC := iv.hC hI
  obtain ⟨h, w, n, nk, nl, ny, nm, li, e2, e3, e9, hnw, hh, hw, hn, hz, hp, e7, hk, e8, hl, e4, hy, e5, hm, e6, hli, hcel, hkin, hban, hwei, hshe⟩ := id hI
  have ek7 := tk_e e7 (by omega)
  refine tv_aload_n C dX8_mix_0 rfl 0 rfl ?_
  refine tv_get (ci := 8) (Cn := RX8) (T := TX8) (Nf := 35) (v := .ref (tv_ad c 13)) C 0 (by decide) rfl rfl in_X8_mix_X8 24 (by decide) lk_X8_mix_47 rfl dX8_mix_1 ?_
  refine tv_iconst (v := 0) C dX8_mix_4 (by decide) ?_
  refine tv_iload_n C dX8_mix_5 rfl 1 rfl ?_
  refine tv_iast (E' := (eM c s (ts_a r 4 (upd (r 4) 0 p0)))) C 13 (by decide) rfl 0 (tn_l 0) (show 0 < 4 by omega) (by decide) (eM_u_drops c s r (upd (r 4) 0 p0)) dX8_mix_6 ?_
  refine tv_aload_n C dX8_mix_7 rfl 0 rfl ?_
  refine tv_get (ci := 8) (Cn := RX8) (T := TX8) (Nf := 35) (v := .ref (tv_ad c 13)) C 0 (by decide) rfl rfl in_X8_mix_X8 24 (by decide) lk_X8_mix_47 rfl dX8_mix_8 ?_
  refine tv_iconst (v := 1) C dX8_mix_11 (by decide) ?_
  refine tv_iload_n C dX8_mix_12 rfl 2 rfl ?_
  refine tv_iast (E' := (eM c s (ts_a r 4 (upd (upd (r 4) 0 p0) 1 p1)))) C 13 (by decide) rfl 1 (tn_l 1) (show 1 < 4 by omega) (by decide) ((eM_u_drops c s (ts_a r 4 (upd (r 4) 0 p0)) (upd (upd (r 4) 0 p0) 1 p1)).trans (by first | (rw [ts_mg]; done) | (rw [ts_mg]; rfl) | (rw [ts_ss]; done) | (rw [ts_ss]; rfl))) dX8_mix_13 ?_
  refine tv_aload_n C dX8_mix_14 rfl 0 rfl ?_
  refine tv_get (ci := 8) (Cn := RX8) (T := TX8) (Nf := 35) (v := .ref (tv_ad c 13)) C 0 (by decide) rfl rfl in_X8_mix_X8 24 (by decide) lk_X8_mix_47 rfl dX8_mix_15 ?_
  refine tv_iconst (v := 2) C dX8_mix_18 (by decide) ?_
  refine tv_iload_n C dX8_mix_19 rfl 3 rfl ?_
  refine tv_iast (E' := (eM c s (ts_a r 4 (upd (upd (upd (r 4) 0 p0) 1 p1) 2 p2)))) C 13 (by decide) rfl 2 (tn_l 2) (show 2 < 4 by omega) (by decide) ((eM_u_drops c s (ts_a r 4 (upd (upd (r 4) 0 p0) 1 p1)) (upd (upd (upd (r 4) 0 p0) 1 p1) 2 p2)).trans (by first | (rw [ts_mg]; done) | (rw [ts_mg]; rfl) | (rw [ts_ss]; done) | (rw [ts_ss]; rfl))) dX8_mix_20 ?_
  refine tv_aload_n C dX8_mix_21 rfl 0 rfl ?_
  refine tv_get (ci := 8) (Cn := RX8) (T := TX8) (Nf := 35) (v := .ref (tv_ad c 13)) C 0 (by decide) rfl rfl in_X8_mix_X8 24 (by decide) lk_X8_mix_47 rfl dX8_mix_22 ?_
  refine tv_iconst (v := 3) C dX8_mix_25 (by decide) ?_
  refine tv_iload C dX8_mix_26 4 rfl ?_
  refine tv_iast (E' := (eM c s (ts_a r 4 (upd (upd (upd (upd (r 4) 0 p0) 1 p1) 2 p2) 3 p3)))) C 13 (by decide) rfl 3 (tn_l 3) (show 3 < 4 by omega) (by decide) ((eM_u_drops c s (ts_a r 4 (upd (upd (upd (r 4) 0 p0) 1 p1) 2 p2)) (upd (upd (upd (upd (r 4) 0 p0) 1 p1) 2 p2) 3 p3)).trans (by first | (rw [ts_mg]; done) | (rw [ts_mg]; rfl) | (rw [ts_ss]; done) | (rw [ts_ss]; rfl))) dX8_mix_28 ?_
  refine tv_aload_n C dX8_mix_29 rfl 0 rfl ?_
  refine tv_calli (As := []) (rest := []) (ci := 8) (cn := RX8) (T := TX8) (Nf := 35) C 0 (kX8_areDrops c s (ts_a r 4 (upd (upd (upd (upd (r 4) 0 p0) 1 p1) 2 p2) 3 p3))   ) gX8_mix_X8_areDrops rfl yd_X8_areDrops ⟨rfl, rfl⟩ (by decide) (by decide) rfl rfl rfl rfl (Nat.le_of_ble_eq_true rfl) dX8_mix_30 (fun q_1 u_1 z_1 => ?_)
  obtain ⟨rfl, rfl⟩ := z_1
  show tv_V c 19 X (eM c s (ts_a r 4 (upd (upd (upd (upd (r 4) 0 p0) 1 p1) 2 p2) 3 p3))) 33 [(0, .ref (tv_ad c 0)), (1, .int p0), (2, .int p1), (3, .int p2), (4, .int p3)] [.int (sp_ad s (sp_d4 (fun _ => 0) p0 p1 p2 p3))]
  refine tv_if_ne C 39 dX8_mix_33 (by decide) (fun c_2 => ?_) (fun c_2 => ?_)
  · skip
    refine tv_aload_n C dX8_mix_39 rfl 0 rfl ?_
    refine tv_calli (As := []) (rest := []) (ci := 8) (cn := RX8) (T := TX8) (Nf := 35) C 0 (kX8_all c s (ts_a r 4 (upd (upd (upd (upd (r 4) 0 p0) 1 p1) 2 p2) 3 p3))   hC) gX8_mix_X8_all rfl yd_X8_all ⟨rfl, rfl⟩ (by decide) (by decide) rfl rfl rfl rfl (Nat.le_of_ble_eq_true rfl) dX8_mix_40 (fun q_3 u_3 z_3 => ?_)
    obtain ⟨rfl, rfl⟩ := z_3
    show tv_V c 19 X (eM c s (ts_a r 4 (upd (upd (upd (upd (r 4) 0 p0) 1 p1) 2 p2) 3 p3))) 43 [(0, .ref (tv_ad c 0)), (1, .int p0), (2, .int p1), (3, .int p2), (4, .int p3)] [.int (s 9 0)]
    refine tv_if_ne C 49 dX8_mix_43 (by decide) (fun c_4 => ?_) (fun c_4 => ?_)
    · skip
      have nc_4 : ¬ n = 0 := tn_nf (tn_eqI e9 (tn_l 0) (by omega) (by omega)) c_4
      refine tv_aload_n C dX8_mix_49 rfl 0 rfl ?_
      refine tv_get (ci := 8) (Cn := RX8) (T := TX8) (Nf := 35) (v := .int (s 7 0)) C 0 (by decide) rfl rfl in_X8_mix_X8 19 (by decide) lk_X8_mix_124 rfl dX8_mix_50 ?_
      refine tv_bipush (v := 6) C dX8_mix_53 (by decide) ?_
      refine tv_icmp_ne C 61 dX8_mix_55 (by decide) (fun c_5 => ?_) (fun c_5 => ?_)
      · skip
        have nc_5 : ¬ nk = 6 := tn_nf (tn_eqI e7 (tn_l 6) (by omega) (by omega)) c_5
        refine tv_aload_n C dX8_mix_61 rfl 0 rfl ?_
        refine tv_callv (As := []) (rest := []) (ci := 8) (cn := RX8) (T := TX8) (Nf := 35) C 0 (kX8_layMix c s (ts_a r 4 (upd (upd (upd (upd (r 4) 0 p0) 1 p1) 2 p2) 3 p3))   (ad_sd (s := s) (by assumption))) gX8_mix_X8_layMix rfl yd_X8_layMix ⟨rfl, rfl⟩ (by decide) (by decide) rfl rfl rfl rfl (Nat.le_of_ble_eq_true rfl) dX8_mix_62 (fun u_6 z_6 => ?_)
        subst z_6
        show tv_V c 19 X (eM c s (ts_a (ts_s (ts_a r 4 (upd (upd (upd (upd (r 4) 0 p0) 1 p1) 2 p2) 3 p3)) 5 (sp_mk s ((upd (upd (upd (upd (r 4) 0 p0) 1 p1) 2 p2) 3 p3)) 4)) 6 (upd (upd (upd (r 6) 0 (sp_mb s ((upd (upd (upd (upd (r 4) 0 p0) 1 p1) 2 p2) 3 p3)) 0)) 1 (sp_mb s ((upd (upd (upd (upd (r 4) 0 p0) 1 p1) 2 p2) 3 p3)) 1)) 2 (sp_mb s ((upd (upd (upd (upd (r 4) 0 p0) 1 p1) 2 p2) 3 p3)) 2)))) 65 [(0, .ref (tv_ad c 0)), (1, .int p0), (2, .int p1), (3, .int p2), (4, .int p3)] []
        refine tv_aload_n C dX8_mix_65 rfl 0 rfl ?_
        refine tv_aload_n C dX8_mix_66 rfl 0 rfl ?_
        refine tv_get (ci := 8) (Cn := RX8) (T := TX8) (Nf := 35) (v := .int (sp_mk s ((upd (upd (upd (upd (r 4) 0 p0) 1 p1) 2 p2) 3 p3)) 4)) C 0 (by decide) rfl rfl in_X8_mix_X8 25 (by decide) lk_X8_mix_168 rfl dX8_mix_67 ?_
        refine tv_aload_n C dX8_mix_70 rfl 0 rfl ?_
        refine tv_get (ci := 8) (Cn := RX8) (T := TX8) (Nf := 35) (v := .ref (tv_ad c 14)) C 0 (by decide) rfl rfl in_X8_mix_X8 26 (by decide) lk_X8_mix_50 rfl dX8_mix_71 ?_
        refine tv_iconst (v := 0) C dX8_mix_74 (by decide) ?_
        refine tv_iald (f := (upd (upd (upd (r 6) 0 (sp_mb s ((upd (upd (upd (upd (r 4) 0 p0) 1 p1) 2 p2) 3 p3)) 0)) 1 (sp_mb s ((upd (upd (upd (upd (r 4) 0 p0) 1 p1) 2 p2) 3 p3)) 1)) 2 (sp_mb s ((upd (upd (upd (upd (r 4) 0 p0) 1 p1) 2 p2) 3 p3)) 2))) (v := (sp_mb s ((upd (upd (upd (upd (r 4) 0 p0) 1 p1) 2 p2) 3 p3)) 0)) C 14 (by decide) rfl 0 (tn_l 0) (show 0 < 3 by omega) (by decide) rfl dX8_mix_75 ?_
        refine tv_aload_n C dX8_mix_76 rfl 0 rfl ?_
        refine tv_get (ci := 8) (Cn := RX8) (T := TX8) (Nf := 35) (v := .ref (tv_ad c 14)) C 0 (by decide) rfl rfl in_X8_mix_X8 26 (by decide) lk_X8_mix_50 rfl dX8_mix_77 ?_
        refine tv_iconst (v := 1) C dX8_mix_80 (by decide) ?_
        refine tv_iald (f := (upd (upd (upd (r 6) 0 (sp_mb s ((upd (upd (upd (upd (r 4) 0 p0) 1 p1) 2 p2) 3 p3)) 0)) 1 (sp_mb s ((upd (upd (upd (upd (r 4) 0 p0) 1 p1) 2 p2) 3 p3)) 1)) 2 (sp_mb s ((upd (upd (upd (upd (r 4) 0 p0) 1 p1) 2 p2) 3 p3)) 2))) (v := (sp_mb s ((upd (upd (upd (upd (r 4) 0 p0) 1 p1) 2 p2) 3 p3)) 1)) C 14 (by decide) rfl 1 (tn_l 1) (show 1 < 3 by omega) (by decide) rfl dX8_mix_81 ?_
        refine tv_aload_n C dX8_mix_82 rfl 0 rfl ?_
        refine tv_get (ci := 8) (Cn := RX8) (T := TX8) (Nf := 35) (v := .ref (tv_ad c 14)) C 0 (by decide) rfl rfl in_X8_mix_X8 26 (by decide) lk_X8_mix_50 rfl dX8_mix_83 ?_
        refine tv_iconst (v := 2) C dX8_mix_86 (by decide) ?_
        refine tv_iald (f := (upd (upd (upd (r 6) 0 (sp_mb s ((upd (upd (upd (upd (r 4) 0 p0) 1 p1) 2 p2) 3 p3)) 0)) 1 (sp_mb s ((upd (upd (upd (upd (r 4) 0 p0) 1 p1) 2 p2) 3 p3)) 1)) 2 (sp_mb s ((upd (upd (upd (upd (r 4) 0 p0) 1 p1) 2 p2) 3 p3)) 2))) (v := (sp_mb s ((upd (upd (upd (upd (r 4) 0 p0) 1 p1) 2 p2) 3 p3)) 2)) C 14 (by decide) rfl 2 (tn_l 2) (show 2 < 3 by omega) (by decide) rfl dX8_mix_87 ?_
        refine tv_calli (As := [.int (sp_mk s ((upd (upd (upd (upd (r 4) 0 p0) 1 p1) 2 p2) 3 p3)) 4), .int (sp_mb s ((upd (upd (upd (upd (r 4) 0 p0) 1 p1) 2 p2) 3 p3)) 0), .int (sp_mb s ((upd (upd (upd (upd (r 4) 0 p0) 1 p1) 2 p2) 3 p3)) 1), .int (sp_mb s ((upd (upd (upd (upd (r 4) 0 p0) 1 p1) 2 p2) 3 p3)) 2)]) (rest := []) (ci := 8) (cn := RX8) (T := TX8) (Nf := 35) C 0 (kX8_addCoat c s (ts_a (ts_s (ts_a r 4 (upd (upd (upd (upd (r 4) 0 p0) 1 p1) 2 p2) 3 p3)) 5 (sp_mk s ((upd (upd (upd (upd (r 4) 0 p0) 1 p1) 2 p2) 3 p3)) 4)) 6 (upd (upd (upd (r 6) 0 (sp_mb s ((upd (upd (upd (upd (r 4) 0 p0) 1 p1) 2 p2) 3 p3)) 0)) 1 (sp_mb s ((upd (upd (upd (upd (r 4) 0 p0) 1 p1) 2 p2) 3 p3)) 1)) 2 (sp_mb s ((upd (upd (upd (upd (r 4) 0 p0) 1 p1) 2 p2) 3 p3)) 2))) nk (sp_mk s ((upd (upd (upd (upd (r 4) 0 p0) 1 p1) 2 p2) 3 p3)) 4) (sp_mb s ((upd (upd (upd (upd (r 4) 0 p0) 1 p1) 2 p2) 3 p3)) 0) (sp_mb s ((upd (upd (upd (upd (r 4) 0 p0) 1 p1) 2 p2) 3 p3)) 1) (sp_mb s ((upd (upd (upd (upd (r 4) 0 p0) 1 p1) 2 p2) 3 p3)) 2) (by omega) e7) gX8_mix_X8_addCoat rfl yd_X8_addCoat ⟨rfl, rfl⟩ (by decide) (by decide) rfl rfl rfl rfl (Nat.le_of_ble_eq_true rfl) dX8_mix_88 (fun q_7 u_7 z_7 => ?_)
        obtain ⟨rfl, rfl⟩ := z_7
        show tv_V c 19 X (eM c (sp_add s nk (sp_mk s ((upd (upd (upd (upd (r 4) 0 p0) 1 p1) 2 p2) 3 p3)) 4) (sp_mb s ((upd (upd (upd (upd (r 4) 0 p0) 1 p1) 2 p2) 3 p3)) 0) (sp_mb s ((upd (upd (upd (upd (r 4) 0 p0) 1 p1) 2 p2) 3 p3)) 1) (sp_mb s ((upd (upd (upd (upd (r 4) 0 p0) 1 p1) 2 p2) 3 p3)) 2)) (ts_a (ts_s (ts_a r 4 (upd (upd (upd (upd (r 4) 0 p0) 1 p1) 2 p2) 3 p3)) 5 (sp_mk s ((upd (upd (upd (upd (r 4) 0 p0) 1 p1) 2 p2) 3 p3)) 4)) 6 (upd (upd (upd (r 6) 0 (sp_mb s ((upd (upd (upd (upd (r 4) 0 p0) 1 p1) 2 p2) 3 p3)) 0)) 1 (sp_mb s ((upd (upd (upd (upd (r 4) 0 p0) 1 p1) 2 p2) 3 p3)) 1)) 2 (sp_mb s ((upd (upd (upd (upd (r 4) 0 p0) 1 p1) 2 p2) 3 p3)) 2)))) 91 [(0, .ref (tv_ad c 0)), (1, .int p0), (2, .int p1), (3, .int p2), (4, .int p3)] [.int (s 7 0 + 1 - 1)]
        exact hR _ _ _ _ dX8_mix_91 ⟨by first | (simp only [sp_mix, ek7, c_2, c_4, nc_4, c_5, nc_5, if_true, ↓reduceIte]; done) | rfl | (simp [sp_mix, ek7, c_2, c_4, nc_4, c_5, nc_5, if_true]; done) | (exfalso; clear hR C; simp_all; done), (ts_a (ts_s (ts_a r 4 (upd (upd (upd (upd (r 4) 0 p0) 1 p1) 2 p2) 3 p3)) 5 (sp_mk s ((upd (upd (upd (upd (r 4) 0 p0) 1 p1) 2 p2) 3 p3)) 4)) 6 (upd (upd (upd (r 6) 0 (sp_mb s ((upd (upd (upd (upd (r 4) 0 p0) 1 p1) 2 p2) 3 p3)) 0)) 1 (sp_mb s ((upd (upd (upd (upd (r 4) 0 p0) 1 p1) 2 p2) 3 p3)) 1)) 2 (sp_mb s ((upd (upd (upd (upd (r 4) 0 p0) 1 p1) 2 p2) 3 p3)) 2))), by simp only [sp_mix, ek7, c_2, c_4, nc_4, c_5, nc_5, ↓reduceIte]; rfl⟩
      · skip
        have nc_5 : nk = 6 := (tn_eqI e7 (tn_l 6) (by omega) (by omega)).mp c_5
        refine tv_bipush (v := (-4)) C dX8_mix_58 (by decide) ?_
        exact hR _ _ _ _ dX8_mix_60 ⟨by first | (simp only [sp_mix, ek7, c_2, c_4, nc_4, eq_true c_5, nc_5, if_true, ↓reduceIte]; done) | rfl | (simp [sp_mix, ek7, c_2, c_4, nc_4, eq_true c_5, nc_5, if_true]; done) | (exfalso; clear hR C; simp_all; done), (ts_a r 4 (upd (upd (upd (upd (r 4) 0 p0) 1 p1) 2 p2) 3 p3)), by first | (simp only [sp_mix, ek7, c_2, c_4, nc_4, eq_true c_5, nc_5, if_true, ts_ss, ts_aa, ↓reduceIte]; done) | rfl | (simp [sp_mix, ek7, c_2, c_4, nc_4, eq_true c_5, nc_5, if_true, ts_ss, ts_aa]; done) | (exfalso; clear hR C; simp_all; done)⟩
    · skip
      have nc_4 : n = 0 := (tn_eqI e9 (tn_l 0) (by omega) (by omega)).mp c_4
      refine tv_bipush (v := (-3)) C dX8_mix_46 (by decide) ?_
      exact hR _ _ _ _ dX8_mix_48 ⟨by exact absurd (ad_z (s := s) (d := sp_d4 (fun _ => 0) p0 p1 p2 p3) (by rw [e7, (hz (by omega)).2.2.1]; rfl)) (by assumption), (ts_a r 4 (upd (upd (upd (upd (r 4) 0 p0) 1 p1) 2 p2) 3 p3)), by exact absurd (ad_z (s := s) (d := sp_d4 (fun _ => 0) p0 p1 p2 p3) (by rw [e7, (hz (by omega)).2.2.1]; rfl)) (by assumption)⟩
  · skip
    refine tv_bipush (v := (-2)) C dX8_mix_36 (by decide) ?_
    exact hR _ _ _ _ dX8_mix_38 ⟨by first | (simp only [sp_mix, ek7, eq_true c_2, if_true, ↓reduceIte]; done) | rfl | (simp [sp_mix, ek7, eq_true c_2, if_true]; done) | (exfalso; clear hR C; simp_all; done), (ts_a r 4 (upd (upd (upd (upd (r 4) 0 p0) 1 p1) 2 p2) 3 p3)), by first | (simp only [sp_mix, ek7, eq_true c_2, if_true, ts_ss, ts_aa, ↓reduceIte]; done) | rfl | (simp [sp_mix, ek7, eq_true c_2, if_true, ts_ss, ts_aa]; done) | (exfalso; clear hR C; simp_all; done)⟩
