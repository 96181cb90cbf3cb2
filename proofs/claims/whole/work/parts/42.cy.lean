/-! rows and facts for the class's methods -/
theorem tv_callvs {c : tv_c} {N : Nat} {X : tv_X} {cc : ByteArray} {own : String} {Ts : List Cond} {nL : Nat} {rm : Room} {E : Nat → va_E} {pc : Nat} {lv : List (Nat × Value)} {st : List Value} {y : MethodName} {ws ws' : List Cond} {rm' : Room} {bytes : ByteArray} {maxL n index : Nat} {ret : Option FieldType} {As rest : List Value} {P : (Nat → va_E) → Prop} (C : tv_C c N X cc own Ts nL rm) (hM : tv_Mv c N y ws rm' As E P) (hg : GoodIn Ts (va_wsS own index y ws)) (hw : ws = Cond.code y bytes maxL ret :: ws') (hd2 : y.cls ≠ "java/lang/invoke/MethodHandle" ∧ y.cls ≠ "java/lang/invoke/VarHandle" ∧ (parseMethodDescriptor y.desc).map (fun d => d.parameters.length) = some n) (hrc : rm'.cells = 0 ∧ rm'.slots = 0) (hR : rm'.frames + 1 ≤ rm.frames ∧ 8 + (maxL + 11) + rm'.locals ≤ rm.locals) (hn : As.length = n) (hst : st = As.reverse ++ rest) (hcat : (rest.map fun v => v.category).sum ≤ 8) (hd : decode cc pc = .ok (.invokestatic index, 3)) (kk : ∀ u, P u → tv_V c N X u (pc + 3) lv rest) : tv_V c N X E pc lv st := by
  intro H locs hP hS ls hl2
  subst hst
  have C0 := C
  obtain ⟨c1, c2, c3, c4, c5, c6, c7, c8, c9, c10, c11, c12, c13, c14⟩ := C
  have hF := tv_AA.of c7 c8 hS
  refine va_callv (va_runS (As := As) (rest := rest) ⟨c1, c2, c3, c4, c5⟩ (hM H.size) (va_cwS n c5 hg hw hrc.1 hrc.2 hd2 (by rw [c12]; exact hR)) ⟨tv_in.blind, fun U hU hW => ⟨rfl, tv_pre C0 hP U hU hW⟩⟩ rfl hn (hl2.1.trans c11) rfl (lv_room hcat) hd ⟨by rw [c12]; exact c13, by rw [c12]; exact c14⟩) hS (fun q _ h => hF q h) hF (fun u t H1 locs1 ht hvm hw hB hz1 hk1 hS1 => ?_)
  exact kk u hw H1 locs1 (by rw [← ht]; exact hB) hS1 ls hl2
def yr_1 (s : ts_T) (j : Nat) (p : Int32) : ts_T := if s 14 j = 0 then ts_a (ts_a s 12 (upd (s 12) j (s 12 j + p * s 10 j))) 13 (upd (s 13) j (s 13 j + p)) else s
theorem yr_1_s (s : ts_T) (v p : Int32) (i : Nat) : yr_1 (ts_a (ts_a (ts_s s 4 v) 12 (yr_h s p i)) 13 (yr_a s p i)) i p = ts_a (ts_a (ts_s s 4 v) 12 (yr_h s p (i + 1))) 13 (yr_a s p (i + 1)) := by
  unfold yr_1
  by_cases h : s 14 i = 0
  · rw [if_pos (show ts_a (ts_a (ts_s s 4 v) 12 (yr_h s p i)) 13 (yr_a s p i) 14 i = 0 from h), ← yr_h_s h, ← yr_a_s h]
    show ts_a (ts_a (ts_a (ts_a (ts_s s 4 v) 12 (yr_h s p i)) 13 (yr_a s p i)) 12 (upd (yr_h s p i) i (yr_h s p i i + p * s 10 i))) 13 (upd (yr_a s p i) i (yr_a s p i i + p)) = _
    generalize upd (yr_h s p i) i (yr_h s p i i + p * s 10 i) = F
    generalize upd (yr_a s p i) i (yr_a s p i i + p) = G
    funext a
    simp only [ts_s, ts_a]
    (repeat' split) <;> first | rfl | (exfalso; omega)
  · rw [if_neg (show ¬ ts_a (ts_a (ts_s s 4 v) 12 (yr_h s p i)) 13 (yr_a s p i) 14 i = 0 from h), ← yr_h_n h, ← yr_a_n h]
def sp_sz (s : ts_T) : Int32 := if s 9 0 = 0 then 0 else 1
theorem sz_e {s : ts_T} (h : sp_sz s = 0) : s 9 0 = 0 := by
  unfold sp_sz at h
  split at h
  · assumption
  · exact absurd h (by decide)
theorem sz_n {s : ts_T} (h : ¬ sp_sz s = 0) : ¬ s 9 0 = 0 := by
  unfold sp_sz at h
  split at h
  · exact absurd rfl h
  · assumption
theorem sz_1 {s : ts_T} {n : Nat} (e : s 9 0 = nI n) (hn : n ≤ 24) (h : s 9 0 ≤ 0) : 0 = sp_sz s := by
  unfold sp_sz
  rw [if_pos]
  rw [e, show (0 : Int32) = nI 0 from rfl, nI_leI (by omega) (by omega)] at h
  rw [e, show n = 0 by omega]
  rfl
theorem sz_2 {s : ts_T} {n : Nat} (e : s 9 0 = nI n) (hn : n ≤ 24) (h : ¬ s 9 0 ≤ 0) : 1 = sp_sz s := by
  unfold sp_sz
  rw [if_neg]
  intro q
  rw [q] at h
  exact h (by decide)
def sp_fa (s : ts_T) (k : Nat) (q : Int32) : Int32 := if s 18 k = 0 then 1 else if s 19 k = q then 0 else 2
def sp_fc (s : ts_T) (k : Nat) (q i n : Int32) : Int32 := if sp_fa s k q = 0 then (if sp_rc (s 20 k) i n = 0 then 3 else 0) else sp_fa s k q
theorem fc_ag (s : ts_T) (k : Nat) (q i n : Int32) (hn : ¬ n < 0) : sp_fc s k q i n = sp_ag s k q i n := by
  unfold sp_fc sp_fa sp_ag sp_rc
  by_cases h1 : s 18 k = 0
  · simp only [h1, ↓reduceIte]
    rfl
  · simp only [h1, ↓reduceIte]
    by_cases h2 : s 19 k = q
    · simp only [h2, ↓reduceIte, hn]
      by_cases h3 : i < 0
      · simp only [h3, ↓reduceIte]
      · simp only [h3, ↓reduceIte]
        by_cases h4 : s 20 k < i
        · simp only [h4, ↓reduceIte]
        · simp only [h4, ↓reduceIte]
          by_cases h5 : n ≤ s 20 k - i
          · simp only [h5, ↓reduceIte, tn_10]
          · simp only [h5, ↓reduceIte]
    · simp only [h2, ↓reduceIte]
      rfl
theorem fc_ag3 (s : ts_T) (k : Nat) (q i : Int32) : sp_fc s k q i 3 = sp_ag s k q i 3 := fc_ag s k q i 3 (by decide)
theorem rc_z (L i n : Int32) : sp_rc L i n = 0 ∨ sp_rc L i n = 1 := by
  unfold sp_rc
  (repeat' split) <;> first | exact Or.inl rfl | exact Or.inr rfl
theorem rc_in {L i : Int32} (hL : tn_b L 40) : sp_rc L i 1 = sp_in i 0 (L - 1) := by
  obtain ⟨q, hq, rfl⟩ := hL
  unfold sp_rc sp_in
  by_cases h1 : i < 0
  · rw [if_pos h1, if_pos h1]
  · rw [if_neg h1, if_neg h1, if_neg (by decide)]
    obtain ⟨a, ha, rfl⟩ := nI_of h1
    rcases Nat.eq_zero_or_pos q with h0 | h0
    · subst h0
      have e : (nI 0 - 1 < nI a) := by
        show nI 0 - nI 1 < nI a
        rw [Int32.lt_iff_toInt_lt, pk_sub_toInt (by decide) (by decide), nI_toInt ha]
        omega
      rw [if_pos e]
      by_cases h2 : nI 0 < nI a
      · rw [if_pos h2]
      · rw [if_neg h2, if_neg]
        rw [nI_ltI (by omega) ha] at h2
        rw [show a = 0 by omega]
        decide
    · rw [show (1 : Int32) = nI 1 from rfl, pk_sub h0]
      by_cases h2 : q < a
      · rw [if_pos (nI_lt h2 ha), if_pos (nI_lt (by omega) ha)]
      · rw [if_neg (nI_nlt (by omega) (by omega)), pk_sub (by omega)]
        by_cases h3 : q = a
        · subst h3
          rw [Nat.sub_self, if_neg (by decide), if_pos (nI_lt (by omega) (by omega))]
        · rw [if_pos (nI_le (by omega) (by omega)), if_neg (nI_nlt (by omega) (by omega))]
def sp_a3 (a b c m : Int32) : Int32 := if sp_in a 0 m = 0 then 0 else if sp_in b 0 m = 0 then 0 else if sp_in c 0 m = 0 then 0 else 1
theorem coat_eq {s : ts_T} {k : Nat} (e7 : s 7 0 = nI k) (hk : k ≤ 6) (t a b c : Int32) : sp_coat s t a b c = if sp_in t 0 2 = 0 then (-2, s) else if sp_a3 a b c 99 = 0 then (-2, s) else if s 9 0 = 0 then (-3, s) else if s 7 0 < 6 then (s 7 0 + 1 - 1, sp_add s (tk (s 7 0)) t a b c) else (-4, s) := by
  unfold sp_coat sp_a3
  have e : (s 7 0 < 6) ↔ ¬ s 7 0 = 6 := by
    rw [e7, show (6 : Int32) = nI 6 from rfl, nI_ltI (by omega) (by omega), nI_eq (by omega) (by omega)]
    omega
  by_cases h : s 7 0 = 6
  · have h2 : ¬ s 7 0 < 6 := fun q => (e.mp q) h
    simp only [h, ↓reduceIte]
    (repeat' split) <;> first | rfl | (exfalso; simp_all; done)
  · have h2 : s 7 0 < 6 := e.mpr h
    simp only [h, h2, ↓reduceIte]
    (repeat' split) <;> first | rfl | (exfalso; simp_all; done)
theorem light_eq {s : ts_T} {k : Nat} (e8 : s 8 0 = nI k) (hk : k ≤ 4) (a b c : Int32) : sp_light s a b c = if sp_a3 a b c 9 = 0 then (-2, s) else if s 9 0 = 0 then (-3, s) else if s 8 0 < 4 then (s 8 0 + 1 - 1, ts_s (ts_a s 17 (upd (upd (upd (s 17) (3 * tk (s 8 0)) a) (3 * tk (s 8 0) + 1) b) (3 * tk (s 8 0) + 2) c)) 8 (s 8 0 + 1)) else (-4, s) := by
  unfold sp_light sp_a3
  have e : (s 8 0 < 4) ↔ ¬ s 8 0 = 4 := by
    rw [e8, show (4 : Int32) = nI 4 from rfl, nI_ltI (by omega) (by omega), nI_eq (by omega) (by omega)]
    omega
  by_cases h : s 8 0 = 4
  · have h2 : ¬ s 8 0 < 4 := fun q => (e.mp q) h
    simp only [h, ↓reduceIte]
    (repeat' split) <;> first | rfl | (exfalso; simp_all; done)
  · have h2 : s 8 0 < 4 := e.mpr h
    simp only [h, h2, ↓reduceIte]
    (repeat' split) <;> first | rfl | (exfalso; simp_all; done)
theorem hn_hl {p : Nat → Int32} : ∀ {i : Nat}, i ≤ 100 → (sp_hn p i = 0 ↔ sp_hl p i = -9) ∧ ∃ a : Nat, a ≤ i ∧ sp_hn p i = nI a
  | 0, _ => ⟨⟨fun _ => rfl, fun _ => rfl⟩, 0, Nat.le_refl 0, rfl⟩
  | i + 1, h => by
    obtain ⟨ih, a, ha, ea⟩ := hn_hl (p := p) (i := i) (by omega)
    unfold sp_hn sp_hl
    by_cases hp : p i = 0
    · simp only [hp, ↓reduceIte]
      exact ⟨ih, a, by omega, ea⟩
    · simp only [hp, ↓reduceIte]
      have e1 : sp_hn p i + 1 = nI (a + 1) := by rw [ea, nI_1]
      refine ⟨⟨fun q => ?_, fun q => ?_⟩, a + 1, by omega, e1⟩
      · rw [e1] at q
        exact absurd q (nI_ne0 (by omega) (by omega))
      · exfalso
        by_cases h9 : sp_hl p i = -9
        · rw [if_pos h9] at q
          have h1 : (nI i).toInt = -9 := by rw [q]; decide
          rw [nI_toInt (by omega)] at h1
          omega
        · rw [if_neg h9] at q
          exact h9 q
theorem in_m1 {p : Int32} (h : ¬ sp_in p (-1) 2 = 0) (h0 : 0 ≤ p) : ∃ b, b < 3 ∧ p = nI b ∧ tk p = b := by
  obtain ⟨b, hb, rfl⟩ := nI_of (tn_d_le h0)
  refine ⟨b, ?_, rfl, tk_n (by omega)⟩
  unfold sp_in at h
  split at h
  · exact absurd rfl h
  · split at h
    · exact absurd rfl h
    · rename_i q
      rw [show (2 : Int32) = nI 2 from rfl, nI_ltI (by omega) hb] at q
      omega
theorem ofCoat_eq (s : ts_T) (k q : Int32) : sp_ofCoat s k q = if sp_ix k (s 7 0) = 0 then -1 else if sp_in q (-1) 2 = 0 then -2 else if 0 ≤ q then s 16 (3 * tk k + tk q) else s 15 (tk k) := by
  unfold sp_ofCoat
  by_cases h : sp_ix k (s 7 0) = 0
  · simp only [h, ↓reduceIte]
  · simp only [h, ↓reduceIte]
    unfold sp_in
    by_cases h1 : q = -1
    · subst h1
      first | rfl | (simp only [↓reduceIte]; rfl)
    · simp only [h1, ↓reduceIte]
      have hq : q < 0 ↔ q < -1 := by
        have h2 : ¬ q.toInt = -1 := tn_ti (by decide) h1
        rw [Int32.lt_iff_toInt_lt, Int32.lt_iff_toInt_lt]
        show q.toInt < 0 ↔ q.toInt < -1
        omega
      by_cases h2 : q < 0
      · simp only [h2, hq.mp h2, ↓reduceIte]
      · have h3 : ¬ q < -1 := fun z => h2 (hq.mpr z)
        simp only [h2, h3, ↓reduceIte, tn_d_nlt h2]
theorem cell_eq {s : ts_T} {k i q : Int32} (hS : ¬ sp_in k 0 3 = 0 → tn_b (s 20 (tk k)) 40) : sp_cell s k i q = if sp_in k 0 3 = 0 then (-9223372036854775808, ts_s s 0 0) else if sp_in q 0 2 = 0 then (-9223372036854775808, ts_s s 0 0) else if sp_fc s (tk k) q i 1 = 0 then ((s 21 (40 * tk k + tk i)).toInt64, ts_s s 0 0) else (-9223372036854775808, ts_s s 0 (sp_fc s (tk k) q i 1)) := by
  unfold sp_cell sp_fc sp_fa
  by_cases h0 : sp_in k 0 3 = 0
  · simp only [h0, ↓reduceIte]
  · simp only [h0, ↓reduceIte, rc_in (hS h0)]
    by_cases h1 : sp_in q 0 2 = 0
    · simp only [h1, ↓reduceIte]
    · simp only [h1, ↓reduceIte]
      by_cases h2 : s 18 (tk k) = 0
      · simp only [h2, ↓reduceIte, tn_10]
      · simp only [h2, ↓reduceIte]
        by_cases h3 : s 19 (tk k) = q
        · simp only [h3, ↓reduceIte]
          by_cases h4 : sp_in i 0 (s 20 (tk k) - 1) = 0
          · simp only [h4, ↓reduceIte]
            rfl
          · simp only [h4, ↓reduceIte]
        · simp only [h3, ↓reduceIte]
          rfl
theorem years_eq {s : ts_T} {y : Nat} (e : s 4 0 = nI y) (hy : y ≤ 40) (n : Int32) : sp_years s n = if sp_in n 0 (40 - s 4 0) = 0 then (-2, s) else if s 9 0 = 0 then (-3, s) else (s 4 0 + n, ts_s (ts_a (ts_a s 12 (yr_h s n (tk (s 9 0)))) 13 (yr_a s n (tk (s 9 0)))) 4 (s 4 0 + n)) := by
  unfold sp_years sp_in
  rw [e, show (40 : Int32) = nI 40 from rfl, pk_sub hy]
  by_cases h0 : n < 0
  · simp only [h0, ↓reduceIte]
  · obtain ⟨a, ha, rfl⟩ := nI_of h0
    simp only [h0, ↓reduceIte]
    by_cases h1 : nI 40 < nI a
    · have h2 := (nI_ltI (by omega) ha).mp h1
      simp only [h1, nI_lt (show 40 - y < a by omega) ha, ↓reduceIte]
    · have h2 : ¬ 40 < a := fun q => h1 (nI_lt q ha)
      simp only [h1, ↓reduceIte, tn_10, nI_add]
      by_cases h3 : y + a ≤ 40
      · simp only [nI_le h3 (by omega), nI_nlt (show a ≤ 40 - y by omega) (by omega), ↓reduceIte, tn_10]
      · simp only [nI_ge (show 40 < y + a by omega) (by omega), nI_lt (show 40 - y < a by omega) ha, ↓reduceIte]
theorem ti_2 (x : Int32) : x + 100 + x = 2 * x + 100 := by rw [Int32.two_mul, Int32.add_assoc, Int32.add_comm 100 x, ← Int32.add_assoc]
