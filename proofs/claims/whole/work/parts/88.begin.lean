/-! what the start rests on -/
def lq (k : Nat) : Nat := if k < 6 then k else if k < 16 then k + 36 else if k < 20 then 52 + 2 * (k - 16) else if k < 24 then 53 + 2 * (k - 20) else if k < 48 then k - 18 else if k < 54 then 30 + 2 * (k - 48) else if k < 60 then 31 + 2 * (k - 54) else k
set_option maxRecDepth 20000 in
theorem lq_lt : ∀ k, k < 79 → lq k < 79 := by decide +kernel
set_option maxRecDepth 20000 in
theorem lq_inj : ∀ i, i < 79 → ∀ j, j < 79 → lq i = lq j → i = j := by decide +kernel
def tl_0 : ts_T := fun _ _ => 0
theorem tl_b0 (n : Nat) : tn_b 0 n := ⟨0, Nat.zero_le _, nI_0.symm⟩
theorem iv_00 : iv tl_0 := ⟨0, 0, 0, 0, 0, 0, 0, 0, nI_0.symm, nI_0.symm, nI_0.symm, rfl, by decide, by decide, by decide, fun _ => ⟨rfl, rfl, rfl, rfl⟩, fun h => absurd h (by decide), nI_0.symm, by decide, nI_0.symm, by decide, nI_0.symm, by decide, nI_0.symm, by decide, nI_0.symm, by decide, fun j h => absurd h (by omega), fun k _ => tl_b0 _, fun q _ => tl_b0 _, fun q _ => tl_b0 _, fun k _ => ⟨Or.inl rfl, tl_b0 _, tl_b0 _⟩⟩
/-- the same cell, but for what lies outside a row -/
def tl_same (x y : va_E) : Prop := x = y ∨ (∃ (cA : ClassId) (n : Nat) (f g : Nat → Int32), x = .inl (cA, n, .inl f) ∧ y = .inl (cA, n, .inl g) ∧ ∀ j, j < n → f j = g j) ∨ (∃ (cA : ClassId) (n : Nat) (f g : Nat → Option Nat), x = .inl (cA, n, .inr (.inr (.inr (.inr f)))) ∧ y = .inl (cA, n, .inr (.inr (.inr (.inr g)))) ∧ ∀ j, j < n → f j = g j)
theorem tl_same.cell {D : va_G} {a : Nat} {x y : va_E} {H : Heap} (h : tl_same x y) (hx : va_at D vwCl (a, x) H) : va_at D vwCl (a, y) H := by
  rcases h with rfl | ⟨cA, n, f, g, rfl, rfl, e⟩ | ⟨cA, n, f, g, rfl, rfl, e⟩
  · exact hx
  · have h1 : H[a]? = some (vp_cell cA (n, .inl f)) := hx
    show H[a]? = some (vp_cell cA (n, .inl g))
    rw [h1, vp_cell_i, vp_cell_i]
    exact congrArg some (tg_arr (fun j hj => by rw [e j hj]))
  · have h1 : H[a]? = some (vp_cell cA (n, .inr (.inr (.inr (.inr f))))) := hx
    show H[a]? = some (vp_cell cA (n, .inr (.inr (.inr (.inr g)))))
    rw [h1, vp_cell_q, vp_cell_q]
    exact congrArg some (tg_arr (fun j hj => by rw [e j hj]))
theorem tl_arr {s : State} {A : Array Value} {ty : FieldType} (h : (Cond.arrayClass ty).before A s = true) (hr : ∀ cA, s.vm.findClass ("[" ++ ty.toString) = some cA → va_RA s cA ty) : ∃ cA, ArrOfT s cA ty ∧ va_RA s cA ty := by
  obtain ⟨cA, kA, comp, h1, h2, h3⟩ := Cond.arrayClass_spec h
  exact ⟨cA, fun n z => ⟨fun k h => (by cases h), kA, h2, comp, h3⟩, hr cA h1⟩
theorem tl_arrO {s : State} {A : Array Value} {C : String} (h : (Cond.arrayOver (.object C)).before A s = true) : ∃ cA, ArrOfT s cA (.object C) ∧ va_RA s cA (.object C) := by
  obtain ⟨comp, cA, kA, h1, h2, h3, h4, h5⟩ := Cond.arrayOver_spec h
  exact ⟨cA, fun n z => ⟨fun k h => (by cases h), kA, h3, comp, h4⟩, kA, comp, h3, h4, h1, h5⟩
set_option maxRecDepth 20000 in
theorem wt_insX0 : Cond.instantiable RX0 5 ∈ lw_tbl := by decide +kernel
set_option maxRecDepth 20000 in
theorem wt_insX1 : Cond.instantiable RX1 2 ∈ lw_tbl := by decide +kernel
set_option maxRecDepth 20000 in
theorem wt_insX2 : Cond.instantiable RX2 3 ∈ lw_tbl := by decide +kernel
set_option maxRecDepth 20000 in
theorem wt_insX3 : Cond.instantiable RX3 7 ∈ lw_tbl := by decide +kernel
set_option maxRecDepth 20000 in
theorem wt_insX4 : Cond.instantiable RX4 5 ∈ lw_tbl := by decide +kernel
set_option maxRecDepth 20000 in
theorem wt_insX5 : Cond.instantiable RX5 4 ∈ lw_tbl := by decide +kernel
set_option maxRecDepth 20000 in
theorem wt_insX6 : Cond.instantiable RX6 11 ∈ lw_tbl := by decide +kernel
set_option maxRecDepth 20000 in
theorem wt_insX7 : Cond.instantiable RX7 7 ∈ lw_tbl := by decide +kernel
set_option maxRecDepth 20000 in
theorem wt_insX8 : Cond.instantiable RX8 35 ∈ lw_tbl := by decide +kernel
set_option maxRecDepth 20000 in
theorem wt_aci : Cond.arrayClass .int ∈ lw_tbl := by decide +kernel
set_option maxRecDepth 20000 in
theorem wt_acz : Cond.arrayClass .boolean ∈ lw_tbl := by decide +kernel
set_option maxRecDepth 20000 in
theorem wt_aoX5 : Cond.arrayOver (.object RX5) ∈ lw_tbl := by decide +kernel
set_option maxRecDepth 20000 in
theorem wt_aoX0 : Cond.arrayOver (.object RX0) ∈ lw_tbl := by decide +kernel
set_option maxRecDepth 20000 in
theorem wt_aoX1 : Cond.arrayOver (.object RX1) ∈ lw_tbl := by decide +kernel
set_option maxRecDepth 20000 in
theorem wt_na : Cond.methodLinkNest RX3 32 yX7_isWithin RX7 ∈ lw_tbl := by decide +kernel
set_option maxRecDepth 20000 in
theorem wt_nb : Cond.methodLinkNest RX5 40 yX7_isWithin RX7 ∈ lw_tbl := by decide +kernel
set_option maxRecDepth 20000 in
theorem wt_nc : Cond.methodLinkNest RX6 27 yX0_init RX7 ∈ lw_tbl := by decide +kernel
set_option maxRecDepth 20000 in
theorem wt_nd : Cond.methodLinkNest RX6 28 yX1_init RX7 ∈ lw_tbl := by decide +kernel
set_option maxRecDepth 20000 in
theorem wt_ne : Cond.methodLinkNest RX3 17 yX1_init RX7 ∈ lw_tbl := by decide +kernel
set_option maxRecDepth 20000 in
theorem wt_nf : Cond.methodLinkNest RX7 49 yX5_init RX7 ∈ lw_tbl := by decide +kernel
set_option maxRecDepth 20000 in
theorem wl_clX7 : Cond.classLink RL 7 RX7 ∈ wsL_law := by decide +kernel
set_option maxRecDepth 20000 in
theorem wl_insX7 : Cond.instantiable RX7 7 ∈ wsL_law := by decide +kernel
set_option maxRecDepth 20000 in
theorem wl_iniX7 : Cond.initialized RX7 ∈ wsL_law := by decide +kernel
set_option maxRecDepth 20000 in
theorem wl_inX7 : ∀ w ∈ u_ws RX7 TX7 7, w ∈ wsL_law := by decide +kernel
set_option maxRecDepth 20000 in
theorem wl_iiX7 : Cond.initialized yX7_init.cls ∈ wsL_law := by decide +kernel
set_option maxRecDepth 20000 in
theorem wl_mlX7 : Cond.methodLink RL 9 yX7_init ∈ wsL_law := by decide +kernel
set_option maxRecDepth 20000 in
theorem wl_imX7 : Cond.instanceMethod yX7_init ∈ wsL_law := by decide +kernel
theorem yi_X7_init : yX7_init.cls ≠ "java/lang/invoke/MethodHandle" ∧ yX7_init.cls ≠ "java/lang/invoke/VarHandle" ∧ (parseMethodDescriptor yX7_init.desc).map (fun d => d.parameters.length) = some 0 := by decide +kernel
set_option maxRecDepth 20000 in
theorem wl_clX8 : Cond.classLink RL 10 RX8 ∈ wsL_law := by decide +kernel
set_option maxRecDepth 20000 in
theorem wl_insX8 : Cond.instantiable RX8 35 ∈ wsL_law := by decide +kernel
set_option maxRecDepth 20000 in
theorem wl_iniX8 : Cond.initialized RX8 ∈ wsL_law := by decide +kernel
set_option maxRecDepth 20000 in
theorem wl_inX8 : ∀ w ∈ u_ws RX8 TX8 35, w ∈ wsL_law := by decide +kernel
set_option maxRecDepth 20000 in
theorem wl_iiX8 : Cond.initialized yX8_init.cls ∈ wsL_law := by decide +kernel
set_option maxRecDepth 20000 in
theorem wl_mlX8 : Cond.methodLink RL 12 yX8_init ∈ wsL_law := by decide +kernel
set_option maxRecDepth 20000 in
theorem wl_imX8 : Cond.instanceMethod yX8_init ∈ wsL_law := by decide +kernel
theorem yi_X8_init : yX8_init.cls ≠ "java/lang/invoke/MethodHandle" ∧ yX8_init.cls ≠ "java/lang/invoke/VarHandle" ∧ (parseMethodDescriptor yX8_init.desc).map (fun d => d.parameters.length) = some 0 := by decide +kernel
theorem dfX7 : ∀ j, j < 7 → defaultValue (tyX7 j) = vp_V [.null, .null, .null, .null, .null, .int 0, .int 0] j := fun j hj => match j, hj with
  | 0, _ => rfl
  | 1, _ => rfl
  | 2, _ => rfl
  | 3, _ => rfl
  | 4, _ => rfl
  | 5, _ => rfl
  | 6, _ => rfl
  | _ + 7, h => absurd h (by omega)
theorem dfX8 : ∀ j, j < 35 → defaultValue (tyX8 j) = vp_V [.int 0, .int 0, .null, .null, .null, .int 0, .int 0, .int 0, .int 0, .int 0, .null, .null, .null, .null, .null, .int 0, .int 0, .int 0, .null, .int 0, .null, .null, .int 0, .null, .null, .int 0, .null, .int 0, .null, .null, .null, .null, .int 0, .int 0, .int 0] j := fun j hj => match j, hj with
  | 0, _ => rfl
  | 1, _ => rfl
  | 2, _ => rfl
  | 3, _ => rfl
  | 4, _ => rfl
  | 5, _ => rfl
  | 6, _ => rfl
  | 7, _ => rfl
  | 8, _ => rfl
  | 9, _ => rfl
  | 10, _ => rfl
  | 11, _ => rfl
  | 12, _ => rfl
  | 13, _ => rfl
  | 14, _ => rfl
  | 15, _ => rfl
  | 16, _ => rfl
  | 17, _ => rfl
  | 18, _ => rfl
  | 19, _ => rfl
  | 20, _ => rfl
  | 21, _ => rfl
  | 22, _ => rfl
  | 23, _ => rfl
  | 24, _ => rfl
  | 25, _ => rfl
  | 26, _ => rfl
  | 27, _ => rfl
  | 28, _ => rfl
  | 29, _ => rfl
  | 30, _ => rfl
  | 31, _ => rfl
  | 32, _ => rfl
  | 33, _ => rfl
  | 34, _ => rfl
  | _ + 35, h => absurd h (by omega)
def eL (c : tv_c) : Nat → va_E := (va_up (va_up (eT c) 61 (.inl (tv_kk c 0, 4, .inl (upd (upd (upd (upd sb0 0 (-9)) 1 (-9)) 2 (-9)) 3 (-9))))) 60 (.inr (8, [.int 0, .int 0, .ref (tv_ad c 61), .ref (tv_ad c 62), .ref (tv_ad c 63), .int 0, .int 0, .int 0, .int 0, .int 0, .ref (tv_ad c 64), .ref (tv_ad c 65), .ref (tv_ad c 66), .ref (tv_ad c 67), .ref (tv_ad c 68), .int 0, .int 0, .int 0, .ref (tv_ad c 69), .int 0, .ref (tv_ad c 70), .ref (tv_ad c 71), .int 0, .ref (tv_ad c 72), .ref (tv_ad c 73), .int 0, .ref (tv_ad c 74), .int 0, .ref (tv_ad c 75), .ref (tv_ad c 76), .ref (tv_ad c 77), .ref (tv_ad c 78), .int 0, .int 0, .int 0])))
/-- the places as the walk has them -/
def tl_q (c : tv_c) : tv_c := (c.1, c.2.1, c.2.2.1, fun k => tv_ad c (lq k))
def tl_w (c : tv_c) : Nat → va_E := tl_E (tl_q c) tl_0 tl_0 tl_0 tl_0
theorem tl_rf (k j : Nat) : (0 : Int32) = eX_rf tl_0 k j := by
  unfold eX_rf
  split <;> rfl
theorem tl_bf (k j : Nat) : (0 : Int32) = eX_bf tl_0 k j := by
  unfold eX_bf
  split <;> rfl
set_option maxRecDepth 20000 in
theorem tl_f61 : ∀ j, j < 4 → (upd (upd (upd (upd sb0 0 (-9)) 1 (-9)) 2 (-9)) 3 (-9)) j = eM_so tl_0 j := by decide +kernel
theorem tl_f1 (c : tv_c) : tl_same (eL c (lq 1)) (tl_w c 1) := Or.inr (Or.inr ⟨tv_kk c 2, 4, fr c 52 4, fun j => some (tv_ad (tl_q c) (16 + j)), rfl, rfl, fun j hj => by
  show (if j < 4 then some (tv_ad c (52 + 2 * j)) else none) = some (tv_ad c (lq (16 + j)))
  rw [if_pos hj]
  have e : lq (16 + j) = 52 + 2 * j := by
    unfold lq
    rw [if_neg (by omega)]; rw [if_neg (by omega)]; rw [if_pos (by omega)]
    omega
  rw [e]⟩)
theorem tl_f3 (c : tv_c) : tl_same (eL c (lq 3)) (tl_w c 3) := Or.inr (Or.inr ⟨tv_kk c 3, 24, fq c 6 24, fun j => some (tv_ad (tl_q c) (24 + j)), rfl, rfl, fun j hj => by
  show (if j < 24 then some (tv_ad c (6 + j)) else none) = some (tv_ad c (lq (24 + j)))
  rw [if_pos hj]
  have e : lq (24 + j) = 6 + j := by
    unfold lq
    rw [if_neg (by omega)]; rw [if_neg (by omega)]; rw [if_neg (by omega)]; rw [if_neg (by omega)]; rw [if_pos (by omega)]
    omega
  rw [e]⟩)
theorem tl_f4 (c : tv_c) : tl_same (eL c (lq 4)) (tl_w c 4) := Or.inr (Or.inr ⟨tv_kk c 4, 6, fr c 30 6, fun j => some (tv_ad (tl_q c) (48 + j)), rfl, rfl, fun j hj => by
  show (if j < 6 then some (tv_ad c (30 + 2 * j)) else none) = some (tv_ad c (lq (48 + j)))
  rw [if_pos hj]
  have e : lq (48 + j) = 30 + 2 * j := by
    unfold lq
    rw [if_neg (by omega)]; rw [if_neg (by omega)]; rw [if_neg (by omega)]; rw [if_neg (by omega)]; rw [if_neg (by omega)]; rw [if_pos (by omega)]
    omega
  rw [e]⟩)
set_option maxRecDepth 20000 in
theorem tl_all (c : tv_c) : ∀ k, k < 79 → tl_same (eL c (lq k)) (tl_w c k) := fun k hk => match k, hk with
  | 0, _ => Or.inl rfl
  | 1, _ => tl_f1 c
  | 2, _ => Or.inl rfl
  | 3, _ => tl_f3 c
  | 4, _ => tl_f4 c
  | 5, _ => Or.inl rfl
  | 6, _ => Or.inl rfl
  | 7, _ => Or.inl rfl
  | 8, _ => Or.inl rfl
  | 9, _ => Or.inl rfl
  | 10, _ => Or.inl rfl
  | 11, _ => Or.inl rfl
  | 12, _ => Or.inl rfl
  | 13, _ => Or.inl rfl
  | 14, _ => Or.inl rfl
  | 15, _ => Or.inl rfl
  | 16, _ => Or.inl rfl
  | 17, _ => Or.inl rfl
  | 18, _ => Or.inl rfl
  | 19, _ => Or.inl rfl
  | 20, _ => Or.inr (Or.inl ⟨_, _, _, _, rfl, rfl, fun j _ => tl_rf _ j⟩)
  | 21, _ => Or.inr (Or.inl ⟨_, _, _, _, rfl, rfl, fun j _ => tl_rf _ j⟩)
  | 22, _ => Or.inr (Or.inl ⟨_, _, _, _, rfl, rfl, fun j _ => tl_rf _ j⟩)
  | 23, _ => Or.inr (Or.inl ⟨_, _, _, _, rfl, rfl, fun j _ => tl_rf _ j⟩)
  | 24, _ => Or.inl rfl
  | 25, _ => Or.inl rfl
  | 26, _ => Or.inl rfl
  | 27, _ => Or.inl rfl
  | 28, _ => Or.inl rfl
  | 29, _ => Or.inl rfl
  | 30, _ => Or.inl rfl
  | 31, _ => Or.inl rfl
  | 32, _ => Or.inl rfl
  | 33, _ => Or.inl rfl
  | 34, _ => Or.inl rfl
  | 35, _ => Or.inl rfl
  | 36, _ => Or.inl rfl
  | 37, _ => Or.inl rfl
  | 38, _ => Or.inl rfl
  | 39, _ => Or.inl rfl
  | 40, _ => Or.inl rfl
  | 41, _ => Or.inl rfl
  | 42, _ => Or.inl rfl
  | 43, _ => Or.inl rfl
  | 44, _ => Or.inl rfl
  | 45, _ => Or.inl rfl
  | 46, _ => Or.inl rfl
  | 47, _ => Or.inl rfl
  | 48, _ => Or.inl rfl
  | 49, _ => Or.inl rfl
  | 50, _ => Or.inl rfl
  | 51, _ => Or.inl rfl
  | 52, _ => Or.inl rfl
  | 53, _ => Or.inl rfl
  | 54, _ => Or.inr (Or.inl ⟨_, _, _, _, rfl, rfl, fun j _ => tl_bf _ j⟩)
  | 55, _ => Or.inr (Or.inl ⟨_, _, _, _, rfl, rfl, fun j _ => tl_bf _ j⟩)
  | 56, _ => Or.inr (Or.inl ⟨_, _, _, _, rfl, rfl, fun j _ => tl_bf _ j⟩)
  | 57, _ => Or.inr (Or.inl ⟨_, _, _, _, rfl, rfl, fun j _ => tl_bf _ j⟩)
  | 58, _ => Or.inr (Or.inl ⟨_, _, _, _, rfl, rfl, fun j _ => tl_bf _ j⟩)
  | 59, _ => Or.inr (Or.inl ⟨_, _, _, _, rfl, rfl, fun j _ => tl_bf _ j⟩)
  | 60, _ => Or.inl rfl
  | 61, _ => Or.inr (Or.inl ⟨_, _, _, _, rfl, rfl, tl_f61⟩)
  | 62, _ => Or.inl rfl
  | 63, _ => Or.inl rfl
  | 64, _ => Or.inl rfl
  | 65, _ => Or.inl rfl
  | 66, _ => Or.inl rfl
  | 67, _ => Or.inl rfl
  | 68, _ => Or.inl rfl
  | 69, _ => Or.inl rfl
  | 70, _ => Or.inl rfl
  | 71, _ => Or.inl rfl
  | 72, _ => Or.inl rfl
  | 73, _ => Or.inl rfl
  | 74, _ => Or.inl rfl
  | 75, _ => Or.inl rfl
  | 76, _ => Or.inl rfl
  | 77, _ => Or.inl rfl
  | 78, _ => Or.inl rfl
  | _ + 79, h => absurd h (by omega)
theorem tl_to {c : tv_c} {H : Heap} (hP : va_P (tv_D c) vwCl (tv_wl 79 (tv_ad c) (eL c)) H) : va_P (tv_D c) vwCl (tv_wl 79 (tv_ad (tl_q c)) (tl_w c)) H := by
  intro k q hq
  obtain ⟨hk, rfl⟩ := tv_wl_some hq
  have h := hP (lq k) _ (tv_wl_get (lq_lt k hk))
  exact (tl_all c k hk).cell h
/-- from the walk of what makes the cells to the walk of the loop -/
theorem tl_go {c : tv_c} {X : tv_X} {pc : Nat} {lv : List (Nat × Value)} {st : List Value} (hA : tv_xA X = tg_A c) (hk : tv_xk X = 79) (hz : tv_xz X = 1116) (k : tv_V (tl_q c) 79 X (tl_w c) pc lv st) : tg_V c X 79 1116 79 (eL c) pc lv st := by
  intro H locs _ hP hS ls hl
  have h := k H locs (tl_to hP) (by rw [hA]; exact hS) ls hl
  rw [hk, hz] at h
  exact h
