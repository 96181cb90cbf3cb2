theorem nI_n9 {a : Nat} (h : a < 100) : ¬ nI a = -9 := by
  intro q
  have h1 : (nI a).toInt = -9 := by rw [q]; decide
  rw [nI_toInt (by omega)] at h1
  omega
theorem t1_pt {s : ts_T} {a i : Nat} (ha : a < 24) (hi : i < 24) : sp_t1 s (nI a) i = (if i = a then sp_t1 s (-9) a else 0) + (if i = a - 1 then (if 1 ≤ a then sp_t1 s (-9) (a - 1) else 0) else 0) := by
  by_cases h1 : i = a
  · subst h1
    have e : sp_t1 s (nI i) i = sp_t1 s (-9) i := by
      unfold sp_t1 sp_rt
      rw [if_neg (nI_n9 (show i < 100 by omega))]
      simp only [↓reduceIte]
    rw [if_pos rfl, e]
    by_cases h2 : i = i - 1
    · rw [if_pos h2, if_neg (by omega), Int32.add_zero]
    · rw [if_neg h2, Int32.add_zero]
  · rw [if_neg h1, Int32.zero_add]
    by_cases h2 : i = a - 1
    · rw [if_pos h2, if_pos (by omega), ← h2]
      unfold sp_t1 sp_rt
      rw [if_neg (nI_n9 (show a < 100 by omega)), if_neg (fun q => h1 ((nI_eq (by omega) (by omega)).mp q).symm), nI_1, show i + 1 = a by omega]
      simp only [↓reduceIte]
    · rw [if_neg h2]
      have n1 := nI_n9 (show a < 100 by omega)
      have n2 : ¬ nI a = nI i := fun q => h1 ((nI_eq (by omega) (by omega)).mp q).symm
      have n3 : ¬ nI a = nI (i + 1) := fun q => by
        have := (nI_eq (show a < 2 ^ 31 by omega) (show i + 1 < 2 ^ 31 by omega)).mp q
        omega
      unfold sp_t1 sp_rt
      simp only [n1, n2, nI_1, n3, ↓reduceIte, ite_self]
theorem t2_pt {s : ts_T} {a i w : Nat} (e3 : s 3 0 = nI w) (hw : 1 ≤ w) (hw6 : w ≤ 6) (ha : a < 24) (hi : i < 24) : sp_t2 s (nI a) i = (if i = a then sp_t2 s (-9) a else 0) + (if i = a - w then (if w ≤ a then sp_t2 s (-9) (a - w) else 0) else 0) := by
  have ek3 := tk_e e3 (by omega)
  by_cases h1 : i = a
  · subst h1
    have e : sp_t2 s (nI i) i = sp_t2 s (-9) i := by
      unfold sp_t2 sp_dn
      rw [if_neg (nI_n9 (show i < 100 by omega))]
      simp only [↓reduceIte]
    rw [if_pos rfl, e]
    by_cases h2 : i = i - w
    · rw [if_pos h2, if_neg (by omega), Int32.add_zero]
    · rw [if_neg h2, Int32.add_zero]
  · rw [if_neg h1, Int32.zero_add]
    by_cases h2 : i = a - w
    · rw [if_pos h2]
      by_cases h4 : w ≤ a
      · rw [if_pos h4, ← h2]
        unfold sp_t2 sp_dn
        rw [if_neg (nI_n9 (show a < 100 by omega)), if_neg (fun q => h1 ((nI_eq (by omega) (by omega)).mp q).symm), e3, nI_add, show i + w = a by omega]
        simp only [↓reduceIte]
      · rw [if_neg h4]
        have n1 := nI_n9 (show a < 100 by omega)
        have n2 : ¬ nI a = nI i := fun q => h1 ((nI_eq (by omega) (by omega)).mp q).symm
        have n3 : ¬ nI a = nI (i + w) := fun q => by
          have := (nI_eq (show a < 2 ^ 31 by omega) (show i + w < 2 ^ 31 by omega)).mp q
          omega
        unfold sp_t2 sp_dn
        simp only [n1, n2, e3, nI_add, n3, ↓reduceIte, ite_self]
    · rw [if_neg h2]
      have n1 := nI_n9 (show a < 100 by omega)
      have n2 : ¬ nI a = nI i := fun q => h1 ((nI_eq (by omega) (by omega)).mp q).symm
      have n3 : ¬ nI a = nI (i + w) := fun q => by
        have := (nI_eq (show a < 2 ^ 31 by omega) (show i + w < 2 ^ 31 by omega)).mp q
        omega
      unfold sp_t2 sp_dn
      simp only [n1, n2, e3, nI_add, n3, ↓reduceIte, ite_self]
theorem sn_pt {s : ts_T} {a w n : Nat} (e3 : s 3 0 = nI w) (hw : 1 ≤ w) (hw6 : w ≤ 6) (hn : n ≤ 24) (ha : a < n) : sp_sn s (nI a) n = (sp_t1 s (-9) a + (if 1 ≤ a then sp_t1 s (-9) (a - 1) else 0)) + (sp_t2 s (-9) a + (if w ≤ a then sp_t2 s (-9) (a - w) else 0)) := by
  rw [sn_su, su_a (fun i => sp_t1 s (nI a) i) (fun i => sp_t2 s (nI a) i)]
  rw [su_c (f := fun i => sp_t1 s (nI a) i) (fun i hi => t1_pt (show a < 24 by omega) (show i < 24 by omega)), su_c (f := fun i => sp_t2 s (nI a) i) (fun i hi => t2_pt e3 hw hw6 (show a < 24 by omega) (show i < 24 by omega))]
  rw [su_a, su_a, su_p, su_p, su_p, su_p, if_pos ha, if_pos (show a - 1 < n by omega), if_pos ha, if_pos (show a - w < n by omega)]
theorem co_sn {s' s r : ts_T} {h w n a : Nat} (hv : vw s' s r) (hs : sm_3 s' s) (e2 : s 2 0 = nI h) (e3 : s 3 0 = nI w) (e9 : s 9 0 = nI n) (hn : n = h * w) (hn4 : n ≤ 24) (hh : h ≤ 4) (hw : 2 ≤ w) (hw6 : w ≤ 6) (ha : a < n) : sp_co s r a = sp_sn s' (nI a) n := by
  have ek3 := tk_e e3 (by omega)
  have e3' : s' 3 0 = nI w := by rw [hs 3 (by omega)]; exact e3
  rw [sn_pt e3' (by omega) hw6 hn4 ha]
  unfold sp_co sp_l1 sp_u1
  rw [ek3, rg_t1 hv hs e3 e9 hn hn4 hw hw6 ha, bl_t2 hv hs e2 e3 e9 hn hn4 hh hw hw6 ha]
  have x1 : (if a % w ≤ 0 then 0 else sp_rg s r (a - 1)) = (if 1 ≤ a then sp_t1 s' (-9) (a - 1) else 0) := by
    by_cases h1 : a % w ≤ 0
    · rw [if_pos h1]
      by_cases h2 : 1 ≤ a
      · rw [if_pos h2]
        have hm : w - 1 ≤ (a - 1) % w := by
          have hd := Nat.div_add_mod a w
          have h0 : a % w = 0 := by omega
          have h3 : 1 ≤ a / w := by
            refine Classical.byContradiction fun z => ?_
            have z0 : a / w = 0 := by
              generalize a / w = d at z
              omega
            rw [z0, h0] at hd
            omega
          have h4 : a - 1 = w * (a / w - 1) + (w - 1) := by
            have h5 : w * (a / w) = w * (a / w - 1) + w := by
              rw [← Nat.mul_succ]
              congr 1
              generalize a / w = d at h3
              omega
            generalize w * (a / w) = X1 at h5 hd
            generalize w * (a / w - 1) = X2 at h5
            omega
          rw [h4, Nat.mul_add_mod, Nat.mod_eq_of_lt (by omega)]
          omega
        unfold sp_t1 sp_rt
        rw [tk_e e3' (by omega), if_pos hm]
        rfl
      · rw [if_neg h2]
    · rw [if_neg h1, if_pos (by have := Nat.mod_le a w; omega), rg_t1 hv hs e3 e9 hn hn4 hw hw6 (show a - 1 < n by omega)]
  have x2 : (if a < w then 0 else sp_bl s r (a - w)) = (if w ≤ a then sp_t2 s' (-9) (a - w) else 0) := by
    by_cases h1 : a < w
    · rw [if_pos h1, if_neg (by omega)]
    · rw [if_neg h1, if_pos (by omega), bl_t2 hv hs e2 e3 e9 hn hn4 hh hw hw6 (show a - w < n by omega)]
  rw [x1, x2]
  generalize (if 1 ≤ a then sp_t1 s' (-9) (a - 1) else 0) = x
  generalize (if w ≤ a then sp_t2 s' (-9) (a - w) else 0) = y
  generalize sp_t1 s' (-9) a = p
  generalize sp_t2 s' (-9) a = q
  rw [Int32.add_assoc p x, ← Int32.add_assoc x q y, Int32.add_comm x q, ← Int32.add_assoc, ← Int32.add_assoc]
/-- some cells painted with a coat -/
def pnt (s : ts_T) (k : Nat) (P : Nat → Bool) : ts_T := ts_a (ts_a (ts_a s 11 (fun j => if P j = true then nI k else s 11 j)) 12 (fun j => if P j = true then 0 else s 12 j)) 13 (fun j => if P j = true then 0 else s 13 j)
theorem pnt_sm (s : ts_T) (k : Nat) (P : Nat → Bool) : sm_3 (pnt s k P) s := by
  intro q hq
  unfold pnt ts_a
  rw [if_neg (by omega), if_neg (by omega), if_neg (by omega)]
theorem pnt_t {s : ts_T} {k : Nat} {P : Nat → Bool} {a l : Nat} {z : Int32} (hk : k < 6) (h : P a = true) : sp_ln (pnt s k P) a l z = sp_lk s k 0 0 l z := by
  have e1 : pnt s k P 11 a = nI k := by
    show (if P a = true then nI k else s 11 a) = nI k
    rw [if_pos h]
  have e2 : pnt s k P 12 a = 0 := by
    show (if P a = true then 0 else s 12 a) = 0
    rw [if_pos h]
  have e3 : pnt s k P 13 a = 0 := by
    show (if P a = true then 0 else s 13 a) = 0
    rw [if_pos h]
  unfold sp_ln
  rw [e1, e2, e3, tk_n (by omega)]
  rfl
theorem pnt_f {s : ts_T} {k : Nat} {P : Nat → Bool} {a l : Nat} {z : Int32} (h : ¬ P a = true) : sp_ln (pnt s k P) a l z = sp_ln s a l z := by
  have e1 : pnt s k P 11 a = s 11 a := by
    show (if P a = true then nI k else s 11 a) = s 11 a
    rw [if_neg h]
  have e2 : pnt s k P 12 a = s 12 a := by
    show (if P a = true then 0 else s 12 a) = s 12 a
    rw [if_neg h]
  have e3 : pnt s k P 13 a = s 13 a := by
    show (if P a = true then 0 else s 13 a) = s 13 a
    rw [if_neg h]
  unfold sp_ln
  rw [e1, e2, e3]
  rfl
/-- the world as it is: each cell shows its own looks -/
theorem vw_id {s r : ts_T} {f g : Nat → Int32} {n nl : Nat} (e9 : s 9 0 = nI n) (hn : n ≤ 24) (e8 : s 8 0 = nI nl) (hl : nl ≤ 4) (h0 : ∀ q, q < 192 → r 0 q = lk_a s f (2 * tk (s 8 0)) (tk (s 9 0)) 0 q) (h1 : ∀ a, a < n → r 1 a = nI a) : vw s s r ∧ sh_ok s r := by
  have ek9 := tk_e e9 (by omega)
  have ek8 := tk_e e8 (by omega)
  refine ⟨fun a ha v hv => ?_, fun a ha => ?_⟩
  · rw [ek9] at ha
    rw [ek8] at hv
    rw [h1 a ha, tk_n (by omega), h0 _ (by omega)]
    unfold lk_a
    rw [ek9, ek8, if_pos (by omega), show (8 * a + v) / 8 = a by omega, show (8 * a + v) % 8 = v by omega]
  · rw [ek9] at ha
    exact ⟨a, by omega, h1 a ha⟩
/-- with some cells thought of as painted -/
theorem vw_pn {s r : ts_T} {f : Nat → Int32} {n nl k : Nat} {P : Nat → Bool} (hk : k < 6) (e9 : s 9 0 = nI n) (hn : n ≤ 24) (e8 : s 8 0 = nI nl) (hl : nl ≤ 4) (h0 : r 0 = lk_f s (lk_a s f (2 * tk (s 8 0)) (tk (s 9 0)) 0) k (2 * tk (s 8 0))) (h1 : ∀ a, a < n → r 1 a = if P a = true then 24 else nI a) : vw (pnt s k P) s r ∧ sh_ok s r := by
  have ek9 := tk_e e9 (by omega)
  have ek8 := tk_e e8 (by omega)
  refine ⟨fun a ha v hv => ?_, fun a ha => ?_⟩
  · rw [ek9] at ha
    rw [ek8] at hv
    rw [h1 a ha, h0, ek8, ek9]
    by_cases hP : P a = true
    · rw [if_pos hP, pnt_t hk hP, show tk (24 : Int32) = 24 from rfl]
      unfold lk_f
      rw [if_pos (by omega), show 8 * 24 + v - 192 = v by omega]
    · rw [if_neg hP, pnt_f hP, tk_n (by omega)]
      unfold lk_f
      rw [if_neg (by omega)]
      unfold lk_a
      rw [if_pos (by omega), show (8 * a + v) / 8 = a by omega, show (8 * a + v) % 8 = v by omega]
  · rw [ek9] at ha
    rw [h1 a ha]
    by_cases hP : P a = true
    · rw [if_pos hP]
      exact ⟨24, by omega, rfl⟩
    · rw [if_neg hP]
      exact ⟨a, by omega, rfl⟩
/-- the rectangle from cell a to cell b -/
def rct (w a b : Nat) : Nat → Bool := fun j => decide (a / w ≤ j / w ∧ j / w ≤ b / w ∧ a % w ≤ j % w ∧ j % w ≤ b % w)
theorem rct_1 {w c : Nat} (hw : 0 < w) : rct w c c = fun j => decide (j = c) := by
  funext j
  unfold rct
  congr 1
  apply propext
  constructor
  · intro ⟨h1, h2, h3, h4⟩
    have e1 : j / w = c / w := by generalize j / w = x at *; generalize c / w = y at *; omega
    have e2 : j % w = c % w := by omega
    have d1 := Nat.div_add_mod j w
    have d2 := Nat.div_add_mod c w
    rw [← d1, ← d2, e1, e2]
  · intro h
    subst h
    exact ⟨Nat.le_refl _, Nat.le_refl _, Nat.le_refl _, Nat.le_refl _⟩
def sp_pn (s : ts_T) (k a b : Nat) : ts_T := pnt s k (rct (tk (s 3 0)) a b)
def sp_leave (s : ts_T) (c k : Int32) : Int32 := if sp_ix c (s 9 0) = 0 then -1 else if sp_ix k (s 7 0) = 0 then -1 else sp_sn s (-9) (tk (s 9 0)) - sp_sn (sp_pn s (tk k) (tk c) (tk c)) (-9) (tk (s 9 0)) + 100
/-- the class's search for the cell behind the picture -/
def sp_hd (f : Nat → Int32) : Nat → Int32 × Int32
  | 0 => (0, 0)
  | i + 1 => if f i ≤ (sp_hd f i).2 then sp_hd f i else (nI i, f i)
theorem hd_hb {f : Nat → Int32} (hf : ∀ i, i < 24 → ∃ a : Nat, a ≤ 100 ∧ f i = nI a) : ∀ {n : Nat}, 0 < n → n ≤ 24 → sp_hd f n = sp_hb f n ∧ ∃ a : Nat, a ≤ 100 ∧ (sp_hb f n).2 = nI a
  | 0, h, _ => absurd h (by omega)
  | 1, _, _ => by
    obtain ⟨a, ha, e⟩ := hf 0 (by omega)
    have e1 : sp_hb f 1 = (nI 0, f 0) := by
      show (if f 0 ≤ -1 then (0, -1) else (nI 0, f 0)) = _
      rw [if_neg]
      intro q
      rw [e, Int32.le_iff_toInt_le, nI_toInt (by omega)] at q
      have : (-1 : Int32).toInt = -1 := by decide
      omega
    refine ⟨?_, a, ha, by rw [e1]; exact e⟩
    rw [e1]
    show (if f 0 ≤ 0 then (0, 0) else (nI 0, f 0)) = _
    by_cases h : f 0 ≤ 0
    · rw [if_pos h]
      rw [e, show (0 : Int32) = nI 0 from rfl, nI_leI (by omega) (by omega)] at h
      rw [e, show a = 0 by omega]
      rfl
    · rw [if_neg h]
  | n + 2, _, h => by
    obtain ⟨h1, a, ha, e⟩ := hd_hb hf (n := n + 1) (by omega) (by omega)
    obtain ⟨b, hb, e2⟩ := hf (n + 1) (by omega)
    have e3 : sp_hd f (n + 2) = sp_hb f (n + 2) := by
      show (if f (n + 1) ≤ (sp_hd f (n + 1)).2 then sp_hd f (n + 1) else (nI (n + 1), f (n + 1))) = (if f (n + 1) ≤ (sp_hb f (n + 1)).2 then sp_hb f (n + 1) else (nI (n + 1), f (n + 1)))
      rw [h1]
    refine ⟨e3, ?_⟩
    show ∃ a : Nat, a ≤ 100 ∧ (if f (n + 1) ≤ (sp_hb f (n + 1)).2 then sp_hb f (n + 1) else (nI (n + 1), f (n + 1))).2 = nI a
    by_cases q : f (n + 1) ≤ (sp_hb f (n + 1)).2
    · rw [if_pos q]
      exact ⟨a, ha, e⟩
    · rw [if_neg q]
      exact ⟨b, hb, e2⟩
