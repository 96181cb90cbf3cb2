/-! the least patch: a code x is the pair of cells x / 24, x % 24 -/
def pV (w n cc x : Nat) : Prop := x / 24 / w ≤ cc / w ∧ x / 24 % w ≤ cc % w ∧ cc / w ≤ x % 24 / w ∧ cc % w ≤ x % 24 % w ∧ x % 24 < n
def pG (s : ts_T) (w n cc k x : Nat) : Prop := pV w n cc x ∧ sp_sn (sp_pn s k (x / 24) (x % 24)) (-9) n = 0
def pm (w x : Nat) : Nat := (x % 24 / w - x / 24 / w + 1) * (x % 24 % w - x / 24 % w + 1)
def pL (w p q : Nat) : Prop := pm w p < pm w q ∨ (pm w p = pm w q ∧ p ≤ q)
def pR (s : ts_T) (w n cc k : Nat) (o : Option Nat) : Prop := match o with
  | none => ∀ x, ¬ pG s w n cc k x
  | some p => pG s w n cc k p ∧ ∀ x, pG s w n cc k x → pL w p x
noncomputable def pQ (s : ts_T) (w n cc k : Nat) : Option Nat := Classical.epsilon (pR s w n cc k)
theorem pQ_e {s : ts_T} {w n cc k : Nat} {o : Option Nat} (h : pR s w n cc k o) : pQ s w n cc k = o := by
  have z : pR s w n cc k (pQ s w n cc k) := Classical.epsilon_spec ⟨o, h⟩
  generalize pQ s w n cc k = q at z
  cases o with
  | none =>
    cases q with
    | none => rfl
    | some p => exact absurd z.1 (h p)
  | some p =>
    cases q with
    | none => exact absurd h.1 (z p)
    | some q =>
      have h1 := h.2 q z.1
      have h2 := z.2 p h.1
      unfold pL at h1 h2
      rw [show q = p by omega]
noncomputable def sp_patch (s : ts_T) (c k v : Int32) : Int32 := if sp_ix c (s 9 0) = 0 then -1 else if sp_ix k (s 7 0) = 0 then -1 else if sp_in v 0 2 = 0 then -2 else match pQ s (tk (s 3 0)) (tk (s 9 0)) (tk c) (tk k) with
  | none => -9
  | some p => if v = 0 then nI (pm (tk (s 3 0)) p) else if v = 1 then nI (p / 24) else nI (p % 24)
def pM (s : ts_T) (w n cc k : Nat) (z v f l : Int32) (Q : Nat) : Prop := (v = z ∧ ∀ x, pG s w n cc k x → ¬ x < Q) ∨ ∃ p, pG s w n cc k p ∧ p < Q ∧ (∀ x, pG s w n cc k x → x < Q → pL w p x) ∧ v = nI (pm w p) ∧ f = nI (p / 24) ∧ l = nI (p % 24)
theorem pm_b0 {h w n cc x : Nat} (hx : x % 24 < n) (hn : n = h * w) (hh : h ≤ 4) (hw : 0 < w) (hw6 : w ≤ 6) : 1 ≤ pm w x ∧ pm w x ≤ 24 := by
  have h1 : x % 24 / w < h := Nat.div_lt_of_lt_mul (by rw [Nat.mul_comm, ← hn]; exact hx)
  have h2 := Nat.mod_lt (x % 24) hw
  unfold pm
  generalize x % 24 / w = A at *
  generalize x % 24 % w = B at *
  generalize x / 24 / w = C
  generalize x / 24 % w = D
  refine ⟨Nat.mul_pos (by omega) (by omega), ?_⟩
  exact Nat.le_trans (Nat.mul_le_mul (show A - C + 1 ≤ 4 by omega) (show B - D + 1 ≤ 6 by omega)) (by decide)
theorem pM_skip {s : ts_T} {w n cc k Q Q' : Nat} {z v f l : Int32} (h : pM s w n cc k z v f l Q) (hQ : ∀ x, pV w n cc x → (x < Q' ↔ x < Q)) : pM s w n cc k z v f l Q' := by
  rcases h with h | ⟨p, h1, h2, h3, h4⟩
  · exact Or.inl ⟨h.1, fun x hx y => h.2 x hx ((hQ x hx.1).mp y)⟩
  · exact Or.inr ⟨p, h1, (hQ p h1.1).mpr h2, fun x hx y => h3 x hx ((hQ x hx.1).mp y), h4⟩
theorem pM_bad {s : ts_T} {w n cc k Q : Nat} {z v f l : Int32} (h : pM s w n cc k z v f l Q) (hb : ¬ pG s w n cc k Q) : pM s w n cc k z v f l (Q + 1) := by
  have key : ∀ x, pG s w n cc k x → x < Q + 1 → x < Q := by
    intro x hx y
    by_cases e : x = Q
    · subst e
      exact absurd hx hb
    · omega
  rcases h with h | ⟨p, h1, h2, h3, h4⟩
  · exact Or.inl ⟨h.1, fun x hx y => h.2 x hx (key x hx y)⟩
  · exact Or.inr ⟨p, h1, by omega, fun x hx y => h3 x hx (key x hx y), h4⟩
theorem pM_keep {s : ts_T} {h0 w n cc k Q : Nat} {z v f l : Int32} (h : pM s w n cc k z v f l Q) (hn : n = h0 * w) (hh : h0 ≤ 4) (hw : 0 < w) (hw6 : w ≤ 6) (hQ : Q % 24 < n) (hv : ¬ v = z) (hle : v ≤ nI (pm w Q)) : pM s w n cc k z v f l (Q + 1) := by
  rcases h with h | ⟨p, h1, h2, h3, h4, h5⟩
  · exact absurd h.1 hv
  · refine Or.inr ⟨p, h1, by omega, fun x hx y => ?_, h4, h5⟩
    by_cases e : x = Q
    · subst e
      have b1 := pm_b0 (cc := cc) h1.1.2.2.2.2 hn hh hw hw6
      have b2 := pm_b0 (cc := cc) hQ hn hh hw hw6
      rw [h4, nI_leI (by omega) (by omega)] at hle
      unfold pL
      omega
    · exact h3 x hx (by omega)
theorem pM_new {s : ts_T} {h0 w n cc k Q : Nat} {z v f l : Int32} (h : pM s w n cc k z v f l Q) (hn : n = h0 * w) (hh : h0 ≤ 4) (hw : 0 < w) (hw6 : w ≤ 6) (hz : ∀ a : Nat, 1 ≤ a → a ≤ 24 → ¬ nI a = z) (hg : pG s w n cc k Q) (hv : v = z ∨ ¬ v ≤ nI (pm w Q)) : pM s w n cc k z (nI (pm w Q)) (nI (Q / 24)) (nI (Q % 24)) (Q + 1) := by
  refine Or.inr ⟨Q, hg, by omega, fun x hx y => ?_, rfl, rfl, rfl⟩
  by_cases e : x = Q
  · subst e
    exact Or.inr ⟨rfl, Nat.le_refl _⟩
  · rcases h with h | ⟨p, h1, h2, h3, h4, h5⟩
    · exact absurd (show x < Q by omega) (h.2 x hx)
    · have b1 := pm_b0 (cc := cc) h1.1.2.2.2.2 hn hh hw hw6
      have b2 := pm_b0 (cc := cc) hg.1.2.2.2.2 hn hh hw hw6
      have h6 := h3 x hx (by omega)
      rw [h4] at hv
      rcases hv with hv | hv
      · exact absurd hv (hz _ b1.1 b1.2)
      · rw [nI_leI (by omega) (by omega)] at hv
        unfold pL at h6 ⊢
        omega
theorem pM_end {s : ts_T} {h0 w n cc k Q : Nat} {z v f l : Int32} (h : pM s w n cc k z v f l Q) (hn : n = h0 * w) (hh : h0 ≤ 4) (hw : 0 < w) (hw6 : w ≤ 6) (hz : ∀ a : Nat, 1 ≤ a → a ≤ 24 → ¬ nI a = z) (hall : ∀ x, pV w n cc x → x < Q) : (v = z ∧ pQ s w n cc k = none) ∨ ∃ p, ¬ v = z ∧ pQ s w n cc k = some p ∧ v = nI (pm w p) ∧ f = nI (p / 24) ∧ l = nI (p % 24) := by
  rcases h with h | ⟨p, h1, h2, h3, h4, h5⟩
  · exact Or.inl ⟨h.1, pQ_e (o := none) (fun x hx => h.2 x hx (hall x hx.1))⟩
  · refine Or.inr ⟨p, ?_, pQ_e (o := some p) ⟨h1, fun x hx => h3 x hx (hall x hx.1)⟩, h4, h5⟩
    have b1 := pm_b0 (cc := cc) h1.1.2.2.2.2 hn hh hw hw6
    rw [h4]
    exact hz _ b1.1 b1.2
theorem z_n9 : ∀ a : Nat, 1 ≤ a → a ≤ 24 → ¬ nI a = -9 := fun a _ h => nI_n9 (by omega)
theorem z_0 : ∀ a : Nat, 1 ≤ a → a ≤ 24 → ¬ nI a = 0 := fun a h1 h => nI_ne0 (by omega) (by omega)
/-- a pair of cells as a code -/
theorem cd_1 {a b : Nat} (hb : b < 24) : (24 * a + b) / 24 = a := by omega
theorem cd_2 {a b : Nat} (hb : b < 24) : (24 * a + b) % 24 = b := by omega
theorem pm_ab {w a b : Nat} (hb : b < 24) : pm w (24 * a + b) = (b / w - a / w + 1) * (b % w - a % w + 1) := by
  unfold pm
  rw [cd_1 hb, cd_2 hb]
theorem pV_ab {w n cc a b : Nat} (hb : b < 24) : pV w n cc (24 * a + b) ↔ a / w ≤ cc / w ∧ a % w ≤ cc % w ∧ cc / w ≤ b / w ∧ cc % w ≤ b % w ∧ b < n := by
  unfold pV
  rw [cd_1 hb, cd_2 hb]
theorem pM_nv {s : ts_T} {w n cc k i m : Nat} {z v f l : Int32} (h : pM s w n cc k z v f l (24 * i + m)) (hm : m < 24) (hv : ¬ (i / w ≤ cc / w ∧ i % w ≤ cc % w ∧ cc / w ≤ m / w ∧ cc % w ≤ m % w)) : pM s w n cc k z v f l (24 * i + (m + 1)) := by
  refine pM_bad h (fun z => hv ?_)
  have := (pV_ab hm).mp z.1
  exact ⟨this.1, this.2.1, this.2.2.1, this.2.2.2.1⟩
theorem pM_nk {s : ts_T} {h0 w n cc k a b : Nat} {z v f l : Int32} (h : pM s w n cc k z v f l (24 * a + b)) (hn : n = h0 * w) (hh : h0 ≤ 4) (hw : 0 < w) (hw6 : w ≤ 6) (hb : b < 24) (hbn : b < n) (hv : ¬ v = z) (hle : v ≤ nI (pm w (24 * a + b))) : pM s w n cc k z v f l (24 * a + (b + 1)) := pM_keep (Q := 24 * a + b) h hn hh hw hw6 (by rw [cd_2 hb]; exact hbn) hv hle
theorem pM_nb {s : ts_T} {w n cc k a b : Nat} {z v f l : Int32} (h : pM s w n cc k z v f l (24 * a + b)) (hb : b < 24) (hs : ¬ sp_sn (sp_pn s k a b) (-9) n = 0) : pM s w n cc k z v f l (24 * a + (b + 1)) := by
  refine pM_bad (Q := 24 * a + b) h (fun y => hs ?_)
  have := y.2
  rw [cd_1 hb, cd_2 hb] at this
  exact this
theorem pM_nn {s : ts_T} {h0 w n cc k a b : Nat} {z v f l f' l' : Int32} (h : pM s w n cc k z v f l (24 * a + b)) (hn : n = h0 * w) (hh : h0 ≤ 4) (hw : 0 < w) (hw6 : w ≤ 6) (hz : ∀ a : Nat, 1 ≤ a → a ≤ 24 → ¬ nI a = z) (hb : b < 24) (hV : a / w ≤ cc / w ∧ a % w ≤ cc % w ∧ cc / w ≤ b / w ∧ cc % w ≤ b % w ∧ b < n) (hs : sp_sn (sp_pn s k a b) (-9) n = 0) (hv : v = z ∨ ¬ v ≤ nI (pm w (24 * a + b))) (hf : f' = nI a) (hl : l' = nI b) : pM s w n cc k z (nI (pm w (24 * a + b))) f' l' (24 * a + (b + 1)) := by
  have h1 := pM_new h hn hh hw hw6 hz ⟨(pV_ab hb).mpr hV, by rw [cd_1 hb, cd_2 hb]; exact hs⟩ hv
  rw [cd_1 hb, cd_2 hb] at h1
  rw [hf, hl]
  exact h1
theorem pm_i {w a b : Nat} {p q x : Int32} (hp : p = nI a) (hq : q = nI b) (hx : x = nI w) (hw : 0 < w) (hw6 : w ≤ 6) (ha : a < 24) (hb : b < 24) (h1 : a / w ≤ b / w) (h2 : a % w ≤ b % w) : (q / x - p / x + 1) * (q - q / x * x - (p - p / x * x) + 1) = nI (pm w (24 * a + b)) := by
  rw [tn_rem hp hx (by omega) hw (by omega), tn_rem hq hx (by omega) hw (by omega), tn_div hp hx (by omega) hw (by omega), tn_div hq hx (by omega) hw (by omega), pk_sub h1, pk_sub h2, nI_1, nI_1, pk_mul, pm_ab hb]
/-! what lies between the steps of the loops -/
theorem w_5 {w : Nat} (h1 : 2 ≤ w) (h2 : w ≤ 6) : w = 2 ∨ w = 3 ∨ w = 4 ∨ w = 5 ∨ w = 6 := by omega
theorem pS_1 {w n cc i l x : Nat} (h1 : 2 ≤ w) (h2 : w ≤ 6) (hc : cc < 24) (hx : pV w n cc x) : x < 24 * (i * w + l) + cc / w * w ↔ x < 24 * (i * w + l) := by
  obtain ⟨-, -, h3, -, -⟩ := hx
  rcases w_5 h1 h2 with rfl | rfl | rfl | rfl | rfl <;> omega
theorem pS_2 {w n cc bo A x : Nat} (h1 : 2 ≤ w) (h2 : w ≤ 6) (hb : bo * w + w ≤ 24) (hx : pV w n cc x) : x < 24 * A + (bo * w + cc % w) ↔ x < 24 * A + bo * w := by
  obtain ⟨-, -, -, h3, -⟩ := hx
  refine ⟨fun h => Classical.byContradiction fun q => ?_, fun h => by omega⟩
  have hc := Nat.mod_lt cc (show 0 < w by omega)
  obtain ⟨e, he⟩ : ∃ e, x = 24 * A + (bo * w + e) := ⟨x - 24 * A - bo * w, by omega⟩
  have h4 : e < cc % w := by omega
  have h5 : x % 24 = bo * w + e := by omega
  rw [h5, Nat.mul_comm bo w, Nat.mul_add_mod, Nat.mod_eq_of_lt (show e < w by omega)] at h3
  omega
theorem pS_3 {w n cc A x : Nat} (hn : n ≤ 24) (hx : pV w n cc x) : x < 24 * (A + 1) ↔ x < 24 * A + n := by
  obtain ⟨-, -, -, -, h3⟩ := hx
  omega
theorem pS_4 {w n cc i x : Nat} (h1 : 2 ≤ w) (h2 : w ≤ 6) (hx : pV w n cc x) : x < 24 * ((i + 1) * w) ↔ x < 24 * (i * w + (cc % w + 1)) := by
  obtain ⟨-, h3, -, -, -⟩ := hx
  rcases w_5 h1 h2 with rfl | rfl | rfl | rfl | rfl <;> omega
theorem pS_5 {w n cc x : Nat} (h1 : 2 ≤ w) (h2 : w ≤ 6) (hx : pV w n cc x) : x < 24 * ((cc / w + 1) * w) := by
  obtain ⟨h3, -, -, -, -⟩ := hx
  rcases w_5 h1 h2 with rfl | rfl | rfl | rfl | rfl <;> omega
theorem pS_6 {w n cc i x : Nat} (h1 : 2 ≤ w) (h2 : w ≤ 6) (hc : cc < 24) (hx : pV w n cc x) : x < 24 * i + cc ↔ x < 24 * i := by
  obtain ⟨-, -, h3, h4, -⟩ := hx
  rcases w_5 h1 h2 with rfl | rfl | rfl | rfl | rfl <;> omega
theorem pS_7 {w n cc x : Nat} (h1 : 2 ≤ w) (h2 : w ≤ 6) (hx : pV w n cc x) : x < 24 * (cc + 1) := by
  obtain ⟨h3, h4, -, -, -⟩ := hx
  rcases w_5 h1 h2 with rfl | rfl | rfl | rfl | rfl <;> omega
