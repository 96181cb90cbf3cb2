/-! the best mix: a row q below 2401 is four numbers of drops, each below 7 -/
theorem cm_b {k i b u a m z : Int32} (hi : tn_b i 99) (hl : tn_b (sp_ls k b u a m) 360) : tn_b (sp_cm k i b u a m z) 104 := by
  obtain ⟨x, hx, ei⟩ := hi
  obtain ⟨y, hy, el⟩ := hl
  have e : tn_b (if sp_ls k b u a m ≤ i then i - sp_ls k b u a m else 0) 99 := by
    rw [ei, el]
    by_cases h : y ≤ x
    · rw [if_pos (nI_le h (by omega)), pk_sub h]
      exact ⟨x - y, by omega, rfl⟩
    · rw [if_neg (nI_ge (by omega) (by omega))]
      exact ⟨0, by omega, rfl⟩
  unfold sp_cm
  split
  · exact e.mono (by decide)
  · split
    · exact e.mono (by decide)
    · exact e.add ⟨5, Nat.le_refl 5, rfl⟩
theorem ab_b {x y : Int32} {n : Nat} (hx : tn_b x n) (hy : tn_b y n) (hn : n < 1000000) : tn_b (sp_ab (x - y)) n := by
  obtain ⟨a, ha, rfl⟩ := hx
  obtain ⟨b, hb, rfl⟩ := hy
  unfold sp_ab
  by_cases h : b ≤ a
  · rw [pk_sub h]
    split
    · exact ⟨a - b, by omega, rfl⟩
    · rename_i q
      exact absurd (nI_pos' (by omega)) q
  · rw [if_neg]
    · rw [Int32.neg_sub, pk_sub (by omega)]
      exact ⟨b - a, by omega, rfl⟩
    · have := pk_sneg (a := a) (b := b) (by omega) (by omega)
      exact tn_d_lt this
theorem mx_b {x y : Int32} {n : Nat} (hx : tn_b x n) (hy : tn_b y n) : tn_b (sp_mx x y) n := by
  unfold sp_mx
  split
  · exact hx
  · exact hy
theorem z_b (n : Nat) : tn_b 0 n := ⟨0, by omega, rfl⟩
theorem lq_b {s : ts_T} {k : Int32} {f : Nat → Int32} {u a z : Int32} {l : Nat} (hf : ∀ b, b < 3 → tn_b (f b) 99) (hu : tn_b u 720) (ha : tn_b a 80) (hm : tn_b (s 5 0) 9) (hw : ∀ q, q < 12 → tn_b (s 17 q) 9) (hl : l < 4) : tn_b (sp_lq s k f u a l z) 2808 := by
  unfold sp_lq
  have h0 := (cm_b (z := z) (hf 0 (by omega)) (ls_b (k := k) (b := 0) ⟨0, by omega, rfl⟩ hu ha hm)).mul (hw (3 * l + 0) (by omega))
  have h1 := (cm_b (z := z) (hf 1 (by omega)) (ls_b (k := k) (b := 1) ⟨1, by omega, rfl⟩ hu ha hm)).mul (hw (3 * l + 1) (by omega))
  have h2 := (cm_b (z := z) (hf 2 (by omega)) (ls_b (k := k) (b := 2) ⟨2, by omega, rfl⟩ hu ha hm)).mul (hw (3 * l + 2) (by omega))
  exact ((((z_b 0).add h0).add h1).add h2).mono (by decide)
theorem ln_b {s : ts_T} {j ny l : Nat} {z : Int32} (hc : iv_c s ny j) (hy : ny ≤ 40) (hB : ∀ q, q < 18 → tn_b (s 16 q) 99) (hm : tn_b (s 5 0) 9) (hw : ∀ q, q < 12 → tn_b (s 17 q) 9) (hl : l < 4) : tn_b (sp_ln s j l z) 2808 := by
  obtain ⟨-, ⟨k, hk, ek⟩, h3, h4, -⟩ := hc
  unfold sp_ln
  rw [tk_e ek (by omega)]
  exact lq_b (f := fun b => s 16 (3 * k + b)) (fun b hb => hB _ (by omega)) (h3.mono (by omega)) (h4.mono (by omega)) hm hw hl
theorem mu_b {s : ts_T} {k : Int32} {f : Nat → Int32} {j ny : Nat} (hf : ∀ b, b < 3 → tn_b (f b) 99) (hc : iv_c s ny j) (hy : ny ≤ 40) (hB : ∀ q, q < 18 → tn_b (s 16 q) 99) (hm : tn_b (s 5 0) 9) (hw : ∀ q, q < 12 → tn_b (s 17 q) 9) : ∀ {l : Nat}, l ≤ 4 → tn_b (sp_mu s k f j l) 2808
  | 0, _ => z_b _
  | l + 1, h => by
    unfold sp_mu
    have hd : ∀ z, tn_b (sp_md s k f j l z) 2808 := fun z => ab_b (lq_b (u := 0) (a := 0) (k := k) hf (z_b _) (z_b _) hm hw (by omega)) (ln_b hc hy hB hm hw (by omega)) (by decide)
    exact mx_b (mx_b (mu_b hf hc hy hB hm hw (by omega)) (hd 0)) (hd 1)
theorem mu_c {s : ts_T} {k : Int32} {f g : Nat → Int32} {j : Nat} (h0 : f 0 = g 0) (h1 : f 1 = g 1) (h2 : f 2 = g 2) : ∀ (l : Nat), sp_mu s k f j l = sp_mu s k g j l
  | 0 => rfl
  | l + 1 => by
    unfold sp_mu sp_md
    rw [mu_c h0 h1 h2 l, h0, h1, h2]
/-- what speaks of the four numbers alone -/
theorem dc_sd {d e : Nat → Int32} (h : ∀ i, i < 4 → d i = e i) : sp_sd d 4 = sp_sd e 4 := by
  show 0 + d 0 + d 1 + d 2 + d 3 = 0 + e 0 + e 1 + e 2 + e 3
  rw [h 0 (by omega), h 1 (by omega), h 2 (by omega), h 3 (by omega)]
theorem dc_ad {s : ts_T} {d e : Nat → Int32} (h : ∀ i, i < 4 → d i = e i) : sp_ad s d = sp_ad s e := by
  have hg : ∀ i, i < 4 → sp_dg s d i = sp_dg s e i := by
    intro i hi
    unfold sp_dg
    rw [h i hi]
  have hk : sp_dok s d 4 = sp_dok s e 4 := by
    show ((((true && sp_dg s d 0) && sp_dg s d 1) && sp_dg s d 2) && sp_dg s d 3) = ((((true && sp_dg s e 0) && sp_dg s e 1) && sp_dg s e 2) && sp_dg s e 3)
    rw [hg 0 (by omega), hg 1 (by omega), hg 2 (by omega), hg 3 (by omega)]
  unfold sp_ad
  rw [hk, dc_sd h]
theorem dc_mb {s : ts_T} {d e : Nat → Int32} (h : ∀ i, i < 4 → d i = e i) (b : Nat) : sp_mb s d b = sp_mb s e b := by
  unfold sp_mb
  rw [dc_sd h, h 0 (by omega), h 1 (by omega), h 2 (by omega), h 3 (by omega)]
theorem dc_mk {s : ts_T} {d e : Nat → Int32} (h : ∀ i, i < 4 → d i = e i) : sp_mk s d 4 = sp_mk s e 4 := by
  have key : ∀ n, n ≤ 4 → sp_mk s d n = sp_mk s e n := by
    intro n
    induction n with
    | zero => intro _; rfl
    | succ n ih =>
      intro hn
      unfold sp_mk
      rw [ih (by omega), h n (by omega)]
  exact key 4 (Nat.le_refl 4)
theorem d4_0 (f g : Nat → Int32) (a b c d : Int32) : ∀ i, i < 4 → sp_d4 f a b c d i = sp_d4 g a b c d i := by
  intro i hi
  have h4 : i = 0 ∨ i = 1 ∨ i = 2 ∨ i = 3 := by omega
  rcases h4 with rfl | rfl | rfl | rfl <;> rfl
def br (q : Nat) : Nat → Int32 := sp_d4 (fun _ => 0) (nI (q / 343)) (nI (q / 49 % 7)) (nI (q / 7 % 7)) (nI (q % 7))
def bD (q : Nat) : Nat := q / 343 + q / 49 % 7 + q / 7 % 7 + q % 7
def bU (s : ts_T) (j l q : Nat) : Int32 := sp_mu s (sp_mk s (br q) 4) (fun b => sp_mb s (br q) b) j l
def bG (s : ts_T) (q : Nat) : Prop := q < 2401 ∧ bD q ≤ 6 ∧ ¬ sp_ad s (br q) = 0
def bL (s : ts_T) (j l p q : Nat) : Prop := bU s j l p < bU s j l q ∨ (bU s j l p = bU s j l q ∧ (bD p < bD q ∨ (bD p = bD q ∧ p ≤ q)))
def bI (s : ts_T) (j l p : Nat) : Prop := bG s p ∧ ∀ q, bG s q → bL s j l p q
noncomputable def bQ (s : ts_T) (j l : Nat) : Nat := Classical.epsilon (bI s j l)
theorem bQ_e {s : ts_T} {j l p : Nat} (h : bI s j l p) : bQ s j l = p := by
  have z : bI s j l (bQ s j l) := Classical.epsilon_spec ⟨p, h⟩
  generalize bQ s j l = q at z
  have h1 := h.2 q z.1
  have h2 := z.2 p h.1
  unfold bL at h1 h2
  simp only [Int32.lt_iff_toInt_lt, ← Int32.toInt_inj] at h1 h2
  omega
theorem br_sd {q : Nat} : sp_sd (br q) 4 = nI (bD q) := by
  show 0 + nI (q / 343) + nI (q / 49 % 7) + nI (q / 7 % 7) + nI (q % 7) = _
  rw [Int32.zero_add, nI_add, nI_add, nI_add]
  rfl
theorem bG_1 {s : ts_T} {q : Nat} (h : bG s q) : 1 ≤ bD q := by
  obtain ⟨t, t1, t2, et⟩ := ad_t h.2.2
  rw [br_sd] at et
  have := h.2.1
  rw [nI_eq (by omega) (by omega)] at et
  omega
theorem bU_nn {s : ts_T} {j l : Nat} {q : Nat} {n : Nat} (hb : tn_b (bU s j l q) n) (hn : n < 1000000) : ¬ bU s j l q = -9 := by
  obtain ⟨a, ha, e⟩ := hb
  rw [e]
  exact fun z => absurd (nI_pos' (n := a) (by omega)) (by rw [z]; decide)
/-- the least of those that are done -/
def bK (s : ts_T) (j l : Nat) (d : Nat → Prop) (p : Nat) : Prop := bG s p ∧ d p ∧ ∀ q, bG s q → d q → bL s j l p q
theorem bK_c {s : ts_T} {j l p : Nat} {d d' : Nat → Prop} (h : bK s j l d p) (hd : ∀ x, bG s x → (d' x ↔ d x)) : bK s j l d' p :=
  ⟨h.1, (hd p h.1).mpr h.2.1, fun q hq hx => h.2.2 q hq ((hd q hq).mp hx)⟩
theorem bL_r (s : ts_T) (j l q : Nat) : bL s j l q q := Or.inr ⟨rfl, Or.inr ⟨rfl, Nat.le_refl q⟩⟩
theorem bL_t {s : ts_T} {j l p q x : Nat} (h1 : bL s j l p q) (h2 : bL s j l q x) : bL s j l p x := by
  unfold bL at h1 h2 ⊢
  simp only [Int32.lt_iff_toInt_lt, ← Int32.toInt_inj] at h1 h2 ⊢
  omega
/-- one more is done: the old one stays, or the new one is the least -/
theorem bK_o {s : ts_T} {j l p q : Nat} {d d' : Nat → Prop} (h : bK s j l d p) (hd : ∀ x, bG s x → (d' x ↔ d x ∨ x = q)) (hq : bL s j l p q) : bK s j l d' p := by
  refine ⟨h.1, (hd p h.1).mpr (Or.inl h.2.1), fun x hx hdx => ?_⟩
  rcases (hd x hx).mp hdx with z | z
  · exact h.2.2 x hx z
  · subst z
    exact hq
theorem bK_n {s : ts_T} {j l p q : Nat} {d d' : Nat → Prop} (h : bK s j l d p) (hg : bG s q) (hd : ∀ x, bG s x → (d' x ↔ d x ∨ x = q)) (hq : bL s j l q p) : bK s j l d' q := by
  refine ⟨hg, (hd q hg).mpr (Or.inr rfl), fun x hx hdx => ?_⟩
  rcases (hd x hx).mp hdx with z | z
  · exact bL_t hq (h.2.2 x hx z)
  · subst z
    exact bL_r _ _ _ _
theorem bK_1 {s : ts_T} {j l q : Nat} {d d' : Nat → Prop} (h : ∀ x, bG s x → ¬ d x) (hg : bG s q) (hd : ∀ x, bG s x → (d' x ↔ d x ∨ x = q)) : bK s j l d' q := by
  refine ⟨hg, (hd q hg).mpr (Or.inr rfl), fun x hx hdx => ?_⟩
  rcases (hd x hx).mp hdx with z | z
  · exact absurd z (h x hx)
  · subst z
    exact bL_r _ _ _ _
/-! the reference: by drops, then by rows -/
def rM (s : ts_T) (j l : Nat) (v : Int32) (f : Nat → Int32) (d : Nat → Prop) : Prop := (v = -9 ∧ ∀ x, bG s x → ¬ d x) ∨ ∃ p, bK s j l d p ∧ v = bU s j l p ∧ ∀ i, i < 4 → f i = br p i
def bN (m q x : Nat) : Prop := bD x < m ∨ (bD x = m ∧ x < q)
theorem rM_c {s : ts_T} {j l : Nat} {v : Int32} {f : Nat → Int32} {d d' : Nat → Prop} (h : rM s j l v f d) (hd : ∀ x, bG s x → (d' x ↔ d x)) : rM s j l v f d' := by
  rcases h with h | ⟨p, h1, h2⟩
  · exact Or.inl ⟨h.1, fun x hx z => h.2 x hx ((hd x hx).mp z)⟩
  · exact Or.inr ⟨p, bK_c h1 hd, h2⟩
theorem bN_s {m q x : Nat} (hD : bD q = m) : bN m (q + 1) x ↔ bN m q x ∨ x = q := by
  unfold bN
  constructor
  · intro h
    by_cases e : x = q
    · exact Or.inr e
    · left
      omega
  · intro h
    rcases h with h | h
    · omega
    · subst h
      omega
theorem rM_skip {s : ts_T} {j l m q : Nat} {v : Int32} {f : Nat → Int32} (h : rM s j l v f (bN m q)) (hq : bG s q → ¬ bD q = m) : rM s j l v f (bN m (q + 1)) := by
  refine rM_c h (fun x hx => ?_)
  unfold bN
  by_cases e : x = q
  · subst e
    have := hq hx
    omega
  · omega
theorem rM_first {s : ts_T} {j l m q n : Nat} {v : Int32} {f g : Nat → Int32} (h : rM s j l v f (bN m q)) (hb : ∀ p, bG s p → tn_b (bU s j l p) n) (hn : n < 1000000) (hv : v = -9) (hg : bG s q) (hD : bD q = m) (he : ∀ i, i < 4 → g i = br q i) : rM s j l (bU s j l q) g (bN m (q + 1)) := by
  rcases h with h | ⟨p, h1, h2, h3⟩
  · exact Or.inr ⟨q, bK_1 h.2 hg (fun x _ => bN_s hD), rfl, he⟩
  · exact absurd (h2.symm.trans hv) (bU_nn (hb p h1.1) hn)
theorem bN_D {s : ts_T} {m q p : Nat} (h : bN m q p) (hD : bD q = m) : bD p < bD q ∨ (bD p = bD q ∧ p ≤ q) := by
  unfold bN at h
  omega
theorem rM_keep {s : ts_T} {j l m q : Nat} {v : Int32} {f : Nat → Int32} (h : rM s j l v f (bN m q)) (hv : ¬ v = -9) (hD : bD q = m) (hle : v ≤ bU s j l q) : rM s j l v f (bN m (q + 1)) := by
  rcases h with h | ⟨p, h1, h2, h3⟩
  · exact absurd h.1 hv
  · refine Or.inr ⟨p, bK_o h1 (fun x _ => bN_s hD) ?_, h2, h3⟩
    have h4 := bN_D (s := s) h1.2.1 hD
    unfold bL
    rw [h2] at hle
    simp only [Int32.lt_iff_toInt_lt, Int32.le_iff_toInt_le, ← Int32.toInt_inj] at hle ⊢
    omega
theorem rM_better {s : ts_T} {j l m q : Nat} {v : Int32} {f g : Nat → Int32} (h : rM s j l v f (bN m q)) (hv : ¬ v = -9) (hg : bG s q) (hD : bD q = m) (hle : ¬ v ≤ bU s j l q) (he : ∀ i, i < 4 → g i = br q i) : rM s j l (bU s j l q) g (bN m (q + 1)) := by
  rcases h with h | ⟨p, h1, h2, h3⟩
  · exact absurd h.1 hv
  · refine Or.inr ⟨q, bK_n h1 hg (fun x _ => bN_s hD) ?_, rfl, he⟩
    rw [h2] at hle
    exact Or.inl (tn_d_nle hle)
theorem rM_next {s : ts_T} {j l m : Nat} {v : Int32} {f : Nat → Int32} (h : rM s j l v f (bN m 2401)) : rM s j l v f (bN (m + 1) 0) := by
  refine rM_c h (fun x hx => ?_)
  have := hx.1
  unfold bN
  omega
theorem rM_0 (s : ts_T) (j l : Nat) (f : Nat → Int32) : rM s j l (-9) f (bN 1 0) := by
  refine Or.inl ⟨rfl, fun x hx => ?_⟩
  have := bG_1 hx
  unfold bN
  omega
theorem bG_0 {s : ts_T} {nk : Nat} (e7 : s 7 0 = nI nk) (h1 : 1 ≤ nk) (h2 : nk ≤ 6) : bG s 343 := by
  refine ⟨by decide, by decide, ?_⟩
  have hx : ¬ sp_ix (nI 0) (s 7 0) = 0 := by
    rw [e7]
    unfold sp_ix
    rw [if_neg (by decide), if_neg]
    · decide
    · exact nI_ge (by omega) (by omega)
  have g0 : sp_dg s (br 343) 0 = true := by
    unfold sp_dg
    rw [if_neg (by decide), if_neg (by decide), if_neg hx]
  have g1 : ∀ i, i = 1 ∨ i = 2 ∨ i = 3 → sp_dg s (br 343) i = true := by
    intro i hi
    unfold sp_dg
    rcases hi with rfl | rfl | rfl
    · rw [if_neg (by decide), if_pos (by decide)]
    · rw [if_neg (by decide), if_pos (by decide)]
    · rw [if_neg (by decide), if_pos (by decide)]
  have hk : sp_dok s (br 343) 4 = true := by
    show ((((true && sp_dg s (br 343) 0) && sp_dg s (br 343) 1) && sp_dg s (br 343) 2) && sp_dg s (br 343) 3) = true
    rw [g0, g1 1 (by decide), g1 2 (by decide), g1 3 (by decide)]
    rfl
  unfold sp_ad
  rw [if_pos hk]
  decide
theorem rM_end {s : ts_T} {j l nk : Nat} {v : Int32} {f : Nat → Int32} (h : rM s j l v f (bN 7 0)) (e7 : s 7 0 = nI nk) (h1 : 1 ≤ nk) (h2 : nk ≤ 6) : v = bU s j l (bQ s j l) ∧ ∀ i, i < 4 → f i = br (bQ s j l) i := by
  have hall : ∀ x, bG s x → bN 7 0 x := by
    intro x hx
    have := hx.2.1
    unfold bN
    omega
  rcases h with h | ⟨p, h3, h4, h5⟩
  · exact absurd (hall 343 (bG_0 e7 h1 h2)) (h.2 343 (bG_0 e7 h1 h2))
  · have hp : bI s j l p := ⟨h3.1, fun q hq => h3.2.2 q hq (hall q hq)⟩
    rw [bQ_e hp]
    exact ⟨h4, h5⟩
/-! the class: rows in their order -/
def cM (s : ts_T) (j l : Nat) (v w : Int32) (f : Nat → Int32) (Q : Nat) : Prop := (v = 2147483647 ∧ w = 0 ∧ ∀ x, bG s x → ¬ x < Q) ∨ ∃ p, bK s j l (fun x => x < Q) p ∧ v = bU s j l p ∧ w = nI (bD p) ∧ ∀ i, i < 4 → f i = br p i
theorem cM_skip {s : ts_T} {j l Q Q' : Nat} {v w : Int32} {f : Nat → Int32} (h : cM s j l v w f Q) (hQ : ∀ x, bG s x → (x < Q' ↔ x < Q)) : cM s j l v w f Q' := by
  rcases h with h | ⟨p, h1, h2⟩
  · exact Or.inl ⟨h.1, h.2.1, fun x hx z => h.2.2 x hx ((hQ x hx).mp z)⟩
  · exact Or.inr ⟨p, bK_c h1 hQ, h2⟩
theorem lt_sb {x q : Nat} : x < q + 1 ↔ x < q ∨ x = q := by omega
theorem cM_lt {s : ts_T} {j l q n : Nat} {v w : Int32} {f g : Nat → Int32} (h : cM s j l v w f q) (hb : ∀ p, bG s p → tn_b (bU s j l p) n) (hg : bG s q) (hlt : bU s j l q < v) (he : ∀ i, i < 4 → g i = br q i) : cM s j l (bU s j l q) (nI (bD q)) g (q + 1) := by
  rcases h with h | ⟨p, h1, h2, h3⟩
  · exact Or.inr ⟨q, bK_1 h.2.2 hg (fun x _ => lt_sb), rfl, rfl, he⟩
  · refine Or.inr ⟨q, bK_n h1 hg (fun x _ => lt_sb) ?_, rfl, rfl, he⟩
    rw [h2] at hlt
    exact Or.inl hlt
theorem cM_nlt {s : ts_T} {j l q n : Nat} {v w : Int32} {f : Nat → Int32} (h : cM s j l v w f q) (hb : ∀ p, bG s p → tn_b (bU s j l p) n) (hn : n < 1000000) (hg : bG s q) (hlt : ¬ bU s j l q < v) (hne : ¬ (bU s j l q = v ∧ nI (bD q) < w)) : cM s j l v w f (q + 1) := by
  rcases h with h | ⟨p, h1, h2, h3, h4⟩
  · exfalso
    obtain ⟨a, ha, e⟩ := hb q hg
    apply hlt
    rw [e, h.1]
    exact nI_lt (a := a) (b := 2147483647) (by omega) (by omega)
  · refine Or.inr ⟨p, bK_o h1 (fun x _ => lt_sb) ?_, h2, h3, h4⟩
    have hp := h1.1.2.1
    have hq := hg.2.1
    have hpq : p < q := h1.2.1
    rw [h2] at hlt hne
    rw [h3, nI_ltI (by omega) (by omega)] at hne
    unfold bL
    simp only [Int32.lt_iff_toInt_lt, ← Int32.toInt_inj] at hlt hne ⊢
    omega
theorem cM_eq {s : ts_T} {j l q n : Nat} {v w : Int32} {f g : Nat → Int32} (h : cM s j l v w f q) (hb : ∀ p, bG s p → tn_b (bU s j l p) n) (hn : n < 1000000) (hg : bG s q) (heq : bU s j l q = v) (hlt : nI (bD q) < w) (he : ∀ i, i < 4 → g i = br q i) : cM s j l (bU s j l q) (nI (bD q)) g (q + 1) := by
  rcases h with h | ⟨p, h1, h2, h3, h4⟩
  · exfalso
    rw [h.2.1] at hlt
    have hq := hg.2.1
    exact absurd hlt (nI_pos (by omega))
  · refine Or.inr ⟨q, bK_n h1 hg (fun x _ => lt_sb) ?_, rfl, rfl, he⟩
    have hp := h1.1.2.1
    have hq := hg.2.1
    rw [h3, nI_ltI (by omega) (by omega)] at hlt
    exact Or.inr ⟨heq.trans h2, Or.inl hlt⟩
theorem cM_end {s : ts_T} {j l nk : Nat} {v w : Int32} {f : Nat → Int32} (h : cM s j l v w f 2401) (e7 : s 7 0 = nI nk) (h1 : 1 ≤ nk) (h2 : nk ≤ 6) : v = bU s j l (bQ s j l) ∧ ∀ i, i < 4 → f i = br (bQ s j l) i := by
  rcases h with h | ⟨p, h3, h4, -, h5⟩
  · exact absurd (by decide) (h.2.2 343 (bG_0 e7 h1 h2))
  · have hp : bI s j l p := ⟨h3.1, fun q hq => h3.2.2 q hq hq.1⟩
    rw [bQ_e hp]
    exact ⟨h4, h5⟩
