/-! numbers: an int that is a small natural number -/
theorem tn_add {x y : Int32} {a b : Nat} (hx : x = nI a) (hy : y = nI b) : x + y = nI (a + b) := by rw [hx, hy, nI_add]
theorem tn_mul {x y : Int32} {a b : Nat} (hx : x = nI a) (hy : y = nI b) : x * y = nI (a * b) := by rw [hx, hy, pk_mul]
theorem tn_sub {x y : Int32} {a b : Nat} (hx : x = nI a) (hy : y = nI b) (h : b ≤ a) : x - y = nI (a - b) := by rw [hx, hy, pk_sub h]
theorem tn_div {x y : Int32} {a b : Nat} (hx : x = nI a) (hy : y = nI b) (ha : a < 2147483648) (h0 : 0 < b) (hb : b < 2147483648) : x / y = nI (a / b) := by rw [hx, hy, pk_div (by omega) h0 (by omega)]
theorem tn_rem {x y : Int32} {a b : Nat} (hx : x = nI a) (hy : y = nI b) (ha : a < 2147483648) (h0 : 0 < b) (hb : b < 2147483648) : x - x / y * y = nI (a % b) := by rw [hx, hy, pk_rem (by omega) h0 (by omega)]
theorem tn_ne {y : Int32} {b : Nat} (hy : y = nI b) (h0 : 0 < b) (hb : b < 2147483648) : ¬ y = 0 := by rw [hy]; exact nI_ne0 h0 (by omega)
theorem tn_le {x y : Int32} {a b : Nat} (hy : y = nI b) (hx : x = nI a) (h : b ≤ a) (ha : a < 2147483648) : y ≤ x := by rw [hx, hy]; exact nI_le h (by omega)
theorem tn_nle {x y : Int32} {a b : Nat} (hy : y = nI b) (hx : x = nI a) (h : a < b) (hb : b < 2147483648) : ¬ y ≤ x := by rw [hx, hy]; exact nI_ge h (by omega)
theorem tn_lt {x y : Int32} {a b : Nat} (hy : y = nI b) (hx : x = nI a) (h : b < a) (ha : a < 2147483648) : y < x := by rw [hx, hy]; exact nI_lt h (by omega)
theorem tn_nlt {x y : Int32} {a b : Nat} (hy : y = nI b) (hx : x = nI a) (h : a ≤ b) (hb : b < 2147483648) : ¬ y < x := by rw [hx, hy]; exact nI_nlt h (by omega)
theorem tn_nz {x : Int32} (h : x = 0 ∨ x = 1) : narrow .boolean (.int x) = .int x := by rcases h with rfl | rfl <;> rfl
theorem tn_fz {x : Int32} (h : x = 0 ∨ x = 1) : fits .boolean (.int x) = true := by rcases h with rfl | rfl <;> rfl
theorem tn_vz {x : Int32} (h : x = 0 ∨ x = 1) : vp_nar .boolean x = x := by rcases h with rfl | rfl <;> rfl
theorem tn_ti {x : Int32} {a : Int} {k : Int32} (hk : k.toInt = a) (h : ¬ x = k) : ¬ x.toInt = a := fun q => h (Int32.toInt_inj.mp (by rw [hk]; exact q))
theorem tn_out5 {x : Int32} (h0 : ¬ x = 0) (h1 : ¬ x = 1) (h2 : ¬ x = 2) (h3 : ¬ x = 3) (h4 : ¬ x = 4) : x.toInt < 0 ∨ 4 < x.toInt := by
  have a0 := tn_ti (a := 0) (by decide) h0
  have a1 := tn_ti (a := 1) (by decide) h1
  have a2 := tn_ti (a := 2) (by decide) h2
  have a3 := tn_ti (a := 3) (by decide) h3
  have a4 := tn_ti (a := 4) (by decide) h4
  omega
theorem tn_out7 {x : Int32} (h0 : ¬ x = 0) (h1 : ¬ x = 1) (h2 : ¬ x = 2) (h3 : ¬ x = 3) (h4 : ¬ x = 4) (h5 : ¬ x = 5) (h6 : ¬ x = 6) : x.toInt < 0 ∨ 6 < x.toInt := by
  have a0 := tn_ti (a := 0) (by decide) h0
  have a1 := tn_ti (a := 1) (by decide) h1
  have a2 := tn_ti (a := 2) (by decide) h2
  have a3 := tn_ti (a := 3) (by decide) h3
  have a4 := tn_ti (a := 4) (by decide) h4
  have a5 := tn_ti (a := 5) (by decide) h5
  have a6 := tn_ti (a := 6) (by decide) h6
  omega
theorem tv_lsub {c : tv_c} {N : Nat} {X : tv_X} {E : Nat → va_E} {pc : Nat} {lv lv' : List (Nat × Value)} {st : List Value} (ks : List Nat) (hl : lv_pick lv ks = lv') (k : tv_V c N X E pc lv' st) : tv_V c N X E pc lv st := fun H locs hP hS ls hl2 => k H locs hP hS ls (lv_sub hl2 ks hl)
/-- a small natural number -/
def tn_b (x : Int32) (n : Nat) : Prop := ∃ a : Nat, a ≤ n ∧ x = nI a
theorem tn_b.mono {x : Int32} {n k : Nat} (h : tn_b x n) (hk : n ≤ k) : tn_b x k := by obtain ⟨a, h1, h2⟩ := h; exact ⟨a, by omega, h2⟩
theorem tn_b.add {x y : Int32} {n k : Nat} (h : tn_b x n) (h2 : tn_b y k) : tn_b (x + y) (n + k) := by
  obtain ⟨a, a1, rfl⟩ := h
  obtain ⟨b, b1, rfl⟩ := h2
  exact ⟨a + b, by omega, by rw [nI_add]⟩
theorem tn_b.mul {x y : Int32} {n k : Nat} (h : tn_b x n) (h2 : tn_b y k) : tn_b (x * y) (n * k) := by
  obtain ⟨a, a1, rfl⟩ := h
  obtain ⟨b, b1, rfl⟩ := h2
  exact ⟨a * b, Nat.mul_le_mul a1 b1, by rw [pk_mul]⟩
theorem tn_b.div {x : Int32} {n : Nat} (h : tn_b x n) (d : Nat) (h0 : 0 < d) (hd : d < 2147483648) (hn : n < 2147483648) : tn_b (x / nI d) (n / d) := by
  obtain ⟨a, a1, rfl⟩ := h
  exact ⟨a / d, Nat.div_le_div_right a1, by rw [pk_div (by omega) h0 (by omega)]⟩
/-! what the methods answer: shared words -/
def sp_in (v a b : Int32) : Int32 := if v < a then 0 else if b < v then 0 else 1
def sp_ix (v n : Int32) : Int32 := if v < 0 then 0 else if n ≤ v then 0 else 1
def sp_ab (v : Int32) : Int32 := if 0 ≤ v then v else -v
def sp_ls (k b u a m : Int32) : Int32 := if k = 2 then (u * (b + 1) / 10 + a * m / 5) / 2 else u * (b + 1) / 10 + a * m / 5
def sp_cm (k i b u a m z : Int32) : Int32 := if k ≤ 0 then (if sp_ls k b u a m ≤ i then i - sp_ls k b u a m else 0) else if z = 0 then (if sp_ls k b u a m ≤ i then i - sp_ls k b u a m else 0) else (if sp_ls k b u a m ≤ i then i - sp_ls k b u a m else 0) + 5
theorem sp_in_z (v a b : Int32) : sp_in v a b = 0 ∨ sp_in v a b = 1 := by unfold sp_in; split; exact Or.inl rfl; split; exact Or.inl rfl; exact Or.inr rfl
theorem sp_ix_z (v n : Int32) : sp_ix v n = 0 ∨ sp_ix v n = 1 := by unfold sp_ix; split; exact Or.inl rfl; split; exact Or.inl rfl; exact Or.inr rfl
theorem tn_mulc {x y : Int32} {a b : Nat} (hx : x = nI a) (hy : y = nI b) : x * y = nI (b * a) := by rw [hx, hy, pk_mul, Nat.mul_comm]
/-- an int comparison as one of natural numbers -/
theorem tn_nf {a b : Prop} (h : a ↔ b) (n : ¬ a) : ¬ b := fun q => n (h.mpr q)
theorem tn_eqI {x y : Int32} {a b : Nat} (hx : x = nI a) (hy : y = nI b) (ha : a < 2147483648) (hb : b < 2147483648) : x = y ↔ a = b := by rw [hx, hy]; exact nI_eq (by omega) (by omega)
theorem tn_ltI {x y : Int32} {a b : Nat} (hx : x = nI a) (hy : y = nI b) (ha : a < 2147483648) (hb : b < 2147483648) : x < y ↔ a < b := by rw [hx, hy]; exact nI_ltI (by omega) (by omega)
theorem tn_gtI {x y : Int32} {a b : Nat} (hx : x = nI a) (hy : y = nI b) (ha : a < 2147483648) (hb : b < 2147483648) : y < x ↔ b < a := by rw [hx, hy]; exact nI_ltI (by omega) (by omega)
theorem tn_geI {x y : Int32} {a b : Nat} (hx : x = nI a) (hy : y = nI b) (ha : a < 2147483648) (hb : b < 2147483648) : y ≤ x ↔ b ≤ a := by rw [hx, hy]; exact nI_leI (by omega) (by omega)
theorem tn_leIx {x y : Int32} {a b : Nat} (hx : x = nI a) (hy : y = nI b) (ha : a < 2147483648) (hb : b < 2147483648) : x ≤ y ↔ a ≤ b := by rw [hx, hy]; exact nI_leI (by omega) (by omega)
/-- what a CELL looks like: coat k, its sun and air, in light l, from aside (z = 1) or not -/
def sp_lk (s : ts_T) (k : Nat) (u a : Int32) (l : Nat) (z : Int32) : Int32 := 0 + sp_cm (s 15 k) (s 16 (3 * k + 0)) 0 u a (s 5 0) z * s 17 (3 * l + 0) + sp_cm (s 15 k) (s 16 (3 * k + 1)) 1 u a (s 5 0) z * s 17 (3 * l + 1) + sp_cm (s 15 k) (s 16 (3 * k + 2)) 2 u a (s 5 0) z * s 17 (3 * l + 2)
/-- what always holds of the shared state -/
def iv_c (s : ts_T) (ny j : Nat) : Prop := tn_b (s 10 j) 9 ∧ (∃ k, k < 6 ∧ s 11 j = nI k) ∧ tn_b (s 12 j) (9 * ny) ∧ tn_b (s 13 j) ny ∧ (s 14 j = 0 ∨ s 14 j = 1)
def iv_s (s : ts_T) (k : Nat) : Prop := (s 18 k = 0 ∨ s 18 k = 1) ∧ tn_b (s 19 k) 2 ∧ tn_b (s 20 k) 40
def iv (s : ts_T) : Prop := ∃ h w n nk nl ny nm li : Nat, s 2 0 = nI h ∧ s 3 0 = nI w ∧ s 9 0 = nI n ∧ n = h * w ∧ h ≤ 4 ∧ w ≤ 6 ∧ n ≤ 24 ∧ (n = 0 → h = 0 ∧ w = 0 ∧ nk = 0 ∧ nl = 0) ∧ (0 < n → 1 ≤ h ∧ 2 ≤ w ∧ 1 ≤ nk) ∧ s 7 0 = nI nk ∧ nk ≤ 6 ∧ s 8 0 = nI nl ∧ nl ≤ 4 ∧ s 4 0 = nI ny ∧ ny ≤ 40 ∧ s 5 0 = nI nm ∧ nm ≤ 9 ∧ s 6 0 = nI li ∧ li ≤ 999 ∧ (∀ j, j < n → iv_c s ny j) ∧ (∀ k, k < 6 → tn_b (s 15 k) 2) ∧ (∀ q, q < 18 → tn_b (s 16 q) 99) ∧ (∀ q, q < 12 → tn_b (s 17 q) 9) ∧ (∀ k, k < 4 → iv_s s k)
theorem iv.hC {s : ts_T} (hI : iv s) : s 2 0 * s 3 0 = s 9 0 := by
  obtain ⟨h, w, n, nk, nl, ny, nm, li, e2, e3, e9, hnw, -⟩ := hI
  rw [e2, e3, e9, pk_mul, hnw]
def tk (x : Int32) : Nat := x.toNatClampNeg
theorem in_ix {p N : Int32} {n : Nat} (hN : N = nI n) (hb : n < 2147483648) (h : ¬ sp_ix p N = 0) : ∃ j, j < n ∧ p = nI j ∧ tk p = j := by
  subst hN
  unfold sp_ix at h
  split at h
  · exact absurd rfl h
  · rename_i h1
    split at h
    · exact absurd rfl h
    · rename_i h2
      obtain ⟨j, h3, rfl⟩ := nI_of h1
      refine ⟨j, ?_, rfl, nI_clamp h3⟩
      rw [nI_leI (by omega) h3] at h2
      omega
theorem in_in {p B : Int32} {b : Nat} (hB : B = nI b) (h : ¬ sp_in p 0 B = 0) (hb : b < 2147483648 := by decide) : ∃ j, j ≤ b ∧ p = nI j ∧ tk p = j := by
  subst hB
  unfold sp_in at h
  split at h
  · exact absurd rfl h
  · rename_i h1
    split at h
    · exact absurd rfl h
    · rename_i h2
      obtain ⟨j, h3, rfl⟩ := nI_of h1
      refine ⟨j, ?_, rfl, nI_clamp h3⟩
      rw [nI_ltI (by omega) h3] at h2
      omega
theorem in_01 {p : Int32} (h : ¬ sp_in p 0 1 = 0) (h2 : ¬ p = 0) : p = 1 := by
  obtain ⟨j, h3, rfl, -⟩ := in_in (b := 1) (by decide) h
  have : j = 0 ∨ j = 1 := by omega
  rcases this with rfl | rfl
  · exact absurd rfl h2
  · rfl
theorem tn_d_le {a b : Int32} (h : a ≤ b) : ¬ b < a := by rw [Int32.lt_iff_toInt_lt]; rw [Int32.le_iff_toInt_le] at h; omega
theorem tn_d_lt {a b : Int32} (h : a < b) : ¬ b ≤ a := by rw [Int32.le_iff_toInt_le]; rw [Int32.lt_iff_toInt_lt] at h; omega
theorem tn_d_nle {a b : Int32} (h : ¬ a ≤ b) : b < a := by rw [Int32.lt_iff_toInt_lt]; rw [Int32.le_iff_toInt_le] at h; omega
theorem tn_d_nlt {a b : Int32} (h : ¬ a < b) : b ≤ a := by rw [Int32.le_iff_toInt_le]; rw [Int32.lt_iff_toInt_lt] at h; omega
theorem tn_l (n : Nat) : (OfNat.ofNat n : Int32) = nI n := rfl
theorem tv_eqE {c : tv_c} {N : Nat} {X : tv_X} {E E' : Nat → va_E} {pc : Nat} {lv : List (Nat × Value)} {st : List Value} (h : E = E') (k : tv_V c N X E' pc lv st) : tv_V c N X E pc lv st := h ▸ k
theorem tn_10 : ¬ (1 : Int32) = 0 := by decide
