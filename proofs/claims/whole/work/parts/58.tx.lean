/-! the TEXT of a wall: codes f, n of them -/
def fw_fit (f : Nat → Int32) (w q : Nat) : Bool := if q % (w + 1) = 0 then decide (f (3 + q) = 59) else decide (¬ sp_in (f (3 + q)) 48 57 = 0)
def fw_ok (f : Nat → Int32) (n w q : Nat) : Bool := decide (3 + q < n) && fw_fit f w q
def fw_g (p : Nat → Bool) : Nat → Nat
  | 0 => 0
  | m + 1 => if fw_g p m < m then fw_g p m else if p m = true then m + 1 else m
theorem fw_g_all {p : Nat → Bool} : ∀ {m : Nat}, (∀ q, q < m → p q = true) → fw_g p m = m
  | 0, _ => rfl
  | m + 1, h => by
    unfold fw_g
    rw [fw_g_all (fun q hq => h q (by omega)), if_neg (by omega), if_pos (h m (by omega))]
theorem fw_g_at {p : Nat → Bool} {q : Nat} (h1 : ∀ i, i < q → p i = true) (h2 : p q = false) : ∀ {m : Nat}, q < m → fw_g p m = q
  | 0, h => absurd h (by omega)
  | m + 1, h => by
    unfold fw_g
    by_cases e : q = m
    · subst e
      rw [fw_g_all h1, if_neg (by omega), h2]
      rfl
    · rw [fw_g_at h1 h2 (show q < m by omega), if_pos (by omega)]
/-- the rows behind the head: the first wrong place, or none -/
def fw_r (f : Nat → Int32) (n h w : Nat) : Option Nat := if fw_g (fw_ok f n w) (h * (w + 1)) < h * (w + 1) then some (3 + fw_g (fw_ok f n w) (h * (w + 1))) else if 3 + h * (w + 1) < n then some (3 + h * (w + 1)) else none
def fw (f : Nat → Int32) (n : Nat) : Option Nat := if n < 1 then some 0 else if f 0 = 119 then (if n < 2 then some 1 else if sp_in (f 1) 49 52 = 0 then some 1 else if n < 3 then some 2 else if sp_in (f 2) 50 54 = 0 then some 2 else fw_r f n (tk (f 1 - 48)) (tk (f 2 - 48))) else some 0
def fw_i (o : Option Nat) : Int32 := match o with
  | none => -1
  | some p => nI p
def fw_sun (f : Nat → Int32) (w c : Nat) : Int32 := f (3 + (c / w * (w + 1) + 1 + c % w)) - 48
theorem fw_r_at {f : Nat → Int32} {n h w q : Nat} (h1 : ∀ i, i < q → fw_ok f n w i = true) (h2 : fw_ok f n w q = false) (hq : q < h * (w + 1)) : fw_r f n h w = some (3 + q) := by
  unfold fw_r
  rw [fw_g_at h1 h2 hq, if_pos hq]
theorem fw_r_end {f : Nat → Int32} {n h w : Nat} (h1 : ∀ i, i < h * (w + 1) → fw_ok f n w i = true) : fw_r f n h w = if 3 + h * (w + 1) < n then some (3 + h * (w + 1)) else none := by
  unfold fw_r
  rw [fw_g_all h1, if_neg (by omega)]
theorem dig {x : Int32} {a b : Nat} (h : ¬ sp_in x (nI a) (nI b) = 0) (ha : 48 ≤ a) (ha2 : a < 100) (hb : b < 100) : ∃ d, a ≤ d + 48 ∧ d + 48 ≤ b ∧ x - 48 = nI d ∧ tk (x - 48) = d ∧ x = nI (d + 48) := by
  unfold sp_in at h
  split at h
  · exact absurd rfl h
  · rename_i h1
    split at h
    · exact absurd rfl h
    · rename_i h2
      have h3 : ¬ x < 0 := by
        intro q
        apply h1
        rw [Int32.lt_iff_toInt_lt] at q ⊢
        rw [nI_toInt (by omega)]
        have : (0 : Int32).toInt = 0 := by decide
        omega
      obtain ⟨c, hc, rfl⟩ := nI_of h3
      rw [nI_ltI (by omega) hc] at h2
      have h4 : a ≤ c := by
        refine Classical.byContradiction fun q => h1 ?_
        exact nI_lt (by omega) (by omega)
      refine ⟨c - 48, by omega, by omega, ?_, ?_, ?_⟩
      · rw [show (48 : Int32) = nI 48 from rfl, pk_sub (by omega)]
      · rw [show (48 : Int32) = nI 48 from rfl, pk_sub (by omega), tk_n (by omega)]
      · rw [show c - 48 + 48 = c by omega]
/-- the class's test of a code, by its column -/
def sp_ft (x y : Int32) : Int32 := if 0 ≤ y then sp_in x 48 57 else if x = 59 then 1 else 0
theorem ft_z (x y : Int32) : sp_ft x y = 0 ∨ sp_ft x y = 1 := by
  unfold sp_ft
  split
  · exact sp_in_z _ _ _
  · split
    · exact Or.inr rfl
    · exact Or.inl rfl
theorem m1_0 : ¬ (0 : Int32) ≤ nI 0 - 1 := by decide
theorem m1_p {m : Nat} (h : 1 ≤ m) : nI m - 1 = nI (m - 1) := by rw [show (1 : Int32) = nI 1 from rfl, pk_sub h]
theorem ft_fit {f : Nat → Int32} {w i m : Nat} (hm : m ≤ w) (hw : w ≤ 6) : (sp_ft (f (3 + (i * (w + 1) + m))) (nI m - 1) = 0) ↔ fw_fit f w (i * (w + 1) + m) = false := by
  have e : (i * (w + 1) + m) % (w + 1) = m := by
    rw [Nat.mul_comm, Nat.mul_add_mod]
    exact Nat.mod_eq_of_lt (by omega)
  unfold sp_ft fw_fit
  rw [e]
  rcases Nat.eq_zero_or_pos m with h0 | h0
  · subst h0
    rw [if_neg m1_0, if_pos rfl]
    by_cases q : f (3 + (i * (w + 1) + 0)) = 59
    · rw [if_pos q, decide_eq_true q]
      exact ⟨fun z => absurd z (by decide), fun z => absurd z (by decide)⟩
    · rw [if_neg q, decide_eq_false q]
      exact ⟨fun _ => rfl, fun _ => rfl⟩
  · rw [m1_p h0, if_pos (nI_pos' (by omega)), if_neg (by omega)]
    by_cases q : sp_in (f (3 + (i * (w + 1) + m))) 48 57 = 0
    · rw [decide_eq_false (by simpa using q)]
      exact ⟨fun _ => rfl, fun _ => q⟩
    · rw [decide_eq_true q]
      exact ⟨fun z => absurd z q, fun z => absurd z (by decide)⟩
theorem cl_e {y : Int32} {m w : Nat} (hy : y = nI w) (h : m = w + 1) (hw : w ≤ 6) : y ≤ nI m - 1 := by
  rw [hy, h, nI_pred]
  exact nI_le (Nat.le_refl _) (by omega)
theorem cl_s {y : Int32} {m w : Nat} (hy : y = nI w) (h : m < w + 1) (hw : w ≤ 6) : ¬ y ≤ nI m - 1 := by
  rw [hy]
  rcases Nat.eq_zero_or_pos m with h0 | h0
  · subst h0
    rw [Int32.le_iff_toInt_le, nI_toInt (by omega)]
    have : (nI 0 - 1 : Int32).toInt = -1 := by decide
    omega
  · rw [m1_p h0]
    exact nI_ge (by omega) (by omega)
theorem cl_n (m : Nat) : nI m - 1 + 1 = nI (m + 1) - 1 := by rw [nI_pred, Int32.sub_add_cancel]
theorem ok_f1 {f : Nat → Int32} {n w q : Nat} (h : n ≤ 3 + q) : fw_ok f n w q = false := by
  unfold fw_ok
  rw [decide_eq_false (by omega)]
  rfl
theorem ok_f2 {f : Nat → Int32} {n w q : Nat} (h : fw_fit f w q = false) : fw_ok f n w q = false := by
  unfold fw_ok
  rw [h, Bool.and_false]
theorem ok_t {f : Nat → Int32} {n w q : Nat} (h : 3 + q < n) (h2 : ¬ fw_fit f w q = false) : fw_ok f n w q = true := by
  unfold fw_ok
  rw [decide_eq_true h, Bool.true_and]
  cases z : fw_fit f w q with
  | true => rfl
  | false => exact absurd z h2
theorem ok_s {p : Nat → Bool} {q : Nat} (h : ∀ i, i < q → p i = true) (h2 : p q = true) : ∀ i, i < q + 1 → p i = true := by
  intro i hi
  by_cases e : i = q
  · subst e
    exact h2
  · exact h i (by omega)
