/-! the class's looks and the reference's: what is seen is the same -/
def vw (s' s r : ts_T) : Prop := ∀ a, a < tk (s 9 0) → ∀ v, v < 2 * tk (s 8 0) → r 0 (8 * tk (r 1 a) + v) = sp_ln s' a (v / 2) (lk_z v)
def sm_3 (s' s : ts_T) : Prop := ∀ k, k < 11 ∨ 13 < k → s' k = s k
theorem any_2 (p : Nat → Bool) : ∀ n : Nat, sp_any p (2 * n) = sp_any (fun l => p (2 * l) || p (2 * l + 1)) n
  | 0 => rfl
  | n + 1 => by
    show sp_any p (2 * n + 1 + 1) = (sp_any (fun l => p (2 * l) || p (2 * l + 1)) n || (p (2 * n) || p (2 * n + 1)))
    rw [← any_2 p n, ← Bool.or_assoc]
    rfl
theorem any_c {p q : Nat → Bool} : ∀ {n : Nat}, (∀ i, i < n → p i = q i) → sp_any p n = sp_any q n
  | 0, _ => rfl
  | n + 1, h => by
    unfold sp_any
    rw [any_c (fun i hi => h i (by omega)), h n (by omega)]
theorem bt_ed {s' s r : ts_T} {a b : Nat} (hv : vw s' s r) (hs : sm_3 s' s) (ha : a < tk (s 9 0)) (hb : b < tk (s 9 0)) : sp_bt s r a b = sp_ed s' a b := by
  unfold sp_bt sp_ed
  rw [any_2, hs 8 (by omega)]
  rw [any_c (q := sp_ht s' a b)]
  intro l hl
  unfold sp_bp sp_ht
  rw [hv a ha (2 * l) (by omega), hv b hb (2 * l) (by omega), hv a ha (2 * l + 1) (by omega), hv b hb (2 * l + 1) (by omega), hs 6 (by omega), show 2 * l / 2 = l by omega, show (2 * l + 1) / 2 = l by omega, ← lk_z0 (show ¬ 2 * l % 2 = 1 by omega), ← lk_z1 (show (2 * l + 1) % 2 = 1 by omega)]
theorem rg_t1 {s' s r : ts_T} {h w n i : Nat} (hv : vw s' s r) (hs : sm_3 s' s) (e3 : s 3 0 = nI w) (e9 : s 9 0 = nI n) (hn : n = h * w) (hn4 : n ≤ 24) (hw : 2 ≤ w) (hw6 : w ≤ 6) (hi : i < n) : sp_rg s r i = sp_t1 s' (-9) i := by
  have ek3 := tk_e e3 (by omega)
  have ek9 := tk_e e9 (by omega)
  unfold sp_rg sp_t1 sp_rt
  rw [hs 3 (by omega), ek3]
  by_cases h1 : w ≤ i % w + 1
  · rw [if_pos h1, if_pos (show w - 1 ≤ i % w by omega)]
    rfl
  · rw [if_neg h1, if_neg (show ¬ w - 1 ≤ i % w by omega)]
    have hr := rt_lt hn hi h1
    rw [bt_ed hv hs (by rw [ek9]; exact hi) (by rw [ek9]; exact hr)]
    rfl
theorem dn_iff {i h w n : Nat} (hn : n = h * w) (hw : 2 ≤ w) (hi : i < n) : h - 1 ≤ i / w ↔ n ≤ i + w := by
  subst hn
  have hd := Nat.div_add_mod i w
  have hm := Nat.mod_lt i (show 0 < w by omega)
  constructor
  · intro q
    have h1 : w * h ≤ w * (i / w + 1) := Nat.mul_le_mul_left w (by omega)
    rw [Nat.mul_add, Nat.mul_one] at h1
    rw [Nat.mul_comm h w]
    generalize w * (i / w) = x at hd h1
    omega
  · intro q
    refine Classical.byContradiction fun z => ?_
    have h1 : w * (i / w + 2) ≤ w * h := Nat.mul_le_mul_left w (by generalize i / w = d at z; omega)
    rw [Nat.mul_add] at h1
    rw [Nat.mul_comm h w] at q
    generalize w * (i / w) = x at hd h1
    omega
theorem bl_t2 {s' s r : ts_T} {h w n i : Nat} (hv : vw s' s r) (hs : sm_3 s' s) (e2 : s 2 0 = nI h) (e3 : s 3 0 = nI w) (e9 : s 9 0 = nI n) (hn : n = h * w) (hn4 : n ≤ 24) (hh : h ≤ 4) (hw : 2 ≤ w) (hw6 : w ≤ 6) (hi : i < n) : sp_bl s r i = sp_t2 s' (-9) i := by
  have ek2 := tk_e e2 (by omega)
  have ek3 := tk_e e3 (by omega)
  have ek9 := tk_e e9 (by omega)
  unfold sp_bl sp_t2 sp_dn
  rw [hs 3 (by omega), hs 2 (by omega), ek3, ek2, ek9]
  by_cases h1 : n ≤ i + w
  · rw [if_pos h1, if_pos ((dn_iff hn hw hi).mpr h1)]
    rfl
  · rw [if_neg h1, if_neg (fun q => h1 ((dn_iff hn hw hi).mp q))]
    rw [bt_ed hv hs (by rw [ek9]; exact hi) (by rw [ek9]; omega)]
    rfl
theorem cs_sn {s' s r : ts_T} {h w n : Nat} (hv : vw s' s r) (hs : sm_3 s' s) (e2 : s 2 0 = nI h) (e3 : s 3 0 = nI w) (e9 : s 9 0 = nI n) (hn : n = h * w) (hn4 : n ≤ 24) (hh : h ≤ 4) (hp : 0 < n → 2 ≤ w) (hw6 : w ≤ 6) : ∀ {i : Nat}, i ≤ n → sp_cs s r i = sp_sn s' (-9) i
  | 0, _ => rfl
  | i + 1, hi => by
    unfold sp_cs sp_sn
    rw [cs_sn hv hs e2 e3 e9 hn hn4 hh hp hw6 (show i ≤ n by omega), rg_t1 hv hs e3 e9 hn hn4 (hp (by omega)) hw6 (show i < n by omega), bl_t2 hv hs e2 e3 e9 hn hn4 hh (hp (by omega)) hw6 (show i < n by omega)]
theorem t1_z (s : ts_T) (p : Int32) (i : Nat) : sp_t1 s p i = 0 ∨ sp_t1 s p i = 1 := by
  unfold sp_t1
  (repeat' split) <;> first | exact Or.inl rfl | exact Or.inr rfl
theorem t2_z (s : ts_T) (p : Int32) (i : Nat) : sp_t2 s p i = 0 ∨ sp_t2 s p i = 1 := by
  unfold sp_t2
  (repeat' split) <;> first | exact Or.inl rfl | exact Or.inr rfl
theorem sn_nat (s : ts_T) (p : Int32) : ∀ i : Nat, i ≤ 100 → ∃ a : Nat, a ≤ 2 * i ∧ sp_sn s p i = nI a ∧ (a = 0 ↔ ∀ q, q < i → sp_t1 s p q = 0 ∧ sp_t2 s p q = 0)
  | 0, _ => ⟨0, by omega, rfl, ⟨fun _ q h => absurd h (by omega), fun _ => rfl⟩⟩
  | i + 1, hi => by
    obtain ⟨a, h1, h2, h3⟩ := sn_nat s p i (by omega)
    have key : ∀ x y : Nat, sp_t1 s p i = nI x → sp_t2 s p i = nI y → x ≤ 1 → y ≤ 1 → ∃ b : Nat, b ≤ 2 * (i + 1) ∧ sp_sn s p (i + 1) = nI b ∧ (b = 0 ↔ ∀ q, q < i + 1 → sp_t1 s p q = 0 ∧ sp_t2 s p q = 0) := by
      intro x y ex ey hx hy
      refine ⟨a + x + y, by omega, ?_, ?_⟩
      · show sp_sn s p i + sp_t1 s p i + sp_t2 s p i = _
        rw [h2, ex, ey, nI_add, nI_add]
      · constructor
        · intro z q hq
          by_cases e : q = i
          · subst e
            rw [ex, ey, show x = 0 by omega, show y = 0 by omega]
            exact ⟨rfl, rfl⟩
          · exact (h3.mp (by omega)) q (by omega)
        · intro z
          have z1 := h3.mpr (fun q hq => z q (by omega))
          obtain ⟨z2, z3⟩ := z i (by omega)
          rw [ex] at z2
          rw [ey] at z3
          have z4 := (nI_eq (b := 0) (by omega) (by omega)).mp z2
          have z5 := (nI_eq (b := 0) (by omega) (by omega)).mp z3
          omega
    rcases t1_z s p i with e1 | e1 <;> rcases t2_z s p i with e2 | e2
    · exact key 0 0 e1 e2 (by omega) (by omega)
    · exact key 0 1 e1 e2 (by omega) (by omega)
    · exact key 1 0 e1 e2 (by omega) (by omega)
    · exact key 1 1 e1 e2 (by omega) (by omega)
/-- sums of ints -/
def su (f : Nat → Int32) : Nat → Int32
  | 0 => 0
  | i + 1 => su f i + f i
theorem su_c {f g : Nat → Int32} : ∀ {n : Nat}, (∀ i, i < n → f i = g i) → su f n = su g n
  | 0, _ => rfl
  | n + 1, h => by
    unfold su
    rw [su_c (fun i hi => h i (by omega)), h n (by omega)]
theorem su_a (f g : Nat → Int32) : ∀ n : Nat, su (fun i => f i + g i) n = su f n + su g n
  | 0 => rfl
  | n + 1 => by
    unfold su
    rw [su_a f g n, Int32.add_assoc, Int32.add_assoc, ← Int32.add_assoc (su g n), Int32.add_comm (su g n) (f n), Int32.add_assoc]
theorem su_p (x : Int32) (a : Nat) : ∀ n : Nat, su (fun i => if i = a then x else 0) n = if a < n then x else 0
  | 0 => by rw [if_neg (by omega)]; rfl
  | n + 1 => by
    unfold su
    rw [su_p x a n]
    by_cases h : n = a
    · subst h
      rw [if_neg (by omega), if_pos rfl, if_pos (by omega), Int32.zero_add]
    · rw [if_neg h, Int32.add_zero]
      by_cases h2 : a < n
      · rw [if_pos h2, if_pos (by omega)]
      · rw [if_neg h2, if_neg (by omega)]
theorem sn_su (s : ts_T) (p : Int32) : ∀ n : Nat, sp_sn s p n = su (fun i => sp_t1 s p i + sp_t2 s p i) n
  | 0 => rfl
  | n + 1 => by
    unfold sp_sn su
    rw [sn_su s p n, Int32.add_assoc]
