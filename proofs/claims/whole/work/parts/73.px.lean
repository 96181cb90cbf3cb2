/-! the class's patch -/
theorem any_f {p : Nat → Bool} : ∀ {n : Nat}, sp_any p n = false ↔ ∀ q, q < n → p q = false
  | 0 => ⟨fun _ q h => absurd h (by omega), fun _ => rfl⟩
  | n + 1 => by
    unfold sp_any
    rw [Bool.or_eq_false_iff, any_f (n := n)]
    constructor
    · intro ⟨h1, h2⟩ q hq
      by_cases e : q = n
      · subst e
        exact h2
      · exact h1 q (by omega)
    · intro h
      exact ⟨fun q hq => h q (by omega), h n (by omega)⟩
theorem an_sn {s' s r : ts_T} {h w n : Nat} (hv : vw s' s r) (hs : sm_3 s' s) (e2 : s 2 0 = nI h) (e3 : s 3 0 = nI w) (e9 : s 9 0 = nI n) (hn : n = h * w) (hn4 : n ≤ 24) (hh : h ≤ 4) (hw : 2 ≤ w) (hw6 : w ≤ 6) : sp_an s r = 0 ↔ sp_sn s' (-9) n = 0 := by
  obtain ⟨a, ha, ea, hz⟩ := sn_nat s' (-9) n (by omega)
  have h1 : sp_sn s' (-9) n = 0 ↔ a = 0 := by
    rw [ea, show (0 : Int32) = nI 0 from rfl]
    exact nI_eq (by omega) (by omega)
  have h2 : sp_an s r = 0 ↔ sp_any (sp_as1 s r) n = false := by
    unfold sp_an
    rw [tk_e e9 (by omega)]
    cases sp_any (sp_as1 s r) n with
    | true => exact ⟨fun z => absurd z (by decide), fun z => absurd z (by decide)⟩
    | false => exact ⟨fun _ => rfl, fun _ => rfl⟩
  rw [h1, h2, hz, any_f]
  have key : ∀ q, q < n → (sp_as1 s r q = false ↔ sp_t1 s' (-9) q = 0 ∧ sp_t2 s' (-9) q = 0) := by
    intro q hq
    rw [← rg_t1 hv hs e3 e9 hn hn4 hw hw6 hq, ← bl_t2 hv hs e2 e3 e9 hn hn4 hh hw hw6 hq]
    unfold sp_as1
    rw [Bool.or_eq_false_iff, decide_eq_false_iff_not, decide_eq_false_iff_not, Classical.not_not, Classical.not_not]
  exact ⟨fun z q hq => (key q hq).mp (z q hq), fun z q hq => (key q hq).mpr (z q hq)⟩
def shw (P : Nat → Bool) (f : Nat → Int32) : Nat → Int32 := fun x => if P x = true then 24 else f x
theorem shw_0 {P : Nat → Bool} {f : Nat → Int32} (h : ∀ j, P j = false) : shw P f = f := by
  funext x
  unfold shw
  rw [h x]
  rfl
theorem shw_m {P Q : Nat → Bool} {f : Nat → Int32} {q : Nat} (h : ∀ j, Q j = (P j || decide (j = q))) : upd (shw P f) q 24 = shw Q f := by
  funext x
  unfold upd shw
  rw [h x]
  by_cases e : x = q
  · rw [if_pos e, if_pos (by rw [decide_eq_true e, Bool.or_true])]
  · rw [if_neg e, show decide (x = q) = false from decide_eq_false e, Bool.or_false]
theorem pm_x {w a b : Nat} {p q x y : Int32} (hp : p = nI (a / w)) (hq : q = nI (a % w)) (hx : x = nI (b / w)) (hy : y = nI (b % w)) (hb : b < 24) (h1 : a / w ≤ b / w) (h2 : a % w ≤ b % w) : (x - p + 1) * (y - q + 1) = nI (pm w (24 * a + b)) := by
  rw [hp, hq, hx, hy, pk_sub h1, pk_sub h2, nI_1, nI_1, pk_mul, pm_ab hb]
theorem fl_a {w a : Nat} {p q x : Int32} (hp : p = nI (a / w)) (hq : q = nI (a % w)) (hx : x = nI w) : p * x + q = nI a := by
  rw [hp, hq, hx, pk_mul, nI_add, Nat.mul_comm, Nat.div_add_mod]
theorem dv_a {w i l : Nat} (hl : l < w) : (i * w + l) / w = i := by
  rw [Nat.mul_comm, Nat.mul_add_div (by omega), Nat.div_eq_of_lt hl, Nat.add_zero]
theorem md_a {w i l : Nat} (hl : l < w) : (i * w + l) % w = l := by
  rw [Nat.mul_comm, Nat.mul_add_mod, Nat.mod_eq_of_lt hl]
