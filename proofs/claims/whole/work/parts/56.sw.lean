/-! the reference's painting of a rectangle -/
def prt (w a b i m : Nat) : Nat → Bool := fun j => decide ((a / w ≤ j / w ∧ j / w < i ∧ a % w ≤ j % w ∧ j % w ≤ b % w) ∨ (j / w = i ∧ a % w ≤ j % w ∧ j % w < m))
theorem pnt_0 {s : ts_T} {k : Nat} {P : Nat → Bool} (h : ∀ j, P j = false) : pnt s k P = s := by
  have e : ∀ (f g : Nat → Int32), (fun j => if P j = true then f j else g j) = g := by
    intro f g
    funext j
    rw [h j]
    rfl
  unfold pnt
  rw [e (fun _ => nI k) (s 11), e (fun _ => 0) (s 12), e (fun _ => 0) (s 13), ts_id, ts_id, ts_id]
theorem prt_0 {w a b j : Nat} : prt w a b (a / w) (a % w) j = false := by
  unfold prt
  apply decide_eq_false
  generalize a / w = x
  generalize j / w = y
  omega
theorem prt_i {w a b i : Nat} : prt w a b i (b % w + 1) = prt w a b (i + 1) (a % w) ∨ ¬ a / w ≤ i := by
  by_cases hi : a / w ≤ i
  · left
    funext j
    unfold prt
    congr 1
    apply propext
    generalize a / w = x at *
    generalize j / w = y
    generalize j % w = z
    constructor
    · rintro (h | h)
      · left
        omega
      · left
        omega
    · rintro (h | h)
      · by_cases e : y = i
        · right
          omega
        · left
          omega
      · omega
  · right
    exact hi
theorem prt_m {w a b i m j : Nat} (h1 : a % w ≤ m) (h2 : m < w) : prt w a b i (m + 1) j = (prt w a b i m j || decide (j = w * i + m)) := by
  have hj : j = w * i + m ↔ j / w = i ∧ j % w = m := by
    constructor
    · intro e
      subst e
      rw [Nat.mul_add_mod, Nat.mod_eq_of_lt h2, Nat.mul_add_div (by omega), Nat.div_eq_of_lt h2]
      exact ⟨by omega, rfl⟩
    · intro ⟨e1, e2⟩
      have := Nat.div_add_mod j w
      rw [e1, e2] at this
      exact this.symm
  unfold prt
  rw [← Bool.decide_or]
  congr 1
  apply propext
  rw [hj]
  generalize a / w = x
  generalize j / w = y
  generalize j % w = z
  omega
theorem prt_e {w a b : Nat} (hab : a / w ≤ b / w) : prt w a b (b / w + 1) (a % w) = rct w a b := by
  funext j
  unfold prt rct
  congr 1
  apply propext
  generalize a / w = x at *
  generalize b / w = y at *
  generalize j / w = z
  generalize j % w = u
  omega
theorem iv_pnt {s : ts_T} {k : Nat} {P : Nat → Bool} (hk : k < 6) (hI : iv s) : iv (pnt s k P) := by
  obtain ⟨h, w, n, nk, nl, ny, nm, li, e2, e3, e9, hnw, hh, hw, hn, hz, hp, e7, hk7, e8, hl, e4, hy, e5, hm, e6, hli, hcel, hkin, hban, hwei, hshe⟩ := hI
  refine ⟨h, w, n, nk, nl, ny, nm, li, e2, e3, e9, hnw, hh, hw, hn, hz, hp, e7, hk7, e8, hl, e4, hy, e5, hm, e6, hli, fun j hj => ?_, hkin, hban, hwei, hshe⟩
  obtain ⟨f1, f2, f3, f4, f5⟩ := hcel j hj
  refine ⟨f1, ?_, ?_, ?_, f5⟩
  · show ∃ k', k' < 6 ∧ (if P j = true then nI k else s 11 j) = nI k'
    by_cases h : P j = true
    · exact ⟨k, hk, if_pos h⟩
    · rw [if_neg h]
      exact f2
  · show tn_b (if P j = true then 0 else s 12 j) (9 * ny)
    by_cases h : P j = true
    · rw [if_pos h]
      exact ⟨0, by omega, rfl⟩
    · rw [if_neg h]
      exact f3
  · show tn_b (if P j = true then 0 else s 13 j) ny
    by_cases h : P j = true
    · rw [if_pos h]
      exact ⟨0, by omega, rfl⟩
    · rw [if_neg h]
      exact f4
theorem pnt_up {s : ts_T} {k q : Nat} {P Q : Nat → Bool} (h : ∀ j, Q j = (P j || decide (j = q))) : ts_a (ts_a (ts_a (pnt s k P) 11 (upd (pnt s k P 11) q (nI k))) 12 (upd (pnt s k P 12) q 0)) 13 (upd (pnt s k P 13) q 0) = pnt s k Q := by
  have e : ∀ (v : Int32) (f : Nat → Int32), upd (fun j => if P j = true then v else f j) q v = fun j => if Q j = true then v else f j := by
    intro v f
    funext j
    unfold upd
    rw [h j]
    by_cases hj : j = q
    · rw [if_pos hj, if_pos (by rw [decide_eq_true hj, Bool.or_true])]
    · rw [if_neg hj, show decide (j = q) = false from decide_eq_false hj, Bool.or_false]
  have e1 := e (nI k) (s 11)
  have e2 := e 0 (s 12)
  have e3 := e 0 (s 13)
  show ts_a (ts_a (ts_a (pnt s k P) 11 (upd (fun j => if P j = true then nI k else s 11 j) q (nI k))) 12 (upd (fun j => if P j = true then 0 else s 12 j) q 0)) 13 (upd (fun j => if P j = true then 0 else s 13 j) q 0) = pnt s k Q
  rw [e1, e2, e3]
  unfold pnt
  generalize (fun j => if P j = true then nI k else s 11 j) = A
  generalize (fun j => if P j = true then 0 else s 12 j) = B
  generalize (fun j => if P j = true then 0 else s 13 j) = C
  funext a
  simp only [ts_a]
  (repeat' split) <;> first | rfl | (exfalso; omega)
theorem ix_1 {a n : Nat} (h : a < n) (hn : n < 2147483648) : sp_ix (nI a) (nI n) = 1 := by
  unfold sp_ix
  rw [if_neg (nI_pos (by omega)), if_neg (nI_ge h (by omega))]
theorem paint_pnt {s : ts_T} {k q n nk : Nat} {x y : Int32} {P Q : Nat → Bool} (e9 : s 9 0 = nI n) (hn : n ≤ 24) (e7 : s 7 0 = nI nk) (hk7 : nk ≤ 6) (hx : x = nI q) (hq : q < n) (hy : y = nI k) (hk : k < nk) (h : ∀ j, Q j = (P j || decide (j = q))) : (sp_paint (pnt s k P) x y).2 = pnt s k Q := by
  unfold sp_paint
  have i1 : sp_ix x (pnt s k P 9 0) = 1 := by
    show sp_ix x (s 9 0) = 1
    rw [hx, e9]
    exact ix_1 hq (by omega)
  have i2 : sp_ix y (pnt s k P 7 0) = 1 := by
    show sp_ix y (s 7 0) = 1
    rw [hy, e7]
    exact ix_1 hk (by omega)
  rw [i1, i2, if_neg tn_10, if_neg tn_10, ← pnt_up h, hx, hy, tk_n (by omega)]
theorem pnt_back {s r : ts_T} {k n : Nat} {P : Nat → Bool} (hP : ∀ j, n ≤ j → P j = false) : ts_a (ts_a (ts_a (pnt s k P) 11 (ts_f (ts_f (s 11) (r 9) n) (pnt s k P 11) n)) 12 (ts_f (ts_f (s 12) (r 10) n) (pnt s k P 12) n)) 13 (ts_f (ts_f (s 13) (r 11) n) (pnt s k P 13) n) = s := by
  have e : ∀ (v : Int32) (f g : Nat → Int32), ts_f (ts_f f g n) (fun j => if P j = true then v else f j) n = f := by
    intro v f g
    funext j
    unfold ts_f
    by_cases h : j < n
    · rw [if_pos h, if_pos h]
    · rw [if_neg h]
      show (if P j = true then v else f j) = f j
      rw [hP j (by omega)]
      rfl
  show ts_a (ts_a (ts_a (pnt s k P) 11 (ts_f (ts_f (s 11) (r 9) n) (fun j => if P j = true then nI k else s 11 j) n)) 12 (ts_f (ts_f (s 12) (r 10) n) (fun j => if P j = true then 0 else s 12 j) n)) 13 (ts_f (ts_f (s 13) (r 11) n) (fun j => if P j = true then 0 else s 13 j) n) = s
  rw [e, e, e]
  unfold pnt
  generalize (fun j => if P j = true then nI k else s 11 j) = A
  generalize (fun j => if P j = true then 0 else s 12 j) = B
  generalize (fun j => if P j = true then 0 else s 13 j) = C
  funext a
  simp only [ts_a]
  (repeat' split) <;> first | rfl | (subst_vars; rfl) | (exfalso; omega)
theorem rct_n {w a b n h j : Nat} (hn : n = h * w) (hb : b < n) (hj : n ≤ j) (hw : 0 < w) : rct w a b j = false := by
  unfold rct
  apply decide_eq_false
  intro ⟨_, h2, _, _⟩
  subst hn
  have h3 : b / w < h := Nat.div_lt_of_lt_mul (by rw [Nat.mul_comm]; exact hb)
  have h4 : h ≤ j / w := (Nat.le_div_iff_mul_le hw).mpr hj
  generalize b / w = x at *
  generalize j / w = y at *
  omega
theorem pos_lt {w h n i m : Nat} (hn : n = h * w) (hi : i < h) (hm : m < w) : w * i + m < n := by
  subst hn
  have : w * (i + 1) ≤ w * h := Nat.mul_le_mul_left w hi
  rw [Nat.mul_add, Nat.mul_one] at this
  rw [Nat.mul_comm h w]
  omega
