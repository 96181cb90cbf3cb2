/-! a new wall -/
def wl_0 (s : ts_T) (f : Nat → Int32) (h w : Nat) : ts_T := ts_s (ts_s (ts_s (ts_s (ts_s (ts_a (ts_a (ts_a (ts_a (ts_a (ts_s (ts_s (ts_s s 2 (nI h)) 3 (nI w)) 9 (nI (h * w))) 10 (ts_f (fw_sun f w) (s 10) (h * w))) 14 (ts_f (fun _ => 0) (s 14) (h * w))) 11 (ts_f (fun _ => 0) (s 11) (h * w))) 12 (ts_f (fun _ => 0) (s 12) (h * w))) 13 (ts_f (fun _ => 0) (s 13) (h * w))) 4 0) 5 0) 6 10) 8 0) 7 0
def wl_s (s : ts_T) (f : Nat → Int32) (h w : Nat) : ts_T := sp_add (wl_0 s f h w) 0 0 90 90 90
def sp_wf (s : ts_T) (k : Nat) (q i n : Int32) : Int32 := if sp_fa s k q = 0 then (if n < 0 then 4 else if sp_rc (s 20 k) i n = 0 then 3 else 0) else sp_fa s k q
theorem ag_wf (s : ts_T) (k : Nat) (q i n : Int32) : sp_ag s k q i n = sp_wf s k q i n := by
  by_cases hn : n < 0
  · unfold sp_ag sp_wf sp_fa
    by_cases h1 : s 18 k = 0
    · simp only [h1, ↓reduceIte, tn_10]
    · by_cases h2 : s 19 k = q
      · simp only [h1, h2, hn, ↓reduceIte]
      · simp only [h1, h2, ↓reduceIte]
        rfl
  · rw [← fc_ag s k q i n hn]
    unfold sp_fc sp_wf
    simp only [hn, ↓reduceIte]
def wl_f (s : ts_T) (k i : Int32) : Nat → Int32 := fun q => s 21 (40 * tk k + tk i + q)
def sp_wall (s : ts_T) (k q i n : Int32) : Int32 × ts_T := if sp_in k 0 3 = 0 then (-1, ts_s s 0 0) else if sp_in q 0 2 = 0 then (-2, ts_s s 0 0) else if sp_wf s (tk k) q i n = 0 then (match fw (wl_f s k i) (tk n) with
    | some p => (-100 - nI p, ts_s s 0 0)
    | none => (nI (tk (wl_f s k i 1 - 48) * tk (wl_f s k i 2 - 48)), wl_s (ts_s s 0 0) (wl_f s k i) (tk (wl_f s k i 1 - 48)) (tk (wl_f s k i 2 - 48)))) else (-10 - sp_wf s (tk k) q i n, ts_s s 0 (sp_wf s (tk k) q i n))
theorem fi_some {o : Option Nat} (h : ¬ fw_i o < 0) : ∃ p, o = some p := by
  cases o with
  | none => exact absurd (by decide) h
  | some p => exact ⟨p, rfl⟩
theorem fw_le {f : Nat → Int32} {n p : Nat} (h : fw f n = some p) : p ≤ n := by
  unfold fw at h
  split at h
  · cases h
    omega
  split at h
  · split at h
    · cases h
      omega
    split at h
    · cases h
      omega
    split at h
    · cases h
      omega
    split at h
    · cases h
      omega
    unfold fw_r at h
    split at h
    · rename_i q1 q2 q3 q4 q5 q6 q7
      cases h
      generalize tk (f 1 - 48) * (tk (f 2 - 48) + 1) = T at q7 ⊢
      refine Classical.byContradiction fun z => ?_
      have key : ∀ m, m ≤ T → 3 + fw_g (fw_ok f n (tk (f 2 - 48))) m ≤ n := by
        intro m
        induction m with
        | zero => intro _; show 3 + 0 ≤ n; omega
        | succ m ih =>
          intro hm
          have h1 := ih (by omega)
          unfold fw_g
          split
          · exact h1
          · split
            · rename_i _ q9
              unfold fw_ok at q9
              rw [Bool.and_eq_true] at q9
              have := of_decide_eq_true q9.1
              omega
            · have hle : m ≤ fw_g (fw_ok f n (tk (f 2 - 48))) m := by omega
              omega
      exact z (key T (Nat.le_refl T))
    · split at h
      · cases h
        omega
      · cases h
  · cases h
    omega
theorem fi_none {f : Nat → Int32} {n : Nat} (hn : n ≤ 40) (h : fw_i (fw f n) < 0) : fw f n = none := by
  cases e : fw f n with
  | none => rfl
  | some p =>
    rw [e] at h
    have := fw_le e
    exact absurd h (nI_pos (by omega))
theorem fw_none {f : Nat → Int32} {n : Nat} (h : fw f n = none) : ∃ a b : Nat, 1 ≤ a ∧ a ≤ 4 ∧ 2 ≤ b ∧ b ≤ 6 ∧ f 1 - 48 = nI a ∧ f 2 - 48 = nI b ∧ tk (f 1 - 48) = a ∧ tk (f 2 - 48) = b ∧ n = 3 + a * (b + 1) ∧ ∀ q, q < a * (b + 1) → fw_ok f n b q = true := by
  unfold fw at h
  split at h
  · cases h
  split at h
  · split at h
    · cases h
    split at h
    · cases h
    split at h
    · cases h
    split at h
    · cases h
    rename_i q1 q2 q3 q4 q5 q6
    obtain ⟨a, a1, a2, a3, a4, -⟩ := dig (a := 49) (b := 52) q4 (by decide) (by decide) (by decide)
    obtain ⟨b, b1, b2, b3, b4, -⟩ := dig (a := 50) (b := 54) q6 (by decide) (by decide) (by decide)
    rw [a4, b4] at h
    unfold fw_r at h
    have gle : ∀ (p : Nat → Bool) (m : Nat), fw_g p m ≤ m := by
      intro p m
      induction m with
      | zero => exact Nat.le_refl 0
      | succ m ih =>
        unfold fw_g
        split
        · omega
        · split <;> omega
    split at h
    · cases h
    · rename_i q7
      split at h
      · cases h
      · rename_i q8
        have hg : fw_g (fw_ok f n b) (a * (b + 1)) = a * (b + 1) := by
          have := gle (fw_ok f n b) (a * (b + 1))
          omega
        have key : ∀ (p : Nat → Bool) (m : Nat), fw_g p m = m → ∀ q, q < m → p q = true := by
          intro p m
          induction m with
          | zero => intro _ q hq; exact absurd hq (by omega)
          | succ m ih =>
            intro e q hq
            unfold fw_g at e
            split at e
            · rename_i z
              omega
            · split at e
              · rename_i z1 z2
                by_cases eq : q = m
                · subst eq
                  exact z2
                · exact ih (by have := gle p m; omega) q (by omega)
              · omega
        have hok := key _ _ hg
        have hT : 1 ≤ a * (b + 1) := Nat.mul_pos (by omega) (by omega)
        have hl := hok (a * (b + 1) - 1) (by omega)
        unfold fw_ok at hl
        rw [Bool.and_eq_true] at hl
        have := of_decide_eq_true hl.1
        exact ⟨a, b, by omega, by omega, by omega, by omega, a3, b3, a4, b4, by omega, hok⟩
  · cases h
theorem fs_at {f : Nat → Int32} {w i m : Nat} (hm : m < w) : fw_sun f w (i * w + m) = f (3 + (i * (w + 1) + 1 + m)) - 48 := by
  unfold fw_sun
  have e1 : (i * w + m) / w = i := by
    rw [Nat.mul_comm, Nat.mul_add_div (by omega), Nat.div_eq_of_lt hm]
    omega
  have e2 : (i * w + m) % w = m := by
    rw [Nat.mul_comm, Nat.mul_add_mod, Nat.mod_eq_of_lt hm]
  rw [e1, e2]
theorem ts_f_u {f g : Nat → Int32} {i : Nat} {x : Int32} (h : x = f i) : upd (ts_f f g i) i x = ts_f f g (i + 1) := by rw [h, ts_f_s]
