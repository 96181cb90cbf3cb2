/-! the best mix: what the two sides write is what the rows say -/
theorem bd_1 {q : Nat} (h : q < 2401) : nI q / 343 = nI (q / 343) := tn_div rfl (tn_l 343) (by omega) (by decide) (by decide)
theorem bd_2 {q : Nat} (h : q < 2401) : nI q / 49 - nI q / 49 / 7 * 7 = nI (q / 49 % 7) := tn_rem (tn_div rfl (tn_l 49) (by omega) (by decide) (by decide)) (tn_l 7) (by omega) (by decide) (by decide)
theorem bd_3 {q : Nat} (h : q < 2401) : nI q / 7 - nI q / 7 / 7 * 7 = nI (q / 7 % 7) := tn_rem (tn_div rfl (tn_l 7) (by omega) (by decide) (by decide)) (tn_l 7) (by omega) (by decide) (by decide)
theorem bd_4 {q : Nat} (h : q < 2401) : nI q - nI q / 7 * 7 = nI (q % 7) := tn_rem rfl (tn_l 7) (by omega) (by decide) (by decide)
theorem bs_d4 (g : Nat → Int32) (q : Nat) : ∀ i, i < 4 → upd (upd (upd (upd g 0 (nI (q / 343))) 1 (nI (q / 49 % 7))) 2 (nI (q / 7 % 7))) 3 (nI (q % 7)) i = br q i := d4_0 g (fun _ => 0) _ _ _ _
theorem ad_br (s : ts_T) (g : Nat → Int32) (q : Nat) : sp_ad s (upd (upd (upd (upd g 0 (nI (q / 343))) 1 (nI (q / 49 % 7))) 2 (nI (q / 7 % 7))) 3 (nI (q % 7))) = sp_ad s (br q) := dc_ad (bs_d4 g q)
theorem bu_M (s : ts_T) (j l q : Nat) {d h : Nat → Int32} (e : ∀ i, i < 4 → d i = br q i) : sp_mu s (sp_mk s d 4) (upd (upd (upd h 0 (sp_mb s d 0)) 1 (sp_mb s d 1)) 2 (sp_mb s d 2)) j l = bU s j l q := by
  rw [dc_mk e, dc_mb e, dc_mb e, dc_mb e]
  unfold bU
  refine mu_c ?_ ?_ ?_ l
  · rfl
  · rfl
  · rfl
theorem bU_b {s : ts_T} {j ny nl : Nat} (hc : iv_c s ny j) (hy : ny ≤ 40) (hB : ∀ q, q < 18 → tn_b (s 16 q) 99) (hm : tn_b (s 5 0) 9) (hw : ∀ q, q < 12 → tn_b (s 17 q) 9) (hl : nl ≤ 4) : ∀ p, bG s p → tn_b (bU s j nl p) 2808 := fun p hp => mu_b (fun b hb => mb_b hp.2.2 hB hb) hc hy hB hm hw hl
noncomputable def sp_best (s : ts_T) (c w : Int32) : Int32 := if sp_ix c (s 9 0) = 0 then -1 else if sp_in w (-1) 3 = 0 then -2 else if w = -1 then bU s (tk c) (tk (s 8 0)) (bQ s (tk c) (tk (s 8 0))) else br (bQ s (tk c) (tk (s 8 0))) (tk w)
theorem in_m3 {p : Int32} (h : ¬ sp_in p (-1) 3 = 0) : (p = -1 ∧ ¬ 0 ≤ p) ∨ (¬ p = -1 ∧ 0 ≤ p ∧ ∃ b, b < 4 ∧ p = nI b ∧ tk p = b) := by
  unfold sp_in at h
  split at h
  · exact absurd rfl h
  · rename_i h1
    split at h
    · exact absurd rfl h
    · rename_i h2
      by_cases h0 : 0 ≤ p
      · right
        obtain ⟨b, hb, rfl⟩ := nI_of (tn_d_le h0)
        rw [show (3 : Int32) = nI 3 from rfl, nI_ltI (by omega) hb] at h2
        refine ⟨?_, h0, b, by omega, rfl, tk_n (by omega)⟩
        intro z
        rw [z] at h0
        exact absurd h0 (by decide)
      · left
        refine ⟨?_, h0⟩
        rw [Int32.lt_iff_toInt_lt] at h1
        rw [Int32.le_iff_toInt_le] at h0
        refine Int32.toInt_inj.mp ?_
        have e1 : (-1 : Int32).toInt = -1 := by decide
        have e0 : (0 : Int32).toInt = 0 := by decide
        rw [e1] at h1 ⊢
        rw [e0] at h0
        omega
