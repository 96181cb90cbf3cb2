/-! the loop of the law -/
set_option maxRecDepth 20000 in
theorem tl_7 : ∀ L, L < 449 → (nI L - 7).toInt = (L : Int) - 7 := by decide +kernel
theorem tl_lt {L i : Nat} (hL : L ≤ 448) (hi : i ≤ L) (h : ¬ nI L - 7 < nI i) : i + 7 ≤ L := by
  rw [Int32.lt_iff_toInt_lt, tl_7 L (by omega), nI_toInt (by omega)] at h
  omega
section LLP
variable {c : tv_c} {X : tv_X} {b L : Nat} {xs : Nat → Int32}
set_option maxRecDepth 20000 in
theorem tl_sw {i k : Nat} {s r w : ts_T} (C : tv_C c 79 X cL_law RL wsL_law 4 room_1) (S : tl_S X b L xs) (hi : i + 7 ≤ L) (hI : iv s) (hN : ∀ s r w, iv s → tv_V c 79 X (tl_E c s r s w) 1497 (tl_lv c b i) []) (hk : k < 64) : tv_V c 79 X (tl_E c s r s w) 33 (tl_lv c b i) [.int (nI k)] := by
  by_cases h32 : k < 33
  · match k, h32 with
    | 0, _ => exact tv_tableIn (off := 147) C 180 dL_law_33 (by decide +kernel) (by decide +kernel) (by decide +kernel) (by decide) (lc_0 C S hi hI hN)
    | 1, _ => exact tv_tableIn (off := 200) C 233 dL_law_33 (by decide +kernel) (by decide +kernel) (by decide +kernel) (by decide) (lc_1 C S hi hI hN)
    | 2, _ => exact tv_tableIn (off := 233) C 266 dL_law_33 (by decide +kernel) (by decide +kernel) (by decide +kernel) (by decide) (lc_2 C S hi hI hN)
    | 3, _ => exact tv_tableIn (off := 266) C 299 dL_law_33 (by decide +kernel) (by decide +kernel) (by decide +kernel) (by decide) (lc_3 C S hi hI hN)
    | 4, _ => exact tv_tableIn (off := 289) C 322 dL_law_33 (by decide +kernel) (by decide +kernel) (by decide +kernel) (by decide) (lc_4 C S hi hI hN)
    | 5, _ => exact tv_tableIn (off := 338) C 371 dL_law_33 (by decide +kernel) (by decide +kernel) (by decide +kernel) (by decide) (lc_5 C S hi hI hN)
    | 6, _ => exact tv_tableIn (off := 391) C 424 dL_law_33 (by decide +kernel) (by decide +kernel) (by decide +kernel) (by decide) (lc_6 C S hi hI hN)
    | 7, _ => exact tv_tableIn (off := 424) C 457 dL_law_33 (by decide +kernel) (by decide +kernel) (by decide +kernel) (by decide) (lc_7 C S hi hI hN)
    | 8, _ => exact tv_tableIn (off := 457) C 490 dL_law_33 (by decide +kernel) (by decide +kernel) (by decide +kernel) (by decide) (lc_8 C S hi hI hN)
    | 9, _ => exact tv_tableIn (off := 516) C 549 dL_law_33 (by decide +kernel) (by decide +kernel) (by decide +kernel) (by decide) (lc_9 C S hi hI hN)
    | 10, _ => exact tv_tableIn (off := 559) C 592 dL_law_33 (by decide +kernel) (by decide +kernel) (by decide +kernel) (by decide) (lc_10 C S hi hI hN)
    | 11, _ => exact tv_tableIn (off := 618) C 651 dL_law_33 (by decide +kernel) (by decide +kernel) (by decide +kernel) (by decide) (lc_11 C S hi hI hN)
    | 12, _ => exact tv_tableIn (off := 687) C 720 dL_law_33 (by decide +kernel) (by decide +kernel) (by decide +kernel) (by decide) (lc_12 C S hi hI hN)
    | 13, _ => exact tv_tableIn (off := 710) C 743 dL_law_33 (by decide +kernel) (by decide +kernel) (by decide +kernel) (by decide) (lc_13 C S hi hI hN)
    | 14, _ => exact tv_tableIn (off := 763) C 796 dL_law_33 (by decide +kernel) (by decide +kernel) (by decide +kernel) (by decide) (lc_14 C S hi hI hN)
    | 15, _ => exact tv_tableIn (off := 796) C 829 dL_law_33 (by decide +kernel) (by decide +kernel) (by decide +kernel) (by decide) (lc_15 C S hi hI hN)
    | 16, _ => exact tv_tableIn (off := 839) C 872 dL_law_33 (by decide +kernel) (by decide +kernel) (by decide +kernel) (by decide) (lc_16 C S hi hI hN)
    | 17, _ => exact tv_tableIn (off := 882) C 915 dL_law_33 (by decide +kernel) (by decide +kernel) (by decide +kernel) (by decide) (lc_17 C S hi hI hN)
    | 18, _ => exact tv_tableIn (off := 915) C 948 dL_law_33 (by decide +kernel) (by decide +kernel) (by decide +kernel) (by decide) (lc_18 C S hi hI hN)
    | 19, _ => exact tv_tableIn (off := 958) C 991 dL_law_33 (by decide +kernel) (by decide +kernel) (by decide +kernel) (by decide) (lc_19 C S hi hI hN)
    | 20, _ => exact tv_tableIn (off := 981) C 1014 dL_law_33 (by decide +kernel) (by decide +kernel) (by decide +kernel) (by decide) (lc_20 C S hi hI hN)
    | 21, _ => exact tv_tableIn (off := 1056) C 1089 dL_law_33 (by decide +kernel) (by decide +kernel) (by decide +kernel) (by decide) (lc_21 C S hi hI hN)
    | 22, _ => exact tv_tableIn (off := 1120) C 1153 dL_law_33 (by decide +kernel) (by decide +kernel) (by decide +kernel) (by decide) (lc_22 C S hi hI hN)
    | 23, _ => exact tv_tableIn (off := 1163) C 1196 dL_law_33 (by decide +kernel) (by decide +kernel) (by decide +kernel) (by decide) (lc_23 C S hi hI hN)
    | 24, _ => exact tv_tableIn (off := 1186) C 1219 dL_law_33 (by decide +kernel) (by decide +kernel) (by decide +kernel) (by decide) (lc_24 C S hi hI hN)
    | 25, _ => exact tv_tableIn (off := 1229) C 1262 dL_law_33 (by decide +kernel) (by decide +kernel) (by decide +kernel) (by decide) (lc_25 C S hi hI hN)
    | 26, _ => exact tv_tableIn (off := 1273) C 1306 dL_law_33 (by decide +kernel) (by decide +kernel) (by decide +kernel) (by decide) (lc_26 C S hi hI hN)
    | 27, _ => exact tv_tableIn (off := 1336) C 1369 dL_law_33 (by decide +kernel) (by decide +kernel) (by decide +kernel) (by decide) (lc_27 C S hi hI hN)
    | 28, _ => exact tv_tableIn (off := 1359) C 1392 dL_law_33 (by decide +kernel) (by decide +kernel) (by decide +kernel) (by decide) (lc_28 C S hi hI hN)
    | 29, _ => exact tv_tableIn (off := 1382) C 1415 dL_law_33 (by decide +kernel) (by decide +kernel) (by decide +kernel) (by decide) (lc_29 C S hi hI hN)
    | 30, _ => exact tv_tableIn (off := 1415) C 1448 dL_law_33 (by decide +kernel) (by decide +kernel) (by decide +kernel) (by decide) (lc_30 C S hi hI hN)
    | 31, _ => exact tv_tableIn (off := 1428) C 1461 dL_law_33 (by decide +kernel) (by decide +kernel) (by decide +kernel) (by decide) (lc_31 C S hi hI hN)
    | 32, _ => exact tv_tableIn (off := 1441) C 1474 dL_law_33 (by decide +kernel) (by decide +kernel) (by decide +kernel) (by decide) (lc_32 C S hi hI hN)
    | k + 33, h => exact absurd h (by omega)
  · refine tv_tableOut C 1497 dL_law_33 (Or.inr ?_) (by decide) (hN s r w hI)
    rw [nI_toInt (by omega)]
    omega
theorem law_loop (C : tv_C c 79 X cL_law RL wsL_law 4 room_1) (S : tl_S X b L xs) (hR : ∀ E lv, tv_V c 79 X E 1504 lv [.int 1]) : ∀ (n i : Nat) (s r w : ts_T), i ≤ L → L - i < n → iv s → tv_V c 79 X (tl_E c s r s w) 18 (tl_lv c b i) [] := by
  intro n
  induction n with
  | zero => intro i s r w _ h; omega
  | succ n ih =>
    intro i s r w hi hn hI
    have hL : L ≤ 448 := S.2.2.2
    refine tv_iload_n C dL_law_18 rfl 0 rfl ?_
    refine tv_aload_n C dL_law_19 rfl 3 rfl ?_
    refine tl_slen C S dL_law_20 ?_
    refine tv_bipush (v := 7) C dL_law_21 (by decide) ?_
    refine tv_isub C dL_law_23 ?_
    refine tv_icmp_gt C 1503 dL_law_24 (by decide) (fun _ => ?_) (fun h => ?_)
    · refine tv_iconst (v := 1) C dL_law_1503 (by decide) ?_
      exact hR _ _
    · have h7 : i + 7 ≤ L := tl_lt hL hi h
      have hN : ∀ s r w, iv s → tv_V c 79 X (tl_E c s r s w) 1497 (tl_lv c b i) [] := by
        intro s r w hI
        refine tv_iinc (v := nI (i + 7)) (lv' := tl_lv c b (i + 7)) C dL_law_1497 0 rfl ?_ (by decide) rfl ?_
        · rw [show Int32.ofInt 7 = nI 7 from by decide]
          exact nI_add i 7
        · exact tv_goto C 18 dL_law_1500 (by decide) (ih (i + 7) s r w h7 (by omega) hI)
      refine tv_aload_n C dL_law_27 rfl 3 rfl ?_
      refine tv_iload_n C dL_law_28 rfl 0 rfl ?_
      refine tl_sld C S i rfl (by omega) dL_law_29 ?_
      refine tv_bipush (v := 63) C dL_law_30 (by decide) ?_
      refine tv_iand C dL_law_32 ?_
      obtain ⟨k, hk, e⟩ := pk_andE (xs i) (m := 63) 6 (by decide)
      rw [e]
      exact tl_sw C S h7 hI hN hk
end LLP
