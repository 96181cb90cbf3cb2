/-! L: the walk of the law: 79 cells, the 60 of the one first, then the 19 of the other -/
def tl_m (c : tv_c) : tv_c := (c.1, c.2.1, c.2.2.1, fun k => tv_ad c (60 + k))
def tl_E (c : tv_c) (s r t w : ts_T) : Nat → va_E := fun k => if k < 60 then eX c s r k else eM (tl_m c) t w (k - 60)
def tl_lv (c : tv_c) (b i : Nat) : List (Nat × Value) := [(3, .int (nI i)), (2, .ref (tv_ad c 60)), (1, .ref (tv_ad c 0)), (0, .ref b)]
def tl_b (x : Int32) : Int32 := if x = 0 then 0 else 1
theorem tl_b01 (x : Int32) : tl_b x = 0 ∨ tl_b x = 1 := by
  unfold tl_b
  split
  · exact Or.inl rfl
  · exact Or.inr rfl
theorem tl_cmp (x : Int64) : lg_cmp x x = 0 := by
  unfold lg_cmp
  rw [if_neg (fun h => by rw [gt_iff_lt, Int64.lt_iff_toInt_lt] at h; omega), if_pos rfl]
/-- the script -/
def tl_S (X : tv_X) (b L : Nat) (xs : Nat → Int32) : Prop := va_X b L xs (tv_xs X) (tv_xs X).heap ∧ b < (tv_xs X).heap.size ∧ ¬ tv_xA X b ∧ L ≤ 448
section TL
variable {c : tv_c} {N : Nat} {X : tv_X} {cc : ByteArray} {own : String} {Ts : List Cond} {nL : Nat} {rm : Room} {E : Nat → va_E} {pc : Nat} {lv : List (Nat × Value)} {st : List Value}
theorem tl_wl {N : Nat} {ad : Nat → Nat} {E E1 : Nat → va_E} (h : ∀ k, k < N → E k = E1 k) : tv_wl N ad E = tv_wl N ad E1 := by
  unfold tv_wl
  apply List.map_congr_left
  intro k hk
  rw [h k (List.mem_range.mp hk)]
theorem tl_ext {E1 : Nat → va_E} (h : ∀ k, k < N → E k = E1 k) (k : tv_V c N X E1 pc lv st) : tv_V c N X E pc lv st :=
  fun H locs hP hS ls hl => k H locs (by rw [← tl_wl h]; exact hP) hS ls hl
theorem tl_sld (C : tv_C c N X cc own Ts nL rm) {b L : Nat} {xs : Nat → Int32} (S : tl_S X b L xs) {i : Int32} (j : Nat) (hi : i = nI j) (hj : j < L) (hd : decode cc pc = .ok (.iaload, 1)) (kk : tv_V c N X E (pc + 1) lv (.int (xs j) :: st)) : tv_V c N X E pc lv (.int i :: .ref b :: st) := by
  intro H locs hP hS ls hl
  obtain ⟨s1, s2, s3, s4⟩ := S
  subst hi
  have hL : L < 2 ^ 31 := by omega
  have e : (nI j).toNatClampNeg = j := nI_clamp (by omega)
  refine va_sld C.1 C.2.1 s1 s2 s3 hS (vp_in_nI hj hL) hd ?_
  rw [e]
  exact kk H locs hP hS ls hl
theorem tl_slen (C : tv_C c N X cc own Ts nL rm) {b L : Nat} {xs : Nat → Int32} (S : tl_S X b L xs) (hd : decode cc pc = .ok (.arraylength, 1)) (kk : tv_V c N X E (pc + 1) lv (.int (nI L) :: st)) : tv_V c N X E pc lv (.ref b :: st) :=
  fun H locs hP hS ls hl => va_slen C.1 C.2.1 S.1 S.2.1 S.2.2.1 hS hd (kk H locs hP hS ls hl)
theorem tl_lcmp (C : tv_C c N X cc own Ts nL rm) {x y : Int64} (hd : decode cc pc = .ok (.lcmp, 1)) (kk : tv_V c N X E (pc + 1) lv (.int (lg_cmp x y) :: st)) : tv_V c N X E pc lv (.long y :: .long x :: st) :=
  fun H locs hP hS ls hl => W.lcmp C.1 C.2.1 hd (kk H locs hP hS ls hl)
/-- script[i + k] -/
theorem tl_arg (C : tv_C c N X cc own Ts nL rm) {b L i : Nat} {xs : Nat → Int32} (S : tl_S X b L xs) (k : Nat) {n : Int} (hn : Int32.ofInt n = nI k) (hk : i + k < L) (d1 : decode cc pc = .ok (.aload_n 0, 1)) (d2 : decode cc (pc + 1) = .ok (.iload_n 3, 1)) (d3 : decode cc (pc + 2) = .ok (.iconst n, 1)) (d4 : decode cc (pc + 3) = .ok (.iadd, 1)) (d5 : decode cc (pc + 4) = .ok (.iaload, 1)) (kk : tv_V c N X E (pc + 5) (tl_lv c b i) (.int (xs (i + k)) :: st)) : tv_V c N X E pc (tl_lv c b i) st := by
  refine tv_aload_n C d1 rfl 3 rfl ?_
  refine tv_iload_n C d2 rfl 0 rfl ?_
  refine tv_iconst C d3 hn ?_
  refine tv_iadd C d4 ?_
  exact tl_sld C S (i + k) (nI_add i k) hk d5 kk
theorem tl_arg6 (C : tv_C c N X cc own Ts nL rm) {b L i : Nat} {xs : Nat → Int32} (S : tl_S X b L xs) (k : Nat) {n : Int} (hn : (Int8.ofInt n).toInt32 = nI k) (hk : i + k < L) (d1 : decode cc pc = .ok (.aload_n 0, 1)) (d2 : decode cc (pc + 1) = .ok (.iload_n 3, 1)) (d3 : decode cc (pc + 2) = .ok (.bipush n, 2)) (d4 : decode cc (pc + 4) = .ok (.iadd, 1)) (d5 : decode cc (pc + 5) = .ok (.iaload, 1)) (kk : tv_V c N X E (pc + 6) (tl_lv c b i) (.int (xs (i + k)) :: st)) : tv_V c N X E pc (tl_lv c b i) st := by
  refine tv_aload_n C d1 rfl 3 rfl ?_
  refine tv_iload_n C d2 rfl 0 rfl ?_
  refine tv_bipush C d3 hn ?_
  refine tv_iadd C d4 ?_
  exact tl_sld C S (i + k) (nI_add i k) hk d5 kk
/-- x != 0 -/
theorem tl_bool (C : tv_C c N X cc own Ts nL rm) {x : Int32} (d1 : decode cc pc = .ok (.ifCond .eq 7, 3)) (d2 : decode cc (pc + 3) = .ok (.iconst 1, 1)) (d3 : decode cc (pc + 4) = .ok (.goto 4, 3)) (d4 : decode cc (pc + 7) = .ok (.iconst 0, 1)) (kk : tv_V c N X E (pc + 8) lv (.int (tl_b x) :: st)) : tv_V c N X E pc lv (.int x :: st) := by
  refine tv_if_eq C (pc + 7) d1 (by omega) (fun h => ?_) (fun h => ?_)
  · refine tv_iconst (v := 0) C d4 (by decide) ?_
    have e : tl_b x = 0 := by unfold tl_b; rw [if_pos h]
    rw [e] at kk
    exact kk
  · refine tv_iconst (v := 1) C d2 (by decide) ?_
    refine tv_goto C (pc + 8) d3 (by omega) ?_
    have e : tl_b x = 1 := by unfold tl_b; rw [if_neg h]
    rw [e] at kk
    exact kk
theorem tl_sub {N' : Nat} {E' : Nat → va_E} {ad' g : Nat → Nat} {H : Heap} (hg : ∀ k, k < N' → g k < N ∧ ad' k = tv_ad c (g k) ∧ E' k = E (g k)) (hP : va_P (tv_D c) vwCl (tv_wl N (tv_ad c) E) H) : va_P (tv_D c) vwCl (tv_wl N' ad' E') H := by
  intro k q hq
  obtain ⟨h1, rfl⟩ := tv_wl_some hq
  obtain ⟨a1, a2, a3⟩ := hg k h1
  have h := hP (g k) _ (tv_wl_get a1)
  rw [a2, a3]
  exact h
theorem tl_join {N' : Nat} {E' E1 u : Nat → va_E} {ad' g : Nat → Nat} {H H1 : Heap} (hJ : tv_inj N (tv_ad c)) (hg : ∀ k, k < N' → g k < N ∧ ad' k = tv_ad c (g k) ∧ E' k = E (g k)) (hP : va_P (tv_D c) vwCl (tv_wl N (tv_ad c) E) H) (hB : va_P (tv_D c) vwCl (tv_wl N' ad' u) H1) (hk : ∀ q : Nat, q < H.size → ¬ tv_AA N' ad' H.size q → H1[q]? = H[q]?) (h1 : ∀ k, k < N' → E1 (g k) = u k) (h2 : ∀ k, k < N → (∀ j, j < N' → k ≠ g j) → E1 k = E k) : va_P (tv_D c) vwCl (tv_wl N (tv_ad c) E1) H1 := by
  intro k q hq
  obtain ⟨hk0, rfl⟩ := tv_wl_some hq
  by_cases hj : ∃ j, j < N' ∧ k = g j
  · obtain ⟨j, hj, rfl⟩ := hj
    have h := hB j _ (tv_wl_get hj)
    rw [h1 j hj, ← (hg j hj).2.1]
    exact h
  · rw [h2 k hk0 (fun j hj1 e => hj ⟨j, hj1, e⟩)]
    have ha := hP k _ (tv_wl_get hk0)
    have hlt : tv_ad c k < H.size := ha.lt
    refine ha.kept (hk _ hlt ?_)
    rintro (⟨j, hj1, hj2⟩ | hh)
    · exact hj ⟨j, hj1, hJ _ _ hk0 (hg j hj1).1 (hj2.trans (hg j hj1).2.1)⟩
    · exact absurd hlt (Nat.not_lt.mpr hh)
theorem tl_in {N' : Nat} {E' : Nat → va_E} {ad' g : Nat → Nat} {sz : Nat} {U : State} (hg : ∀ k, k < N' → g k < N ∧ ad' k = tv_ad c (g k) ∧ E' k = E (g k)) (hgi : ∀ i j, i < N' → j < N' → g i = g j → i = j) (h : tv_in c N E sz U) : tv_in (c.1, c.2.1, c.2.2.1, ad') N' E' sz U := by
  obtain ⟨a1, a2, a3, a4, a5⟩ := h
  have b2 : va_P (tv_D c) vwCl (tv_wl N' ad' E') U.heap := tl_sub hg a2
  refine ⟨a1, b2, a3, a4, fun i j hi hj e => hgi i j hi hj (a5 _ _ (hg i hi).1 (hg j hj).1 ?_)⟩
  rw [← (hg i hi).2.1, ← (hg j hj).2.1]
  exact e
theorem tl_AA {N' : Nat} {E' : Nat → va_E} {ad' g : Nat → Nat} {sz : Nat} (hg : ∀ k, k < N' → g k < N ∧ ad' k = tv_ad c (g k) ∧ E' k = E (g k)) (q : Nat) (h : tv_AA N' ad' sz q) : tv_AA N (tv_ad c) sz q := by
  rcases h with ⟨k, hk, rfl⟩ | h
  · exact Or.inl ⟨g k, (hg k hk).1, (hg k hk).2.1⟩
  · exact Or.inr h
variable {y : MethodName} {ws ws' : List Cond} {rm' : Room} {bytes : ByteArray} {maxL n index ci Nf N' : Nat} {ret : Option FieldType} {As rest fs : List Value} {cn : String} {T : u_T} {E' : Nat → va_E} {ad' g : Nat → Nat}
theorem tl_calli {P : Int32 → (Nat → va_E) → Prop} (C : tv_C c N X cc own Ts nL rm) (hg : ∀ k, k < N' → g k < N ∧ ad' k = tv_ad c (g k) ∧ E' k = E (g k)) (hgi : ∀ i j, i < N' → j < N' → g i = g j → i = j) (b : Nat) (hM : tv_Mi (c.1, c.2.1, c.2.2.1, ad') N' y ws rm' (.ref (ad' b) :: As) E' P) (hgd : GoodIn Ts (wsV own index cn y ws)) (hw : ws = Cond.code y bytes maxL ret :: ws') (hd2 : y.cls = cn ∧ y.cls ≠ "java/lang/invoke/MethodHandle" ∧ y.cls ≠ "java/lang/invoke/VarHandle" ∧ (parseMethodDescriptor y.desc).map (fun d => d.parameters.length) = some n) (hrc : rm'.cells = 0 ∧ rm'.slots = 0) (hR : rm'.frames + 1 ≤ rm.frames ∧ 8 + (maxL + 11) + rm'.locals ≤ rm.locals) (hb : b < N') (he : E' b = .inr (ci, fs)) (hc : vwCl[ci]? = some (cn, T, Nf)) (hn : As.length = n) (hst : st = As.reverse ++ .ref (ad' b) :: rest) (hcat : (rest.map fun v => v.category).sum ≤ 8) (hd : decode cc pc = .ok (.invokevirtual index, 3))
    (kk : ∀ r u E1, P r u → (∀ k, k < N' → E1 (g k) = u k) → (∀ k, k < N → (∀ j, j < N' → k ≠ g j) → E1 k = E k) → tv_V c N X E1 (pc + 3) lv (.int r :: rest)) : tv_V c N X E pc lv st := by
  intro H locs hP hS ls hl2
  subst hst
  have C0 := C
  obtain ⟨c1, c2, c3, c4, c5, c6, c7, c8, c9, c10, c11, c12, c13, c14⟩ := C
  have hF : ∀ q, tv_AA N' ad' H.size q → tv_xA X q := fun q h => tv_AA.of c7 c8 hS q (tl_AA hg q h)
  have hP' := tl_sub hg hP
  refine va_calli (va_runV (As := As) (rest := rest) ⟨c1, c2, c3, c4, c5⟩ (hM H.size) (cwV n c5 hgd hw hrc.1 hrc.2 hd2 (by rw [c12]; exact hR)) ⟨tv_in.blind, va_recv c6 hP' hc ((tv_wl_get hb).trans (by rw [he])), fun U hU hW => ⟨rfl, tl_in hg hgi (tv_pre C0 hP U hU hW)⟩⟩ rfl hn (hl2.1.trans c11) rfl (lv_room hcat) hd ⟨by rw [c12]; exact c13, by rw [c12]; exact c14⟩) hS (fun q _ h => hF q h) hF (fun r u t H1 locs1 ht hvm hw hB hz1 hk1 hS1 => ?_)
  have hB' : va_P (tv_D c) vwCl (tv_wl N' ad' u) H1 := by rw [← ht]; exact hB
  obtain ⟨E1, h1, h2⟩ : ∃ E1 : Nat → va_E, (∀ k, k < N' → E1 (g k) = u k) ∧ (∀ k, k < N → (∀ j, j < N' → k ≠ g j) → E1 k = E k) := by
    refine ⟨fun k => match (List.range N').find? (fun j => g j == k) with | some j => u j | none => E k, fun k hk => ?_, fun k hk hj => ?_⟩
    · show (match (List.range N').find? (fun j => g j == g k) with | some j => u j | none => E (g k)) = u k
      cases hf : (List.range N').find? (fun j => g j == g k) with
      | none =>
        have h := List.find?_eq_none.mp hf k (List.mem_range.mpr hk)
        simp at h
      | some j =>
        have h1 := List.find?_some hf
        have h2 := List.mem_range.mp (List.mem_of_find?_eq_some hf)
        have h3 : g j = g k := by simpa using h1
        rw [hgi j k h2 hk h3]
    · show (match (List.range N').find? (fun j => g j == k) with | some j => u j | none => E k) = E k
      cases hf : (List.range N').find? (fun j => g j == k) with
      | none => rfl
      | some j =>
        have h1 := List.find?_some hf
        have h2 := List.mem_range.mp (List.mem_of_find?_eq_some hf)
        have h3 : g j = k := by simpa using h1
        exact absurd h3.symm (hj j h2)
  exact kk r u E1 hw h1 h2 H1 locs1 (tl_join c10 hg hP hB' hk1 h1 h2) hS1 ls hl2
theorem tl_calll {P : Int64 → (Nat → va_E) → Prop} (C : tv_C c N X cc own Ts nL rm) (hg : ∀ k, k < N' → g k < N ∧ ad' k = tv_ad c (g k) ∧ E' k = E (g k)) (hgi : ∀ i j, i < N' → j < N' → g i = g j → i = j) (b : Nat) (hM : tv_Ml (c.1, c.2.1, c.2.2.1, ad') N' y ws rm' (.ref (ad' b) :: As) E' P) (hgd : GoodIn Ts (wsV own index cn y ws)) (hw : ws = Cond.code y bytes maxL ret :: ws') (hd2 : y.cls = cn ∧ y.cls ≠ "java/lang/invoke/MethodHandle" ∧ y.cls ≠ "java/lang/invoke/VarHandle" ∧ (parseMethodDescriptor y.desc).map (fun d => d.parameters.length) = some n) (hrc : rm'.cells = 0 ∧ rm'.slots = 0) (hR : rm'.frames + 1 ≤ rm.frames ∧ 8 + (maxL + 11) + rm'.locals ≤ rm.locals) (hb : b < N') (he : E' b = .inr (ci, fs)) (hc : vwCl[ci]? = some (cn, T, Nf)) (hn : As.length = n) (hst : st = As.reverse ++ .ref (ad' b) :: rest) (hcat : (rest.map fun v => v.category).sum ≤ 8) (hd : decode cc pc = .ok (.invokevirtual index, 3))
    (kk : ∀ r u E1, P r u → (∀ k, k < N' → E1 (g k) = u k) → (∀ k, k < N → (∀ j, j < N' → k ≠ g j) → E1 k = E k) → tv_V c N X E1 (pc + 3) lv (.long r :: rest)) : tv_V c N X E pc lv st := by
  intro H locs hP hS ls hl2
  subst hst
  have C0 := C
  obtain ⟨c1, c2, c3, c4, c5, c6, c7, c8, c9, c10, c11, c12, c13, c14⟩ := C
  have hF : ∀ q, tv_AA N' ad' H.size q → tv_xA X q := fun q h => tv_AA.of c7 c8 hS q (tl_AA hg q h)
  have hP' := tl_sub hg hP
  refine va_calll (va_runV (As := As) (rest := rest) ⟨c1, c2, c3, c4, c5⟩ (hM H.size) (cwV n c5 hgd hw hrc.1 hrc.2 hd2 (by rw [c12]; exact hR)) ⟨tv_in.blind, va_recv c6 hP' hc ((tv_wl_get hb).trans (by rw [he])), fun U hU hW => ⟨rfl, tl_in hg hgi (tv_pre C0 hP U hU hW)⟩⟩ rfl hn (hl2.1.trans c11) rfl (lv_room hcat) hd ⟨by rw [c12]; exact c13, by rw [c12]; exact c14⟩) hS (fun q _ h => hF q h) hF (fun r u t H1 locs1 ht hvm hw hB hz1 hk1 hS1 => ?_)
  have hB' : va_P (tv_D c) vwCl (tv_wl N' ad' u) H1 := by rw [← ht]; exact hB
  obtain ⟨E1, h1, h2⟩ : ∃ E1 : Nat → va_E, (∀ k, k < N' → E1 (g k) = u k) ∧ (∀ k, k < N → (∀ j, j < N' → k ≠ g j) → E1 k = E k) := by
    refine ⟨fun k => match (List.range N').find? (fun j => g j == k) with | some j => u j | none => E k, fun k hk => ?_, fun k hk hj => ?_⟩
    · show (match (List.range N').find? (fun j => g j == g k) with | some j => u j | none => E (g k)) = u k
      cases hf : (List.range N').find? (fun j => g j == g k) with
      | none =>
        have h := List.find?_eq_none.mp hf k (List.mem_range.mpr hk)
        simp at h
      | some j =>
        have h1 := List.find?_some hf
        have h2 := List.mem_range.mp (List.mem_of_find?_eq_some hf)
        have h3 : g j = g k := by simpa using h1
        rw [hgi j k h2 hk h3]
    · show (match (List.range N').find? (fun j => g j == k) with | some j => u j | none => E k) = E k
      cases hf : (List.range N').find? (fun j => g j == k) with
      | none => rfl
      | some j =>
        have h1 := List.find?_some hf
        have h2 := List.mem_range.mp (List.mem_of_find?_eq_some hf)
        have h3 : g j = k := by simpa using h1
        exact absurd h3.symm (hj j h2)
  exact kk r u E1 hw h1 h2 H1 locs1 (tl_join c10 hg hP hB' hk1 h1 h2) hS1 ls hl2
end TL
theorem tl_gX (c : tv_c) (s r t w : ts_T) : ∀ k, k < 60 → k < 79 ∧ tv_ad c k = tv_ad c k ∧ eX c s r k = tl_E c s r t w k := fun k hk => ⟨by omega, rfl, (if_pos hk).symm⟩
theorem tl_gM (c : tv_c) (s r t w : ts_T) : ∀ k, k < 19 → 60 + k < 79 ∧ tv_ad c (60 + k) = tv_ad c (60 + k) ∧ eM (tl_m c) t w k = tl_E c s r t w (60 + k) := fun k hk => ⟨by omega, rfl, by
  show _ = if 60 + k < 60 then _ else _
  rw [if_neg (by omega), show 60 + k - 60 = k by omega]⟩
theorem tl_eX {c : tv_c} {s r t w s' r' : ts_T} {E1 : Nat → va_E} (h1 : ∀ k, k < 60 → E1 k = eX c s' r' k) (h2 : ∀ k, k < 79 → (∀ j, j < 60 → k ≠ j) → E1 k = tl_E c s r t w k) : ∀ k, k < 79 → E1 k = tl_E c s' r' t w k := by
  intro k hk
  by_cases h : k < 60
  · rw [h1 k h]
    exact (if_pos h).symm
  · rw [h2 k hk (fun j hj e => h (e ▸ hj))]
    unfold tl_E
    rw [if_neg h, if_neg h]
theorem tl_eM {c : tv_c} {s r t w t' w' : ts_T} {E1 : Nat → va_E} (h1 : ∀ k, k < 19 → E1 (60 + k) = eM (tl_m c) t' w' k) (h2 : ∀ k, k < 79 → (∀ j, j < 19 → k ≠ 60 + j) → E1 k = tl_E c s r t w k) : ∀ k, k < 79 → E1 k = tl_E c s r t' w' k := by
  intro k hk
  by_cases h : k < 60
  · rw [h2 k hk (fun j hj e => by omega)]
    unfold tl_E
    rw [if_pos h, if_pos h]
  · have e : 60 + (k - 60) = k := by omega
    have h3 := h1 (k - 60) (by omega)
    rw [e] at h3
    rw [h3]
    unfold tl_E
    rw [if_neg h]
section TLC
variable {c : tv_c} {X : tv_X} {cc : ByteArray} {own : String} {Ts : List Cond} {nL : Nat} {rm : Room} {pc : Nat} {lv : List (Nat × Value)} {st : List Value} {y : MethodName} {ws ws' : List Cond} {rm' : Room} {bytes : ByteArray} {maxL n index : Nat} {ret : Option FieldType} {As rest : List Value} {s r t w : ts_T}
theorem tl_Xi {P : Int32 → (Nat → va_E) → Prop} (C : tv_C c 79 X cc own Ts nL rm) (v : Int32) (s' : ts_T) (hM : tv_Mi c 60 y ws rm' (.ref (tv_ad c 0) :: As) (eX c s r) P) (hP : ∀ q u, P q u → q = v ∧ ∃ r', u = eX c s' r') (hgd : GoodIn Ts (wsV own index RX7 y ws)) (hw : ws = Cond.code y bytes maxL ret :: ws') (hd2 : y.cls = RX7 ∧ y.cls ≠ "java/lang/invoke/MethodHandle" ∧ y.cls ≠ "java/lang/invoke/VarHandle" ∧ (parseMethodDescriptor y.desc).map (fun d => d.parameters.length) = some n) (hrc : rm'.cells = 0 ∧ rm'.slots = 0) (hR : rm'.frames + 1 ≤ rm.frames ∧ 8 + (maxL + 11) + rm'.locals ≤ rm.locals) (hn : As.length = n) (hst : st = As.reverse ++ .ref (tv_ad c 0) :: rest) (hcat : (rest.map fun v => v.category).sum ≤ 8) (hd : decode cc pc = .ok (.invokevirtual index, 3))
    (kk : ∀ r', tv_V c 79 X (tl_E c s' r' t w) (pc + 3) lv (.int v :: rest)) : tv_V c 79 X (tl_E c s r t w) pc lv st :=
  tl_calli (ad' := tv_ad c) (g := fun k => k) (ci := 7) (T := TX7) (Nf := 7) C (tl_gX c s r t w) (fun _ _ _ _ h => h) 0 hM hgd hw hd2 hrc hR (by omega) rfl rfl hn hst hcat hd (fun q u E1 hq h1 h2 => by
    obtain ⟨rfl, r', rfl⟩ := hP q u hq
    exact tl_ext (tl_eX h1 h2) (kk r'))
theorem tl_Xl {P : Int64 → (Nat → va_E) → Prop} (C : tv_C c 79 X cc own Ts nL rm) (v : Int64) (s' : ts_T) (hM : tv_Ml c 60 y ws rm' (.ref (tv_ad c 0) :: As) (eX c s r) P) (hP : ∀ q u, P q u → q = v ∧ ∃ r', u = eX c s' r') (hgd : GoodIn Ts (wsV own index RX7 y ws)) (hw : ws = Cond.code y bytes maxL ret :: ws') (hd2 : y.cls = RX7 ∧ y.cls ≠ "java/lang/invoke/MethodHandle" ∧ y.cls ≠ "java/lang/invoke/VarHandle" ∧ (parseMethodDescriptor y.desc).map (fun d => d.parameters.length) = some n) (hrc : rm'.cells = 0 ∧ rm'.slots = 0) (hR : rm'.frames + 1 ≤ rm.frames ∧ 8 + (maxL + 11) + rm'.locals ≤ rm.locals) (hn : As.length = n) (hst : st = As.reverse ++ .ref (tv_ad c 0) :: rest) (hcat : (rest.map fun v => v.category).sum ≤ 8) (hd : decode cc pc = .ok (.invokevirtual index, 3))
    (kk : ∀ r', tv_V c 79 X (tl_E c s' r' t w) (pc + 3) lv (.long v :: rest)) : tv_V c 79 X (tl_E c s r t w) pc lv st :=
  tl_calll (ad' := tv_ad c) (g := fun k => k) (ci := 7) (T := TX7) (Nf := 7) C (tl_gX c s r t w) (fun _ _ _ _ h => h) 0 hM hgd hw hd2 hrc hR (by omega) rfl rfl hn hst hcat hd (fun q u E1 hq h1 h2 => by
    obtain ⟨rfl, r', rfl⟩ := hP q u hq
    exact tl_ext (tl_eX h1 h2) (kk r'))
theorem tl_Mi {P : Int32 → (Nat → va_E) → Prop} (C : tv_C c 79 X cc own Ts nL rm) (v : Int32) (t' : ts_T) (hM : tv_Mi (tl_m c) 19 y ws rm' (.ref (tv_ad (tl_m c) 0) :: As) (eM (tl_m c) t w) P) (hP : ∀ q u, P q u → q = v ∧ ∃ w', u = eM (tl_m c) t' w') (hgd : GoodIn Ts (wsV own index RX8 y ws)) (hw : ws = Cond.code y bytes maxL ret :: ws') (hd2 : y.cls = RX8 ∧ y.cls ≠ "java/lang/invoke/MethodHandle" ∧ y.cls ≠ "java/lang/invoke/VarHandle" ∧ (parseMethodDescriptor y.desc).map (fun d => d.parameters.length) = some n) (hrc : rm'.cells = 0 ∧ rm'.slots = 0) (hR : rm'.frames + 1 ≤ rm.frames ∧ 8 + (maxL + 11) + rm'.locals ≤ rm.locals) (hn : As.length = n) (hst : st = As.reverse ++ .ref (tv_ad c 60) :: rest) (hcat : (rest.map fun v => v.category).sum ≤ 8) (hd : decode cc pc = .ok (.invokevirtual index, 3))
    (kk : ∀ w', tv_V c 79 X (tl_E c s r t' w') (pc + 3) lv (.int v :: rest)) : tv_V c 79 X (tl_E c s r t w) pc lv st :=
  tl_calli (ad' := fun k => tv_ad c (60 + k)) (g := fun k => 60 + k) (ci := 8) (T := TX8) (Nf := 35) C (tl_gM c s r t w) (fun i j _ _ h => by have h' : 60 + i = 60 + j := h; omega) 0 hM hgd hw hd2 hrc hR (by omega) rfl rfl hn hst hcat hd (fun q u E1 hq h1 h2 => by
    obtain ⟨rfl, w', rfl⟩ := hP q u hq
    exact tl_ext (tl_eM h1 h2) (kk w'))
theorem tl_Ml {P : Int64 → (Nat → va_E) → Prop} (C : tv_C c 79 X cc own Ts nL rm) (v : Int64) (t' : ts_T) (hM : tv_Ml (tl_m c) 19 y ws rm' (.ref (tv_ad (tl_m c) 0) :: As) (eM (tl_m c) t w) P) (hP : ∀ q u, P q u → q = v ∧ ∃ w', u = eM (tl_m c) t' w') (hgd : GoodIn Ts (wsV own index RX8 y ws)) (hw : ws = Cond.code y bytes maxL ret :: ws') (hd2 : y.cls = RX8 ∧ y.cls ≠ "java/lang/invoke/MethodHandle" ∧ y.cls ≠ "java/lang/invoke/VarHandle" ∧ (parseMethodDescriptor y.desc).map (fun d => d.parameters.length) = some n) (hrc : rm'.cells = 0 ∧ rm'.slots = 0) (hR : rm'.frames + 1 ≤ rm.frames ∧ 8 + (maxL + 11) + rm'.locals ≤ rm.locals) (hn : As.length = n) (hst : st = As.reverse ++ .ref (tv_ad c 60) :: rest) (hcat : (rest.map fun v => v.category).sum ≤ 8) (hd : decode cc pc = .ok (.invokevirtual index, 3))
    (kk : ∀ w', tv_V c 79 X (tl_E c s r t' w') (pc + 3) lv (.long v :: rest)) : tv_V c 79 X (tl_E c s r t w) pc lv st :=
  tl_calll (ad' := fun k => tv_ad c (60 + k)) (g := fun k => 60 + k) (ci := 8) (T := TX8) (Nf := 35) C (tl_gM c s r t w) (fun i j _ _ h => by have h' : 60 + i = 60 + j := h; omega) 0 hM hgd hw hd2 hrc hR (by omega) rfl rfl hn hst hcat hd (fun q u E1 hq h1 h2 => by
    obtain ⟨rfl, w', rfl⟩ := hP q u hq
    exact tl_ext (tl_eM h1 h2) (kk w'))
end TLC
