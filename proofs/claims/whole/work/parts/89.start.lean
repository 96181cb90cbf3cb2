/-! THE CLAIM OUT OF ONE WALK OF THE LAW'S BODY. Your part is whole_start (and what it stands on); all else here is the same for every law, but numbers. -/
def R_law : String := "TouchUpLaw"
def lw_P (b : Addr) (xs : List Int32) (args : Array Value) (s : State) : Prop := args = #[.ref b] ∧ s.IntsAt b xs ∧ xs.length ≤ 448 ∧ (Jvm.Cond.and given_1 narrow_1).before args s = true
def lw_Q (_ : Array Value) (s : State) (o : Outcome) (t : State) : Prop := o = .returned (some (.int 1)) ∧ Framed s o t [] 600000 7302249
def lw_Z (below : List Frame) (a : Array Value) (s : State) : State → Prop := fun t => ∃ o, t.status = .running ∧ Ended t below o ∧ lw_Q a s o t
/-- the law's own end, with 1 on the stack, nothing written that was there before, its room as the claim has it -/
theorem lw_ret {p : Program} {l : Launch} {e : Env} {s : State} {m : MethodId} {below : List Frame} {meth : Method} {c : Code} {b : Nat} (hx : p.tables.exec = Jvm.exec) (hb : c.code = code) (hr : meth.sig.returnType = ret) (hlocks : meth.locks = false) {pc : Nat} {H : Heap} {ls : Array Slot} (hdg : decode code pc = .ok (.ireturn, 1)) : W p l e room_1 s m #[Value.ref b] below meth c H [] 600000 7302249 (lw_Z below #[Value.ref b] s) (F0 m pc ls [.int 1]) := by
  intro T hT X
  obtain ⟨fs, hret, hrun, hended, hW, hframe⟩ := X.leave (v := some (.int 1)) (hlocks := hlocks) (fun h => by rw [hr] at h; cases h)
  have hmeth' : T.vm.method? m = some meth := X.method'
  refine ⟨T.setFrames fs, ?_, .returned (some (.int 1)), hrun, hended, rfl, ⟨_, rfl⟩, hW, hframe⟩
  jvm_step X.here [X.here.top, hx, hb, hdg, hmeth', hr, ret, narrow_b1]
  (try refine ⟨rfl, ?_⟩); (try refine ⟨rfl, ?_⟩)
  first | (intro acts; rw [hret _ acts rfl rfl rfl]) | rw [hret _ _ rfl rfl rfl]
  exact Steps.refl _
/-- what holds at the law's entry: the machine, the code, the tables' words (any of lw_tbl by 'hts w (by decide +kernel)'), the script of L ints xs at the cell b, what the Statement gives of the start (any of its parts by flat_of_before) -/
def lw_At (p : Program) (s : State) (m : MethodId) (meth : Method) (c : Code) (b L : Nat) (xs : Nat → Int32) : Prop :=
  p.tables.exec = Jvm.exec ∧ c.code = code ∧ meth.sig.returnType = ret ∧ c.maxLocals = 4 ∧ s.vm.findClass R_law = some m.cls ∧ (∀ w ∈ lw_tbl, w.before #[Value.ref b] s = true) ∧ va_X b L xs s s.heap ∧ b < s.heap.size ∧ meth.locks = false ∧ (Jvm.Cond.and given_1 narrow_1).before #[Value.ref b] s = true
set_option maxHeartbeats 4000000 in
set_option maxRecDepth 100000 in
/-- the law behind its entry -/
theorem law_begin {p : Program} {e : Env} {s : State} {m : MethodId} {below : List Frame} {meth : Method} {c : Code} {cc : tv_c} {b L : Nat} {xs : Nat → Int32} (hx : p.tables.exec = Jvm.exec) (hb : c.code = code) (hr : meth.sig.returnType = ret) (hml : c.maxLocals = 4) (hown : s.vm.findClass R_law = some m.cls) (htl : ∀ w ∈ wsL_law, w.before #[Value.ref b] s = true) (hX : va_X b L xs s s.heap) (hbl : b < s.heap.size) (hlocks : meth.locks = false) (hL : L ≤ 448) (hK : va_K (tv_D cc) vwCl (tv_tys cc) s) (hNN : tg_N s) (hz : tg_hz cc) (e0 : tv_ad cc 0 = s.heap.size + 0) : W p (tv_l cc) e room_1 s m #[Value.ref b] below meth c s.heap [] 0 0 (lw_Z below #[Value.ref b] s) (entryFrame m ([Value.ref b] : List Value).toArray 4) := by
  obtain ⟨X, hXe⟩ : ∃ X : tv_X, X = (p, e, room_1, s, m, #[Value.ref b], below, meth, c, lw_Z below #[Value.ref b] s, tg_A cc, 4, 79, 1116) := ⟨_, rfl⟩
  have C : tg_C cc X cL_law RL wsL_law 4 room_1 := by
    rw [hXe]
    exact ⟨hx, hb, hml, hown, htl, hK, by show tv_ad cc 0 ≤ s.heap.size; omega, hNN, hz, rfl, rfl⟩
  have hA : ∀ q : Nat, s.heap.size ≤ q → tg_A cc q := fun q h => by show tv_ad cc 0 ≤ q; omega
  have hJ : tv_inj 79 (tv_ad (tl_q cc)) := fun i j hi hj h => lq_inj i hi j hj (by
    have h1 : tv_ad cc (lq i) = tv_ad cc (lq j) := h
    have z1 := hz (lq i)
    have z2 := hz (lq j)
    omega)
  have V : tv_C (tl_q cc) 79 X cL_law RL wsL_law 4 room_1 := by
    rw [hXe]
    refine ⟨hx, hb, hml, hown, htl, hK, fun E => ⟨fun i j p q hi hj hpq => ?_, fun k q hk => ?_⟩, hA, hNN.1, hJ, rfl, rfl, (show 79 ≤ 600000 by decide), (show 1116 ≤ 7302249 by decide)⟩
    · obtain ⟨h1, rfl⟩ := tv_wl_some hi
      obtain ⟨h2, rfl⟩ := tv_wl_some hj
      exact hJ i j h1 h2 hpq
    · obtain ⟨h1, rfl⟩ := tv_wl_some hk
      show tv_ad cc 0 ≤ tv_ad cc (lq k)
      have z1 := hz (lq k)
      omega
  have S : tl_S X b L xs := by
    rw [hXe]
    exact ⟨hX, hbl, fun h => by have h1 : tv_ad cc 0 ≤ b := h; omega, hL⟩
  have hR : ∀ E lv, tv_V (tl_q cc) 79 X E 1504 lv [.int 1] := by
    rw [hXe]
    intro E lv H locs hP hS ls hl
    refine va_forget (fun q hq => by have h1 : tv_ad cc 0 ≤ q.base := hS.2.2 q hq; show s.heap.size ≤ q.base; omega) ?_
    refine W.widen (k := 600000) (n := 7302249) (show 79 ≤ 600000 by decide) (show 1116 ≤ 7302249 by decide) ?_
    exact lw_ret hx hb hr hlocks dL_law_1504
  have hV : tg_V cc X 0 0 0 (bE cc) 0 [(0, .ref b)] [] := by
    refine tg_new (ci := 7) (fs := [.null, .null, .null, .null, .null, .int 0, .int 0]) (Cn := RX7) (T := TX7) (Nf := 7) C rfl wl_inX7 tyX7 tyX7_ok wl_clX7 wl_insX7 wl_iniX7 dfX7 rfl (Nat.le_of_ble_eq_true rfl) (Nat.le_of_ble_eq_true rfl) dL_law_0 ?_
    show tg_V cc X 1 7 1 (bE cc) 3 [(0, .ref b)] [.ref (tv_ad cc 0)]
    refine tg_dup C dL_law_3 rfl ?_
    refine tg_call (As := []) (rest := [.ref (tv_ad cc 0)]) C (kX7_init cc) gL_law_X7_init rfl wl_iiX7 wl_mlX7 wl_imX7 rfl yi_X7_init ⟨rfl, rfl⟩ (by decide +kernel) (by decide +kernel) rfl rfl (Nat.le_of_ble_eq_true rfl) dL_law_4 ?_
    show tg_V cc X 60 650 60 (eT cc) 7 [(0, .ref b)] [.ref (tv_ad cc 0)]
    refine tg_astore_n (lv' := [(1, .ref (tv_ad cc 0)), (0, .ref b)]) C dL_law_7 rfl (by decide) rfl ?_
    refine tg_new (ci := 8) (fs := [.int 0, .int 0, .null, .null, .null, .int 0, .int 0, .int 0, .int 0, .int 0, .null, .null, .null, .null, .null, .int 0, .int 0, .int 0, .null, .int 0, .null, .null, .int 0, .null, .null, .int 0, .null, .int 0, .null, .null, .null, .null, .int 0, .int 0, .int 0]) (Cn := RX8) (T := TX8) (Nf := 35) C rfl wl_inX8 tyX8 tyX8_ok wl_clX8 wl_insX8 wl_iniX8 dfX8 rfl (Nat.le_of_ble_eq_true rfl) (Nat.le_of_ble_eq_true rfl) dL_law_8 ?_
    show tg_V cc X 61 685 61 (eT cc) 11 [(1, .ref (tv_ad cc 0)), (0, .ref b)] [.ref (tv_ad cc 60)]
    refine tg_dup C dL_law_11 rfl ?_
    refine tg_call (As := []) (rest := [.ref (tv_ad cc 60)]) (E' := eL cc) (N' := 79) C (kX8_init cc (eT cc) 61 60 (by decide) rfl rfl rfl rfl rfl rfl rfl rfl rfl rfl rfl rfl rfl rfl rfl rfl rfl rfl rfl) gL_law_X8_init rfl wl_iiX8 wl_mlX8 wl_imX8 rfl yi_X8_init ⟨rfl, rfl⟩ (by decide +kernel) (by decide +kernel) rfl rfl (Nat.le_of_ble_eq_true rfl) dL_law_12 ?_
    show tg_V cc X 79 1116 79 (eL cc) 15 [(1, .ref (tv_ad cc 0)), (0, .ref b)] [.ref (tv_ad cc 60)]
    refine tg_astore_n (lv' := [(2, .ref (tv_ad cc 60)), (1, .ref (tv_ad cc 0)), (0, .ref b)]) C dL_law_15 rfl (by decide) rfl ?_
    refine tg_iconst (v := nI 0) C dL_law_16 (by decide) ?_
    refine tg_istore_n (lv' := tl_lv (tl_q cc) b 0) C dL_law_17 rfl (by decide) rfl ?_
    exact tl_go (by rw [hXe]) (by rw [hXe]) (by rw [hXe]) (law_loop V S hR (L + 1) 0 tl_0 tl_0 tl_0 (Nat.zero_le L) (by omega) iv_00)
  have hl := lv_entry ([.ref b]) (n := 4) (Nat.le_of_ble_eq_true rfl)
  rw [lg_entry_eq]
  rw [hXe] at hV
  exact hV s.heap [] (by omega) (fun k q h => by simp [tv_wl] at h) va_S.rf _ hl
set_option maxHeartbeats 4000000 in
set_option maxRecDepth 100000 in
theorem whole_start {p : Program} {e : Env} {s : State} {m : MethodId} {below : List Frame} {meth : Method} {c : Code} (l : Launch) {b L : Nat} {xs : Nat → Int32} (hL : L ≤ 448) (C0 : lw_At p s m meth c b L xs) : W p l e room_1 s m #[Value.ref b] below meth c s.heap [] 0 0 (lw_Z below #[Value.ref b] s) (entryFrame m ([Value.ref b] : List Value).toArray 4) := by
  obtain ⟨hx, hb, hr, hml, hown, hts, hX, hbl, hlocks, hgv⟩ := id C0
  obtain ⟨c0, i0, k0⟩ := u_known (C := RX0) (T := TX0) (N := 5) (n := 5) hts inX0 (hts _ wt_insX0)
  obtain ⟨c1, i1, k1⟩ := u_known (C := RX1) (T := TX1) (N := 2) (n := 2) hts inX1 (hts _ wt_insX1)
  obtain ⟨c2, i2, k2⟩ := u_known (C := RX2) (T := TX2) (N := 3) (n := 3) hts inX2 (hts _ wt_insX2)
  obtain ⟨c3, i3, k3⟩ := u_known (C := RX3) (T := TX3) (N := 7) (n := 7) hts inX3 (hts _ wt_insX3)
  obtain ⟨c4, i4, k4⟩ := u_known (C := RX4) (T := TX4) (N := 5) (n := 5) hts inX4 (hts _ wt_insX4)
  obtain ⟨c5, i5, k5⟩ := u_known (C := RX5) (T := TX5) (N := 4) (n := 4) hts inX5 (hts _ wt_insX5)
  obtain ⟨c6, i6, k6⟩ := u_known (C := RX6) (T := TX6) (N := 11) (n := 11) hts inX6 (hts _ wt_insX6)
  obtain ⟨c7, i7, k7⟩ := u_known (C := RX7) (T := TX7) (N := 7) (n := 7) hts inX7 (hts _ wt_insX7)
  obtain ⟨c8, i8, k8⟩ := u_known (C := RX8) (T := TX8) (N := 35) (n := 35) hts inX8 (hts _ wt_insX8)
  obtain ⟨dC, dI, hKc⟩ : ∃ (dC : Nat → ClassId) (dI : Nat → Nat → Nat), ∀ (k : Nat) (q : vw_C), vwCl[k]? = some q → u_Kn s q.1 q.2.1 q.2.2 (dC k) (dI k) := by
    refine ⟨fun k => match k with | 0 => c0 | 1 => c1 | 2 => c2 | 3 => c3 | 4 => c4 | 5 => c5 | 6 => c6 | 7 => c7 | _ => c8, fun k => match k with | 0 => i0 | 1 => i1 | 2 => i2 | 3 => i3 | 4 => i4 | 5 => i5 | 6 => i6 | 7 => i7 | _ => i8, ?_⟩
    intro k q hq
    match k, hq with
    | 0, hq => cases hq; exact k0
    | 1, hq => cases hq; exact k1
    | 2, hq => cases hq; exact k2
    | 3, hq => cases hq; exact k3
    | 4, hq => cases hq; exact k4
    | 5, hq => cases hq; exact k5
    | 6, hq => cases hq; exact k6
    | 7, hq => cases hq; exact k7
    | 8, hq => cases hq; exact k8
    | k + 9, hq => simp [vwCl] at hq
  obtain ⟨a0, h0⟩ := tl_arr (hts _ wt_aci) (fun _ h => h)
  obtain ⟨a1, h1⟩ := tl_arr (hts _ wt_acz) (fun _ h => h)
  obtain ⟨a2, h2⟩ := tl_arrO (hts _ wt_aoX5)
  obtain ⟨a3, h3⟩ := tl_arrO (hts _ wt_aoX0)
  obtain ⟨a4, h4⟩ := tl_arrO (hts _ wt_aoX1)
  obtain ⟨cc, hcc⟩ : ∃ cc : tv_c, cc = (l, (dC, dI), (fun k => match k with | 0 => a0 | 1 => a1 | 2 => a2 | 3 => a3 | _ => a4), fun k => s.heap.size + k) := ⟨_, rfl⟩
  have el : tv_l cc = l := by rw [hcc]
  have ea : ∀ k, tv_ad cc k = s.heap.size + k := fun k => by rw [hcc]
  have hK : va_K (tv_D cc) vwCl (tv_tys cc) s := by
    rw [hcc]
    refine ⟨hKc, fun k q hq => ?_⟩
    match k, hq with
    | 0, hq => cases hq; exact h0
    | 1, hq => cases hq; exact h1
    | 2, hq => cases hq; exact h2
    | 3, hq => cases hq; exact h3
    | 4, hq => cases hq; exact h4
    | k + 5, hq => simp [tv_tys] at hq
  have hNN : tg_N s := ⟨⟨va_Nw.of rfl (hts _ wt_na), va_Nw.of rfl (hts _ wt_nb)⟩, va_Nw.of rfl (hts _ wt_nc), va_Nw.of rfl (hts _ wt_nd), va_Nw.of rfl (hts _ wt_ne), va_Nw.of rfl (hts _ wt_nf), va_AO.of (hts _ wt_aoX5), va_AO.of (hts _ wt_aoX0), va_AO.of (hts _ wt_aoX1)⟩
  have hz : tg_hz cc := fun k => by rw [ea k, ea 0]; omega
  have htl : ∀ w ∈ wsL_law, w.before #[Value.ref b] s = true := fun w hw => hts w (wsL_law_in w hw)
  rw [← el]
  exact law_begin hx hb hr hml hown htl hX hbl hlocks hL hK hNN hz (ea 0)
set_option maxHeartbeats 4000000 in
theorem lw_walk (l : Launch) (b : Addr) (xs : List Int32) : MetFree l x (headSpec (Jvm.Cond.code x code maxLocals ret :: tables_1) room_1) (lw_P b xs) (fun _ _ _ _ _ => True) lw_Q := by
  refine MetFree.of_bodyS (code := code) (maxLocals := maxLocals) (ret := ret) (by decide) ?_ ?_
  · intro args s m h hn
    obtain ⟨meth, c, h1, h2, h3, h4, h5, h6, -, -⟩ := Cond.code_spec hn (atoms_spec (ws := Jvm.Cond.code x code maxLocals ret :: tables_1) h _ List.mem_cons_self)
    exact ⟨meth, c, h1, h2, h3, h4, h5, h6⟩
  · intro p e s m args below meth c s₁ B hml0 hP _
    obtain ⟨rfl, hx, hbd, hgv⟩ := hP
    obtain ⟨scr, harrAt, hlist, hof, hsmall⟩ := hx
    obtain ⟨hcb, hkn, -, -⟩ := State.arrayAt?_spec harrAt
    have hown : s.vm.findClass R_law = some m.cls := findClass_of_methodNamed B.named
    have hts0 : ∀ c ∈ (Jvm.Cond.code x code maxLocals ret :: tables_1), c.before #[Value.ref b] s = true := atoms_spec (ws := Jvm.Cond.code x code maxLocals ret :: tables_1) B.pre
    have hts : ∀ w ∈ lw_tbl, w.before #[Value.ref b] s = true := k2_hts_sels lw_privs (fun w hw => hts0 w (List.mem_cons_of_mem _ hw)) lw_privs_ok
    have hml : c.maxLocals = 4 := B.maxLocals_eq (hts0 _ List.mem_cons_self)
    have X₀ : Stand p l e room_1 s m #[Value.ref b] below meth c s₁ [] 0 0 := Stand.of_body B
    have hh0 : s₁.heap = s.heap := by rw [B.state]; rfl
    have hsz : scr.slots.size = xs.length := by rw [← Array.length_toList, hlist, List.length_map]
    have hval : ∀ j : Nat, j < xs.length → scr.slots[j]? = some (.int (xs.getD j 0)) := fun j hj => by
      rw [← Array.getElem?_toList, hlist]
      simp [hj]
    have hbl : b < s.heap.size := (Array.getElem?_eq_some_iff.mp hcb).1
    have hX : va_X b xs.length (fun j => xs.getD j 0) s s.heap := ⟨scr, hcb, hof, hkn, hsz, hval⟩
    have K : W p l e room_1 s m #[Value.ref b] below meth c s₁.heap [] 0 0 (lw_Z below #[Value.ref b] s) (entryFrame m ([Value.ref b] : List Value).toArray 4) := by
      rw [hh0]
      exact whole_start l hbd ⟨B.exec, B.bytes, B.returns, hml, hown, hts, hX, hbl, B.notSynchronized, hgv⟩
    obtain ⟨t, a1, o, b1, b2, b3⟩ := K s₁ rfl X₀
    exact ⟨t, o, a1, b1, b2, b3⟩
theorem lw_pre_spec {args : Array Value} {s : State} (h : (Jvm.Cond.and given_1 narrow_1).before args s = true) (hr : rest_1_c.before args s = true) : ∃ (b : Addr) (xs : List Int32), lw_P b xs args s := by
  have hs := flat_of_before _ h
  have hq := flat_of_before _ hr
  have hc : (Cond.count 1).before args s = true := hs _ (by decide +kernel)
  have harr : (Cond.arrayOf (.arg 0) .int).before args s = true := hs _ (by decide +kernel)
  have hle : (Cond.le (.length (.arg 0)) (.int 448)).before args s = true := hs _ (by decide +kernel)
  have hlen : (Cond.isInt (.length (.arg 0))).before args s = true := hq _ (by decide +kernel)
  have hall : (Cond.all (.arg 0) (.isInt (.elem (.arg 0) (.index 0)))).before args s = true := hq _ (by decide +kernel)
  obtain ⟨b, xs, hb, hx⟩ := State.ints_of_pre rfl harr hlen hall
  have hsm : xs.length < 2 ^ 31 := hx.choose_spec.2.2.2
  have hev : (Term.length (.arg 0)).eval args s none [] s = some (.int xs.length.toInt32) := hx.length_eval hb
  have hv := Cond.le_ints hev (show (Term.int 448).eval args s none [] s = some (.int 448) from rfl)
  have hd : xs.length.toInt32 ≤ 448 := by
    simpa [Cond.before, Cond.holds, hv] using hle
  have hN : xs.length ≤ 448 := (Int32.ofNat_le_ofNat hsm (by decide)).mp (show Int32.ofNat xs.length ≤ Int32.ofNat 448 from hd)
  exact ⟨b, xs, Cond.one_arg hc (show args[0]? = some (.ref b) from hb), hx, hN, h⟩
theorem lw_comes (l : Launch) : Comes l x (Jvm.Cond.code x code maxLocals ret :: tables_1) room_1 (fun tb e args s => Calls_1 tb e args s ∧ rest_1 tb e args s ∧ Pre_1 tb e args s)
    (fun _ _ args s o t => lw_Q args s o t) := by
  intro p e ha hc hk s m args below hf hfit hheap happ hpre
  obtain ⟨b, xs, hP⟩ := lw_pre_spec hpre.2.2 hpre.2.1
  obtain ⟨k, o, h1, h2, h3, hQ⟩ := lw_walk l b xs p e ha hc hk s m args below hf ((Spec.applies_iff_loose hf).mp happ).1 hP trivial
  exact ⟨k, o, h1, h2, h3, hQ⟩
theorem lw_frame {s t : State} {o : Outcome} {args : Array Value} (h : Framed s o t [] 600000 7302249) :
    Framed s o t (fieldLocs frame_1_writes args s ++ arrayLocs frame_1_arrays args s ++ staticLocs frame_1_statics s) 600000 7302249 := h
theorem lw_limb (L : Cond) (hL : ∀ (args : Array Value) (s t : State), L.after args s (.returned (some (.int 1))) t = true) :
    ArmFor flags0 classFile x code maxLocals ret World_1 tables_1 room_1 Calls_1 rest_1 Pre_1
      (fun tb e a s o t => postC L tb e a s o t ∧ Framed s o t (fieldLocs frame_1_writes a s ++ arrayLocs frame_1_arrays a s ++ staticLocs frame_1_statics s) 600000 7302249) := by
  intro l _ _ _ p e ha hc hk s m args below hf hfit hheap happ hpre
  obtain ⟨k, o, h1, h2, h3, rfl, hF⟩ := lw_comes l p e ha hc hk s m args below hf hfit hheap happ hpre
  exact ⟨k, _, h1, h2, h3, hL args s _, lw_frame hF⟩
theorem i_vc : Claimed_1_1 ∧ Claimed_1_2 := ⟨lw_limb limb_1_1 (fun args s t => by simp [limb_1_1, Cond.after, Cond.holds, Cond.value]), lw_limb limb_1_2 (fun args s t => Cond.after_iff.mpr (by
  first | (rw [show limb_1_2 = Cond.eq .result (.int 1) from rfl, Cond.eq_ints (x := 1) (y := 1) rfl rfl]; simp; done) | (simp [limb_1_2, Cond.value, Term.eval]; done)))⟩
