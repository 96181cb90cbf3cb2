/-! G: the walk of constructors: the world is all cells from tv_ad c 0 on, in the order in which they are made; E tells also those that are still to come -/
def tg_N (U : State) : Prop := tv_N U ∧ va_Nw (.methodLinkNest RX6 27 yX0_init RX7) U ∧ va_Nw (.methodLinkNest RX6 28 yX1_init RX7) U ∧ va_Nw (.methodLinkNest RX3 17 yX1_init RX7) U ∧ va_Nw (.methodLinkNest RX7 49 yX5_init RX7) U ∧ va_AO RX5 U ∧ va_AO RX0 U ∧ va_AO RX1 U
theorem tg_N.warm {s U : State} (hW : s.WarmedH U.vm) (h : tg_N s) : tg_N U := ⟨h.1.warm hW, va_Nw.warmM hW h.2.1, va_Nw.warmM hW h.2.2.1, va_Nw.warmM hW h.2.2.2.1, va_Nw.warmM hW h.2.2.2.2.1, va_AO.moved hW.alike h.2.2.2.2.2.1, va_AO.moved hW.alike h.2.2.2.2.2.2.1, va_AO.moved hW.alike h.2.2.2.2.2.2.2⟩
theorem tg_N.same {s U : State} (hW : s.vm = U.vm) (h : tg_N s) : tg_N U := by
  have hA : s.vm.Alike U.vm := by rw [← hW]; exact Vm.Alike.refl s.vm
  exact ⟨h.1.same hW, va_Nw.same rfl hW h.2.1, va_Nw.same rfl hW h.2.2.1, va_Nw.same rfl hW h.2.2.2.1, va_Nw.same rfl hW h.2.2.2.2.1, va_AO.moved hA h.2.2.2.2.2.1, va_AO.moved hA h.2.2.2.2.2.2.1, va_AO.moved hA h.2.2.2.2.2.2.2⟩
def tg_hz (c : tv_c) : Prop := ∀ k, tv_ad c k = tv_ad c 0 + k
def tg_A (c : tv_c) : Nat → Prop := fun q => tv_ad c 0 ≤ q
def tg_in (c : tv_c) (N : Nat) (E : Nat → va_E) (U : State) : Prop := U.heap.size = tv_ad c N ∧ va_P (tv_D c) vwCl (tv_wl N (tv_ad c) E) U.heap ∧ va_K (tv_D c) vwCl (tv_tys c) U ∧ tg_N U ∧ tg_hz c
theorem tg_in.blind {c : tv_c} {N : Nat} {E : Nat → va_E} {av : List Value} : FrameBlind (va_Pc av (tg_in c N E)) := by
  intro a U g mk q
  obtain ⟨q0, q1, q2, q3, q4, q5⟩ := q
  exact ⟨q0, q1, q2, va_K.moved (u := U) (U := U.calling g mk a) (Vm.Alike.refl U.vm) q3, tg_N.same (s := U) (U := U.calling g mk a) rfl q4, q5⟩
def tg_out (c : tv_c) (N : Nat) (E : Nat → va_E) (t : State) : Prop := t.heap.size = tv_ad c N ∧ va_P (tv_D c) vwCl (tv_wl N (tv_ad c) E) t.heap
/-- a constructor's contract -/
def tg_M (c : tv_c) (y : MethodName) (ws : List Cond) (rm : Room) (av : List Value) (N : Nat) (E : Nat → va_E) (N' : Nat) (E' : Nat → va_E) (mc ms : Nat) : Prop :=
  Met (tv_l c) y ws rm (va_Pc av (tg_in c N E)) (va_Qv (fun _ : Unit => True) (fun _ t => tg_out c N' E' t) (tg_A c)) mc ms (tg_A c)
def tg_V (c : tv_c) (X : tv_X) (k z N : Nat) (E : Nat → va_E) (pc : Nat) (lv : List (Nat × Value)) (st : List Value) : Prop :=
  ∀ (H : Heap) (locs : List Loc), H.size = tv_ad c N → va_P (tv_D c) vwCl (tv_wl N (tv_ad c) E) H → va_S (tg_A c) (tv_xs X).heap H locs → ∀ ls : Array Slot, lv_has ls (tv_xn X) lv →
    W (tv_xp X) (tv_l c) (tv_xe X) (tv_xR X) (tv_xs X) (tv_xm X) (tv_xa X) (tv_xb X) (tv_xh X) (tv_xc X) H locs k z (tv_xQ X) (F0 (tv_xm X) pc ls st)
def tg_C (c : tv_c) (X : tv_X) (cc : ByteArray) (own : String) (Ts : List Cond) (nL : Nat) (rm : Room) : Prop :=
  (tv_xp X).tables.exec = Jvm.exec ∧ (tv_xc X).code = cc ∧ (tv_xc X).maxLocals = nL ∧ (tv_xs X).vm.findClass own = some (tv_xm X).cls ∧ (∀ w ∈ Ts, w.before (tv_xa X) (tv_xs X) = true) ∧ va_K (tv_D c) vwCl (tv_tys c) (tv_xs X) ∧ tv_ad c 0 ≤ (tv_xs X).heap.size ∧ tg_N (tv_xs X) ∧ tg_hz c ∧ tv_xn X = nL ∧ tv_xR X = rm
theorem tg_D {c : tv_c} (hz : tg_hz c) (N : Nat) (E : Nat → va_E) : va_D (tg_A c) (tv_wl N (tv_ad c) E) := by
  refine ⟨fun i j p q hi hj hpq => ?_, fun k q hk => ?_⟩
  · obtain ⟨h1, rfl⟩ := tv_wl_some hi
    obtain ⟨h2, rfl⟩ := tv_wl_some hj
    have e : tv_ad c i = tv_ad c j := hpq
    have e1 := hz i
    have e2 := hz j
    omega
  · obtain ⟨h1, rfl⟩ := tv_wl_some hk
    show tv_ad c 0 ≤ tv_ad c k
    have e1 := hz k
    omega
theorem tg_wl_s {N : Nat} {ad : Nat → Nat} {E : Nat → va_E} : tv_wl (N + 1) ad E = tv_wl N ad E ++ [(ad N, E N)] := by
  unfold tv_wl
  rw [List.range_succ, List.map_append]
  rfl
theorem tg_push {D : va_G} {N : Nat} {ad : Nat → Nat} {E : Nat → va_E} {H H1 : Heap} (hP : va_P D vwCl (tv_wl N ad E) H) (ho : ∀ q, q < H.size → H1[q]? = H[q]?) (hn : va_at D vwCl (ad N, E N) H1) : va_P D vwCl (tv_wl (N + 1) ad E) H1 := by
  rw [tg_wl_s]
  refine (hP.kept (fun k x hx => ho x.1 ((hP k x hx).lt))).app (fun k x hx => ?_)
  have hz : k < 1 := (List.getElem?_eq_some_iff.mp hx).1
  rw [show k = 0 by omega] at hx
  cases hx
  exact hn
theorem tg_S {A : Nat → Prop} {H0 H H1 : Heap} {locs : List Loc} (hS : va_S A H0 H locs) (z1 : H1.size = H.size + 1) (o1 : ∀ q, q < H.size → H1[q]? = H[q]?) : va_S A H0 H1 locs := ⟨Nat.le_trans hS.1 (by omega), fun x h1 h2 => (o1 x (Nat.lt_of_lt_of_le h1 hS.1)).trans (hS.2.1 x h1 h2), hS.2.2⟩
theorem tg_arr {cA : ClassId} {n : Nat} {f g : Nat → Value} (h : ∀ j, j < n → f j = g j) : arrV cA n f = arrV cA n g := by
  unfold arrV
  congr 2
  funext j
  exact h j.1 j.2
theorem va_up_up {E : Nat → va_E} {k : Nat} {a b : va_E} : va_up (va_up E k a) k b = va_up E k b := by
  funext j
  unfold va_up
  split <;> rfl
theorem va_up_ov {E : Nat → va_E} {k i : Nat} {a b d : va_E} : va_up (va_up (va_up E k a) i b) k d = va_up (va_up E i b) k d := by
  funext j
  unfold va_up
  split
  · rfl
  · split <;> rfl
section TG
variable {c : tv_c} {X : tv_X} {cc : ByteArray} {own : String} {Ts : List Cond} {nL : Nat} {rm : Room} {nc ns N : Nat} {E : Nat → va_E} {pc : Nat} {lv : List (Nat × Value)} {st : List Value}
theorem tg_eqE {E' : Nat → va_E} (h : E = E') (k : tg_V c X nc ns N E' pc lv st) : tg_V c X nc ns N E pc lv st := h ▸ k
theorem tg_iconst (C : tg_C c X cc own Ts nL rm) {n : Int} {v : Int32} (hd : decode cc pc = .ok (.iconst n, 1)) (hv : Int32.ofInt n = v) (k : tg_V c X nc ns N E (pc + 1) lv (.int v :: st)) : tg_V c X nc ns N E pc lv st :=
  fun H locs hH hP hS ls hl => lv_iconst C.1 C.2.1 hd hv (k H locs hH hP hS ls hl)
theorem tg_bipush (C : tg_C c X cc own Ts nL rm) {n : Int} {v : Int32} (hd : decode cc pc = .ok (.bipush n, 2)) (hv : (Int8.ofInt n).toInt32 = v) (k : tg_V c X nc ns N E (pc + 2) lv (.int v :: st)) : tg_V c X nc ns N E pc lv st :=
  fun H locs hH hP hS ls hl => lv_bipush C.1 C.2.1 hd hv (k H locs hH hP hS ls hl)
theorem tg_sipush (C : tg_C c X cc own Ts nL rm) {n : Int} {v : Int32} (hd : decode cc pc = .ok (.sipush n, 3)) (hv : (Int16.ofInt n).toInt32 = v) (k : tg_V c X nc ns N E (pc + 3) lv (.int v :: st)) : tg_V c X nc ns N E pc lv st :=
  fun H locs hH hP hS ls hl => lv_sipush C.1 C.2.1 hd hv (k H locs hH hP hS ls hl)
theorem tg_iload_n (C : tg_C c X cc own Ts nL rm) {k : Fin 4} {i : Nat} {x : Int32} (hd : decode cc pc = .ok (.iload_n k, 1)) (hi : (k : Nat) = i) (n : Nat) (hl : lv[n]? = some (i, .int x)) (kk : tg_V c X nc ns N E (pc + 1) lv (.int x :: st)) : tg_V c X nc ns N E pc lv st :=
  fun H locs hH hP hS ls hl2 => lv_iload_n C.1 C.2.1 hd hi (lv_at hl2 n hl) (kk H locs hH hP hS ls hl2)
theorem tg_aload_n (C : tg_C c X cc own Ts nL rm) {k : Fin 4} {i : Nat} {x : Nat} (hd : decode cc pc = .ok (.aload_n k, 1)) (hi : (k : Nat) = i) (n : Nat) (hl : lv[n]? = some (i, .ref x)) (kk : tg_V c X nc ns N E (pc + 1) lv (.ref x :: st)) : tg_V c X nc ns N E pc lv st :=
  fun H locs hH hP hS ls hl2 => lv_aload_n C.1 C.2.1 hd hi (lv_at hl2 n hl) (kk H locs hH hP hS ls hl2)
theorem tg_istore_n (C : tg_C c X cc own Ts nL rm) {k : Fin 4} {i : Nat} {x : Int32} {lv' : List (Nat × Value)} (hd : decode cc pc = .ok (.istore_n k, 1)) (hi : (k : Nat) = i) (hn : i < nL) (hl : (i, Value.int x) :: lv.filter (fun q => !(q.1 == i) && !(q.1 + 1 == i && q.2.category == 2)) = lv') (kk : tg_V c X nc ns N E (pc + 1) lv' st) : tg_V c X nc ns N E pc lv (.int x :: st) :=
  fun H locs hH hP hS _ hl2 => lv_istore_n C.1 C.2.1 hd hi hl2 (by rw [C.2.2.2.2.2.2.2.2.2.1]; exact hn) hl (fun ls hl3 => kk H locs hH hP hS ls hl3)
theorem tg_astore_n (C : tg_C c X cc own Ts nL rm) {k : Fin 4} {i : Nat} {x : Nat} {lv' : List (Nat × Value)} (hd : decode cc pc = .ok (.astore_n k, 1)) (hi : (k : Nat) = i) (hn : i < nL) (hl : (i, Value.ref x) :: lv.filter (fun q => !(q.1 == i) && !(q.1 + 1 == i && q.2.category == 2)) = lv') (kk : tg_V c X nc ns N E (pc + 1) lv' st) : tg_V c X nc ns N E pc lv (.ref x :: st) :=
  fun H locs hH hP hS _ hl2 => lv_astore_n C.1 C.2.1 hd hi hl2 (by rw [C.2.2.2.2.2.2.2.2.2.1]; exact hn) hl (fun ls hl3 => kk H locs hH hP hS ls hl3)
theorem tg_iinc (C : tg_C c X cc own Ts nL rm) {i : Nat} {n : Int} {x v : Int32} {lv' : List (Nat × Value)} (hd : decode cc pc = .ok (.iinc i n, 3)) (k : Nat) (hk : lv[k]? = some (i, .int x)) (hv : x + Int32.ofInt n = v) (hn : i < nL) (hl : (i, Value.int v) :: lv.filter (fun q => !(q.1 == i) && !(q.1 + 1 == i && q.2.category == 2)) = lv') (kk : tg_V c X nc ns N E (pc + 3) lv' st) : tg_V c X nc ns N E pc lv st :=
  fun H locs hH hP hS _ hl2 => lv_iinc C.1 C.2.1 hd hl2 hk hv (by rw [C.2.2.2.2.2.2.2.2.2.1]; exact hn) hl (fun ls hl3 => kk H locs hH hP hS ls hl3)
theorem tg_dup (C : tg_C c X cc own Ts nL rm) {va : Value} (hd : decode cc pc = .ok (.dup, 1)) (hva : va.category = 1) (k : tg_V c X nc ns N E (pc + 1) lv (va :: va :: st)) : tg_V c X nc ns N E pc lv (va :: st) :=
  fun H locs hH hP hS ls hl => lv_dup C.1 C.2.1 hd hva (k H locs hH hP hS ls hl)
theorem tg_goto (C : tg_C c X cc own Ts nL rm) {off : Int} (tgt : Nat) (hd : decode cc pc = .ok (.goto off, 3)) (ht : (pc : Int) + off = (tgt : Int)) (k : tg_V c X nc ns N E tgt lv st) : tg_V c X nc ns N E pc lv st :=
  fun H locs hH hP hS ls hl => lv_goto C.1 C.2.1 hd ht (k H locs hH hP hS ls hl)
theorem tg_icmp_ge (C : tg_C c X cc own Ts nL rm) {x y : Int32} {off : Int} (tgt : Nat) (hd : decode cc pc = .ok (.if_icmp .ge off, 3)) (ht : (pc : Int) + off = (tgt : Int)) (kt : y ≤ x → tg_V c X nc ns N E tgt lv st) (kf : ¬ y ≤ x → tg_V c X nc ns N E (pc + 3) lv st) : tg_V c X nc ns N E pc lv (.int y :: .int x :: st) :=
  fun H locs hH hP hS ls hl => lv_icmp_ge C.1 C.2.1 hd ht (fun q => kt q H locs hH hP hS ls hl) (fun q => kf q H locs hH hP hS ls hl)
theorem tg_obj (C : tg_C c X cc own Ts nL rm) {index a : Nat} (h1 : Cond.methodLink own index objectInit ∈ Ts) (h2 : Cond.instanceMethod objectInit ∈ Ts) (h3 : Cond.code objectInit ⟨#[0xb1]⟩ 1 none ∈ Ts) (hf : 1 ≤ rm.frames) (hloc : (st.map fun v => v.category).sum + 12 ≤ rm.locals) (hd : decode cc pc = .ok (.invokespecial index, 3)) (kk : tg_V c X nc ns N E (pc + 3) lv st) : tg_V c X nc ns N E pc lv (.ref a :: st) := by
  intro H locs hH hP hS ls hl
  obtain ⟨c1, c2, c3, c4, c5, c6, c7, c8, c9, c10, c11⟩ := C
  exact W.objInit c1 c2 c4 (c5 _ h1) (c5 _ h2) (c5 _ h3) rfl (by show ls.size = _; rw [c3, hl.1, c10]) rfl hd (by rw [c11]; exact hf) (by rw [c11]; show 2 * 0 + (st.map fun v => v.category).sum + 12 ≤ _; omega) (kk H locs hH hP hS ls hl)
theorem tg_get (C : tg_C c X cc own Ts nL rm) (k : Nat) (hk : k < N) {ci : Nat} {fs : List Value} (he : E k = .inr (ci, fs)) {Cn : String} {T : u_T} {Nf index : Nat} (hc : vwCl[ci]? = some (Cn, T, Nf)) (hin : ∀ w ∈ u_ws Cn T Nf, w ∈ Ts) (j : Nat) (hj : j < Nf) (hl : Cond.fieldLink own index (T j).1 (T j).2.1 (T j).2.2.1 ∈ Ts) {v : Value} (hv : fs[j]? = some v) (hd : decode cc pc = .ok (.getfield index, 3)) (kk : tg_V c X nc ns N E (pc + 3) lv (v :: st)) : tg_V c X nc ns N E pc lv (.ref (tv_ad c k) :: st) :=
  fun H locs hH hP hS ls hl2 => va_get (D := tv_D c) C.1 C.2.1 C.2.2.2.2.1 hin C.2.2.2.1 C.2.2.2.2.2.1 hP k ((tv_wl_get hk).trans (by rw [he])) hc j hj (C.2.2.2.2.1 _ hl) (fun _ h9 => h9) hv hd (kk H locs hH hP hS ls hl2)
/-- a final field -/
theorem tg_put (C : tg_C c X cc own Ts nL rm) (hin2 : (tv_xh X).name = "<init>") (k : Nat) (hk : k < N) {ci : Nat} {fs : List Value} (he : E k = .inr (ci, fs)) {Cn : String} {T : u_T} {Nf index : Nat} (hc : vwCl[ci]? = some (Cn, T, Nf)) (hin : ∀ w ∈ u_ws Cn T Nf, w ∈ Ts) (ty0 : Nat → FieldType) (hty : ∀ k, k < Nf → parseFieldDescriptor (T k).2.2.1 = some (ty0 k)) (hnm : ∀ a, a < Nf → ∀ b, b < Nf → a ≠ b → (T a).2.1 ≠ (T b).2.1) (j : Nat) (hj : j < Nf) (hl : Cond.fieldLink own index (T j).1 (T j).2.1 (T j).2.2.1 ∈ Ts) (hfin : (T j).2.2.2 = true) (hdecl : (T j).1 = own) {ty : FieldType} {v : Value} (hty2 : parseFieldDescriptor (T j).2.2.1 = some ty) (hn : narrow ty v = v) (hfit : fits ty v = true) (hlen : j < fs.length) {E' : Nat → va_E} (hE : va_up E k (.inr (ci, fs.set j v)) = E') (hd : decode cc pc = .ok (.putfield index, 3)) (kk : tg_V c X nc ns N E' (pc + 3) lv st) : tg_V c X nc ns N E pc lv (v :: .ref (tv_ad c k) :: st) := by
  intro H locs hH hP hS0 ls hl2
  obtain ⟨c1, c2, c3, c4, c5, c6, c7, c8, c9, c10, c11⟩ := C
  have hD := tg_D c9 N E
  have hg : (tv_wl N (tv_ad c) E)[k]? = some (tv_ad c k, .inr (ci, fs)) := (tv_wl_get hk).trans (by rw [he])
  have hap := va_apart (own := own) c5 hin ty0 hty hnm c6 hc
  obtain ⟨r, h1, cell, q1, q2, q3, q4⟩ := hP k _ hg
  have hr : r = (Cn, T, Nf) := Option.some.inj (h1.symm.trans hc)
  subst hr
  obtain ⟨hS, hfc, kC, hkC, hkind⟩ := c6.1 ci _ hc
  obtain ⟨cf, kf, fi, f, hi, hsl⟩ := hS j hj
  have hlay := c5 _ (hin _ (u_in_lay hj))
  unfold u_lay at hlay
  rw [if_pos hfin] at hlay
  have hst := (u_facts hfc hkC (u_lays c5 hin hj) hi).1
  have hcf : (tv_xm X).cls = cf := by
    obtain ⟨_, _, c', _, _, _, -, -, hf', -, -, -, hown2, -⟩ := Cond.laysFinal_spec hlay
    have e1 : c' = cf := by have := hi.symm.trans hf'; simp at this; exact this.1.symm
    rw [hdecl] at hown2
    rw [← e1]; exact Option.some.inj (c4.symm.trans hown2)
  have h6 := u_fits hfc hkC hkind (Or.inr hlay) hi hty2 hn hfit
  refine W.putFinK c1 c2 c4 (c5 _ hl) hi hst hcf hin2 (by rw [q2]; exact h6) q1 q3 (by rw [hsl]; exact k2_hasslot (q4 j hj)) rfl rfl hd fun H' e1 e2 e3 => ?_
  rw [hsl] at e1 ⊢
  refine kk H' _ (e2.trans hH) ?_ (hS0.put e2 e3 (hD.2 k _ hg)) ls hl2
  rw [← hE, ← tv_wl_set]
  exact hP.set hD hg ⟨_, hc, t_OB.to (V := updV (vp_V fs) j v) ⟨_, e1, q2, q3, t_set q4 hap hj v⟩ (fun i _ => vp_updV_set hlen v i)⟩ e3
theorem tg_new (C : tg_C c X cc own Ts nL rm) {ci : Nat} {fs : List Value} {Cn : String} {T : u_T} {Nf index : Nat} (hc : vwCl[ci]? = some (Cn, T, Nf)) (hin : ∀ w ∈ u_ws Cn T Nf, w ∈ Ts) (ty : Nat → FieldType) (hty : ∀ k, k < Nf → parseFieldDescriptor (T k).2.2.1 = some (ty k)) (h1 : Cond.classLink own index Cn ∈ Ts) (h2 : Cond.instantiable Cn Nf ∈ Ts) (h3 : Cond.initialized Cn ∈ Ts) (hfs : ∀ j, j < Nf → defaultValue (ty j) = vp_V fs j) (hE : E N = .inr (ci, fs)) (hk : nc + 1 ≤ rm.cells) (hs : ns + Nf ≤ rm.slots) (hd : decode cc pc = .ok (.new index, 3)) (kk : tg_V c X (nc + 1) (ns + Nf) (N + 1) E (pc + 3) lv (.ref (tv_ad c N) :: st)) : tg_V c X nc ns N E pc lv st := by
  intro H locs hH hP hS ls hl
  obtain ⟨c1, c2, c3, c4, c5, c6, c7, c8, c9, c10, c11⟩ := C
  have hKn := c6.1 ci _ hc
  refine W.newcK c1 c2 c4 (c5 _ h1) (c5 _ h2) (c5 _ h3) rfl hd (by rw [c11]; exact hk) (by rw [c11]; exact hs) hKn.2.1 hH fun H1 kC hkC e1 z1 o1 => ?_
  have o2 : ∀ q, q < H.size → H1[q]? = H[q]? := fun q hq => o1 q (Nat.lt_of_lt_of_eq hq hH)
  refine kk H1 locs (by have a1 := c9 N; have a2 := c9 (N + 1); omega) (tg_push hP o2 ?_) (tg_S hS (by omega) o2) ls hl
  rw [hE]
  exact ⟨_, hc, (u_born ty c5 hin hKn hkC e1 hty).to hfs⟩
theorem tg_newi (C : tg_C c X cc own Ts nL rm) {n : Int32} {M : Nat} {f : Nat → Int32} (hw : Cond.arrayClass .int ∈ Ts) (hn : n = nI M) (hM : M ≤ 1000) (hE : E N = .inl (tv_kk c 0, M, .inl f)) (hf : ∀ j, j < M → f j = 0) (hk : nc + 1 ≤ rm.cells) (hs : ns + M ≤ rm.slots) (hd : decode cc pc = .ok (.newarray .int, 2)) (kk : tg_V c X (nc + 1) (ns + M) (N + 1) E (pc + 2) lv (.ref (tv_ad c N) :: st)) : tg_V c X nc ns N E pc lv (.int n :: st) := by
  intro H locs hH hP hS ls hl
  obtain ⟨c1, c2, c3, c4, c5, c6, c7, c8, c9, c10, c11⟩ := C
  subst hn
  refine va_newaK (atype := .int) c1 c2 (c5 _ hw) rfl hd rfl (nI_pos (by omega)) (nI_clamp (by omega)) (Nat.le_trans (Nat.mul_le_mul_right _ hM) (by decide)) (by rw [c11]; exact hk) (by rw [c11]; exact hs) hH fun H1 cA e1 z1 o1 hAr hNm => ?_
  have hcA : cA = tv_kk c 0 := Option.some.inj (hNm.symm.trans (c6.2 0 _ rfl).2)
  subst hcA
  have o2 : ∀ q, q < H.size → H1[q]? = H[q]? := fun q hq => o1 q (Nat.lt_of_lt_of_eq hq hH)
  refine kk H1 locs (by have a1 := c9 N; have a2 := c9 (N + 1); omega) (tg_push hP o2 ?_) (tg_S hS (by omega) o2) ls hl
  rw [hE]
  show H1[tv_ad c N]? = some (vp_cell _ _)
  rw [vp_cell_i, e1]
  exact congrArg some (tg_arr (fun j hj => by rw [hf j hj]; rfl))
theorem tg_newz (C : tg_C c X cc own Ts nL rm) {n : Int32} {M : Nat} {f : Nat → Int32} (hw : Cond.arrayClass .boolean ∈ Ts) (hn : n = nI M) (hM : M ≤ 1000) (hE : E N = .inl (tv_kk c 1, M, .inl f)) (hf : ∀ j, j < M → f j = 0) (hk : nc + 1 ≤ rm.cells) (hs : ns + M ≤ rm.slots) (hd : decode cc pc = .ok (.newarray .boolean, 2)) (kk : tg_V c X (nc + 1) (ns + M) (N + 1) E (pc + 2) lv (.ref (tv_ad c N) :: st)) : tg_V c X nc ns N E pc lv (.int n :: st) := by
  intro H locs hH hP hS ls hl
  obtain ⟨c1, c2, c3, c4, c5, c6, c7, c8, c9, c10, c11⟩ := C
  subst hn
  refine va_newaK (atype := .boolean) c1 c2 (c5 _ hw) rfl hd rfl (nI_pos (by omega)) (nI_clamp (by omega)) (Nat.le_trans (Nat.mul_le_mul_right _ hM) (by decide)) (by rw [c11]; exact hk) (by rw [c11]; exact hs) hH fun H1 cA e1 z1 o1 hAr hNm => ?_
  have hcA : cA = tv_kk c 1 := Option.some.inj (hNm.symm.trans (c6.2 1 _ rfl).2)
  subst hcA
  have o2 : ∀ q, q < H.size → H1[q]? = H[q]? := fun q hq => o1 q (Nat.lt_of_lt_of_eq hq hH)
  refine kk H1 locs (by have a1 := c9 N; have a2 := c9 (N + 1); omega) (tg_push hP o2 ?_) (tg_S hS (by omega) o2) ls hl
  rw [hE]
  show H1[tv_ad c N]? = some (vp_cell _ _)
  rw [vp_cell_i, e1]
  exact congrArg some (tg_arr (fun j hj => by rw [hf j hj]; rfl))
theorem tg_newq (C : tg_C c X cc own Ts nL rm) {n : Int32} {M : Nat} {f : Nat → Option Nat} {Cn : String} {index : Nat} {cA0 : ClassId} (t0 : Nat) (ht : (tv_tys c)[t0]? = some (cA0, .object Cn)) (hao : va_AO Cn (tv_xs X)) (h1 : Cond.classLink own index Cn ∈ Ts) (hn : n = nI M) (hM : M ≤ 1000) (hE : E N = .inl (cA0, M, .inr (.inr (.inr (.inr f))))) (hf : ∀ j, j < M → f j = none) (hk : nc + 1 ≤ rm.cells) (hs : ns + M ≤ rm.slots) (hd : decode cc pc = .ok (.anewarray index, 3)) (kk : tg_V c X (nc + 1) (ns + M) (N + 1) E (pc + 3) lv (.ref (tv_ad c N) :: st)) : tg_V c X nc ns N E pc lv (.int n :: st) := by
  intro H locs hH hP hS ls hl
  obtain ⟨c1, c2, c3, c4, c5, c6, c7, c8, c9, c10, c11⟩ := C
  subst hn
  have en : (nI M).toNatClampNeg = M := nI_clamp (by omega)
  refine W.anew c1 c2 c4 (c5 _ h1) (va_AO.use hao) rfl hd rfl (nI_pos (by omega)) (by rw [en]; omega) (by rw [c11]; exact hk) (by rw [c11, en]; exact hs) fun cA kA comp f1 f2 f3 f4 => ?_
  obtain ⟨_, _, _, _, _, g4⟩ := (c6.2 t0 _ ht).2
  have hcA : cA = cA0 := Option.some.inj (f1.symm.trans g4)
  subst hcA
  rw [en]
  generalize hH1 : H.push ({ cls := cA, slots := Array.replicate M .null, vm := .none } : Cell) = H1
  have z1 : H1.size = H.size + 1 := by rw [← hH1, Array.size_push]
  have e1 : H1[H.size]? = some (arrV cA M (fun _ => .null)) := by rw [← hH1, Array.getElem?_push_size, ← arrV_new]
  have o2 : ∀ q : Nat, q < H.size → H1[q]? = H[q]? := fun q hq => by rw [← hH1, Array.getElem?_push, if_neg (Nat.ne_of_lt hq)]
  rw [hH] at e1 ⊢
  refine kk H1 locs (by have a1 := c9 N; have a2 := c9 (N + 1); omega) (tg_push hP o2 ?_) (tg_S hS (by omega) o2) ls hl
  rw [hE]
  show H1[tv_ad c N]? = some (vp_cell _ _)
  rw [vp_cell_q, e1]
  exact congrArg some (tg_arr (fun j hj => by rw [hf j hj]; rfl))
theorem tg_iast (C : tg_C c X cc own Ts nL rm) (k : Nat) (hk : k < N) {n : Nat} {f : Nat → Int32} (he : E k = .inl (tv_kk c 0, n, .inl f)) {i x : Int32} (j : Nat) (hi : i = nI j) (hj : j < n) (hn : n < 2 ^ 31) {E' : Nat → va_E} (hE : va_up E k (.inl (tv_kk c 0, n, .inl (upd f j x))) = E') (hd : decode cc pc = .ok (.iastore, 1)) (kk : tg_V c X nc ns N E' (pc + 1) lv st) : tg_V c X nc ns N E pc lv (.int x :: .int i :: .ref (tv_ad c k) :: st) := by
  intro H locs hH hP hS ls hl
  obtain ⟨c1, c2, c3, c4, c5, c6, c7, c8, c9, c10, c11⟩ := C
  subst hi
  have en : (nI j).toNatClampNeg = j := nI_clamp (Nat.lt_trans hj hn)
  have hD := tg_D c9 N E
  have hg : (tv_wl N (tv_ad c) E)[k]? = some (tv_ad c k, .inl (tv_kk c 0, n, .inl f)) := (tv_wl_get hk).trans (by rw [he])
  refine W.iast c1 c2 (hP k _ hg) ((c6.2 0 _ rfl).1 n (fun j => .int (f j))) (fun q => by cases q) (by show ¬ (nI j < 0 ∨ (arrV _ _ _).slots.size ≤ _); rw [arrV_size]; exact vp_in_nI hj hn) rfl rfl hd fun H1 e z oq => ?_
  refine kk H1 _ (z.trans hH) ?_ (hS.put z oq (hD.2 k _ hg)) ls hl
  rw [← hE, ← tv_wl_set]
  refine hP.set hD hg ?_ oq
  show H1[tv_ad c k]? = some (vp_cell _ _)
  rw [e, vp_cell_i, vp_cell_i, arrV_store, en]
  congr 2
  funext q
  by_cases hq : q = j
  · subst hq
    simp [updV, upd]
  · simp [updV, upd, hq]
theorem tg_aast (C : tg_C c X cc own Ts nL rm) (k : Nat) (hk : k < N) {n : Nat} {f : Nat → Option Nat} {cA : ClassId} (he : E k = .inl (cA, n, .inr (.inr (.inr (.inr f))))) (t0 : Nat) {r : vw_C} (ht : (tv_tys c)[t0]? = some (cA, .object r.1)) (kv : Nat) (hkv : kv < N) {ci : Nat} {vs : List Value} (hv : E kv = .inr (ci, vs)) (hc : vwCl[ci]? = some r) {i : Int32} (j : Nat) (hi : i = nI j) (hj : j < n) (hn : n < 2 ^ 31) {E' : Nat → va_E} (hE : va_up E k (.inl (cA, n, .inr (.inr (.inr (.inr (va_up f j (some (tv_ad c kv)))))))) = E') (hd : decode cc pc = .ok (.aastore, 1)) (kk : tg_V c X nc ns N E' (pc + 1) lv st) : tg_V c X nc ns N E pc lv (.ref (tv_ad c kv) :: .int i :: .ref (tv_ad c k) :: st) := by
  intro H locs hH hP hS ls hl
  obtain ⟨c1, c2, c3, c4, c5, c6, c7, c8, c9, c10, c11⟩ := C
  subst hi
  have en : (nI j).toNatClampNeg = j := nI_clamp (Nat.lt_trans hj hn)
  have hD := tg_D c9 N E
  have hg : (tv_wl N (tv_ad c) E)[k]? = some (tv_ad c k, .inl (cA, n, .inr (.inr (.inr (.inr f))))) := (tv_wl_get hk).trans (by rw [he])
  have hg2 : (tv_wl N (tv_ad c) E)[kv]? = some (tv_ad c kv, .inr (ci, vs)) := (tv_wl_get hkv).trans (by rw [hv])
  obtain ⟨r', hr', cellV, g1, g2, g3, -⟩ := hP kv _ hg2
  have hcls := (c6.1 ci r hc).2
  obtain ⟨kA, comp, k1, k2, k3, -⟩ := (c6.2 t0 _ ht).2
  have hcomp : comp = (tv_D c).1 ci := Option.some.inj (k3.symm.trans hcls.1)
  subst hcomp
  obtain ⟨kC, hkC, -⟩ := hcls.2
  refine W.aast c1 c2 (hP k _ hg) (fun q h => by cases h) (fun h => by cases h) k1 k2 rfl hkC ⟨nI_pos (Nat.lt_trans hj hn), by show _ < (arrV _ _ _).slots.size; rw [arrV_size, en]; exact hj⟩ g1 (fun q h => by rw [g3] at h; cases h) (by rw [g2]; exact hkC) (by rw [g2]; exact va_assign hcls) rfl rfl hd fun H1 e z oq => ?_
  refine kk H1 _ (z.trans hH) ?_ (hS.put z oq (hD.2 k _ hg)) ls hl
  rw [← hE, ← tv_wl_set]
  refine hP.set hD hg ?_ oq
  show H1[tv_ad c k]? = some (vp_cell _ _)
  rw [e, vp_cell_q, vp_cell_q, arrV_store, en]
  congr 2
  funext q
  by_cases hq : q = j
  · subst hq
    simp [updV, va_up, va_rf]
  · simp [updV, va_up, hq]
theorem tg_pre {H : Heap} (C : tg_C c X cc own Ts nL rm) (hH : H.size = tv_ad c N) (hP : va_P (tv_D c) vwCl (tv_wl N (tv_ad c) E) H) (U : State) (hU : U.heap = H) (hW : (tv_xs X).WarmedH U.vm) : tg_in c N E U := by
  obtain ⟨c1, c2, c3, c4, c5, c6, c7, c8, c9, c10, c11⟩ := C
  exact ⟨by rw [hU]; exact hH, by rw [hU]; exact hP, va_K.moved hW.alike c6, c8.warm hW, c9⟩
theorem tg_call {y : MethodName} {ws ws' : List Cond} {rm' : Room} {bytes : ByteArray} {maxL n index mc ms N' : Nat} {As rest : List Value} {a : Nat} {E' : Nat → va_E} (C : tg_C c X cc own Ts nL rm) (hM : tg_M c y ws rm' (.ref a :: As) N E N' E' mc ms) (hg : GoodIn Ts ws) (hw : ws = Cond.code y bytes maxL none :: ws') (h1 : Cond.initialized y.cls ∈ Ts) (h2 : Cond.methodLink own index y ∈ Ts) (h3 : Cond.instanceMethod y ∈ Ts) (hy : y.name = "<init>") (hd2 : y.cls ≠ "java/lang/invoke/MethodHandle" ∧ y.cls ≠ "java/lang/invoke/VarHandle" ∧ (parseMethodDescriptor y.desc).map (fun d => d.parameters.length) = some n) (hrc : rm'.cells = mc ∧ rm'.slots = ms) (hR : rm'.frames + 1 ≤ rm.frames ∧ 8 + (maxL + 11) + rm'.locals ≤ rm.locals) (hR2 : nc + mc ≤ rm.cells ∧ ns + ms ≤ rm.slots) (hn : As.length = n) (hst : st = As.reverse ++ .ref a :: rest) (hcat : (rest.map fun v => v.category).sum ≤ 8) (hd : decode cc pc = .ok (.invokespecial index, 3)) (kk : tg_V c X (nc + mc) (ns + ms) N' E' (pc + 3) lv rest) : tg_V c X nc ns N E pc lv st := by
  intro H locs hH hP hS ls hl2
  subst hst
  have C0 := C
  obtain ⟨c1, c2, c3, c4, c5, c6, c7, c8, c9, c10, c11⟩ := C
  refine va_callv (va_runI (As := As) (rest := rest) ⟨c1, c2, c3, c4, c5⟩ hM (cwI n c5 hg hw hrc.1 hrc.2 (c5 _ h1) (c5 _ h2) (c5 _ h3) hy hd2 (by rw [c11]; exact hR)) ⟨tg_in.blind, fun U hU hW => ⟨rfl, tg_pre C0 hH hP U hU hW⟩⟩ rfl hn (hl2.1.trans c10) rfl (lv_room hcat) hd (by rw [c11]; exact hR2)) hS (fun q _ h => h) (fun q h => h) (fun u t H1 locs1 ht hvm hw hB hz1 hk1 hS1 => ?_)
  exact kk H1 locs1 (by rw [← ht]; exact hB.1) (by rw [← ht]; exact hB.2) hS1 ls hl2
theorem tg_callN {y : MethodName} {ws ws' : List Cond} {rm' : Room} {bytes : ByteArray} {maxL n index mc ms N' : Nat} {host : String} {As rest : List Value} {a : Nat} {E' : Nat → va_E} (C : tg_C c X cc own Ts nL rm) (hM : tg_M c y ws rm' (.ref a :: As) N E N' E' mc ms) (hg : GoodIn Ts ws) (hw : ws = Cond.code y bytes maxL none :: ws') (h1 : Cond.initialized y.cls ∈ Ts) (h2 : tg_N (tv_xs X) → va_Nw (.methodLinkNest own index y host) (tv_xs X)) (h3 : Cond.instanceMethod y ∈ Ts) (hy : y.name = "<init>") (hd2 : y.cls ≠ "java/lang/invoke/MethodHandle" ∧ y.cls ≠ "java/lang/invoke/VarHandle" ∧ (parseMethodDescriptor y.desc).map (fun d => d.parameters.length) = some n) (hrc : rm'.cells = mc ∧ rm'.slots = ms) (hR : rm'.frames + 1 ≤ rm.frames ∧ 8 + (maxL + 11) + rm'.locals ≤ rm.locals) (hR2 : nc + mc ≤ rm.cells ∧ ns + ms ≤ rm.slots) (hn : As.length = n) (hst : st = As.reverse ++ .ref a :: rest) (hcat : (rest.map fun v => v.category).sum ≤ 8) (hd : decode cc pc = .ok (.invokespecial index, 3)) (kk : tg_V c X (nc + mc) (ns + ms) N' E' (pc + 3) lv rest) : tg_V c X nc ns N E pc lv st := by
  intro H locs hH hP hS ls hl2
  subst hst
  have C0 := C
  obtain ⟨c1, c2, c3, c4, c5, c6, c7, c8, c9, c10, c11⟩ := C
  refine va_callv (va_runIN (As := As) (rest := rest) ⟨c1, c2, c3, c4, c5⟩ hM ⟨va_cnB n c5 hg hw hrc.1 hrc.2 (h2 c8) (c5 _ h1) hd2 (by rw [c11]; exact hR), hy, c5 _ h3⟩ ⟨tg_in.blind, fun U hU hW => ⟨rfl, tg_pre C0 hH hP U hU hW⟩⟩ rfl hn (hl2.1.trans c10) rfl (lv_room hcat) hd (by rw [c11]; exact hR2)) hS (fun q _ h => h) (fun q h => h) (fun u t H1 locs1 ht hvm hw hB hz1 hk1 hS1 => ?_)
  exact kk H1 locs1 (by rw [← ht]; exact hB.1) (by rw [← ht]; exact hB.2) hS1 ls hl2
end TG
def tg_R (c : tv_c) (X : tv_X) (cc : ByteArray) (N : Nat) (E : Nat → va_E) (mc ms : Nat) : Prop := ∀ (pc : Nat) (lv : List (Nat × Value)), decode cc pc = .ok (.return_, 1) → tg_V c X mc ms N E pc lv []
/-- a constructor's contract out of its walk -/
theorem tg_met {c : tv_c} {y : MethodName} {ws ws' : List Cond} {rm : Room} {cc : ByteArray} {maxL : Nat} {own : String} {av : List Value} {N N' : Nat} {E E' : Nat → va_E} {mc ms : Nat} (hy : plainName y.cls = true) (hw : ws = Cond.code y cc maxL none :: ws') (hown : y.cls = own) (hnm : y.name = "<init>") (hloc : (lg_sl av).length ≤ maxL) (body : ∀ X : tv_X, tg_C c X cc own ws maxL rm → (tv_xh X).name = "<init>" → tg_R c X cc N' E' mc ms → tg_V c X 0 0 N E 0 (lv_args 0 av) []) : tg_M c y ws rm av N E N' E' mc ms := by
  refine Met.ofW (cc := cc) (maxL := maxL) (ret := none) hy hw ?_
  intro p e s m args below meth c' s₁ B hml hv
  obtain ⟨rfl, hsz, hP, hK, hN, hz⟩ := hv
  have hin : meth.name = "<init>" := (name_of_methodNamed B.named B.method).1.trans hnm
  have hb := body (p, e, rm, s, m, av.toArray, below, meth, c', MQ below (va_Qv (fun _ : Unit => True) (fun _ t => tg_out c N' E' t) (tg_A c)) av.toArray s mc ms (tg_A c), tg_A c, maxL, 0, 0)
    ⟨B.exec, B.bytes, hml, hown ▸ findClass_of_methodNamed B.named, atoms_spec (ws := ws) B.pre, hK, by show tv_ad c 0 ≤ s.heap.size; rw [hsz, hz N]; omega, hN, hz, rfl, rfl⟩ hin
    (fun pc lv hd H locs hH hP hS ls hl => W.vret B.exec B.bytes B.returns (fun t ht hW => ⟨⟨(), rfl, trivial, by rw [ht]; exact hH, by rw [ht]; exact hP⟩, hS.F ht⟩) hS.2.2 hd (hlocks := B.notSynchronized))
    s.heap [] hsz hP va_S.rf _ (lv_entry av (n := maxL) hloc)
  rw [lg_entry_eq]
  exact hb
