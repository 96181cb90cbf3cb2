/-! V: the walk over a world of N cells at fixed places (tv_ad c k), its contents a function E; all that the kit's rows want beside is kept in tv_C -/
abbrev tv_c : Type := Launch × va_G × (Nat → ClassId) × (Nat → Nat)
abbrev tv_ad (c : tv_c) : Nat → Nat := c.2.2.2
abbrev tv_kk (c : tv_c) : Nat → ClassId := c.2.2.1
abbrev tv_D (c : tv_c) : va_G := c.2.1
abbrev tv_l (c : tv_c) : Launch := c.1
abbrev tv_X : Type := Program × Env × Room × State × MethodId × Array Value × List Frame × Method × Code × (State → Prop) × (Nat → Prop) × Nat × Nat × Nat
abbrev tv_xp (X : tv_X) : Program := X.1
abbrev tv_xe (X : tv_X) : Env := X.2.1
abbrev tv_xR (X : tv_X) : Room := X.2.2.1
abbrev tv_xs (X : tv_X) : State := X.2.2.2.1
abbrev tv_xm (X : tv_X) : MethodId := X.2.2.2.2.1
abbrev tv_xa (X : tv_X) : Array Value := X.2.2.2.2.2.1
abbrev tv_xb (X : tv_X) : List Frame := X.2.2.2.2.2.2.1
abbrev tv_xh (X : tv_X) : Method := X.2.2.2.2.2.2.2.1
abbrev tv_xc (X : tv_X) : Code := X.2.2.2.2.2.2.2.2.1
abbrev tv_xQ (X : tv_X) : State → Prop := X.2.2.2.2.2.2.2.2.2.1
abbrev tv_xA (X : tv_X) : Nat → Prop := X.2.2.2.2.2.2.2.2.2.2.1
abbrev tv_xn (X : tv_X) : Nat := X.2.2.2.2.2.2.2.2.2.2.2.1
abbrev tv_xk (X : tv_X) : Nat := X.2.2.2.2.2.2.2.2.2.2.2.2.1
abbrev tv_xz (X : tv_X) : Nat := X.2.2.2.2.2.2.2.2.2.2.2.2.2
/-- the array classes: ints, booleans, and the three of objects -/
def tv_tys (c : tv_c) : List (ClassId × FieldType) := [(tv_kk c 0, .int), (tv_kk c 1, .boolean), (tv_kk c 2, .object RX5), (tv_kk c 3, .object RX0), (tv_kk c 4, .object RX1)]
def tv_wl (N : Nat) (ad : Nat → Nat) (E : Nat → va_E) : va_W := (List.range N).map (fun k => (ad k, E k))
theorem tv_wl_get {N : Nat} {ad : Nat → Nat} {E : Nat → va_E} {k : Nat} (h : k < N) : (tv_wl N ad E)[k]? = some (ad k, E k) := by
  unfold tv_wl
  rw [List.getElem?_map, List.getElem?_range h]
  rfl
theorem tv_wl_some {N : Nat} {ad : Nat → Nat} {E : Nat → va_E} {k : Nat} {q : Nat × va_E} (h : (tv_wl N ad E)[k]? = some q) : k < N ∧ q = (ad k, E k) := by
  have hk : k < N := by
    have h1 := (List.getElem?_eq_some_iff.mp h).1
    simpa [tv_wl] using h1
  rw [tv_wl_get hk] at h
  exact ⟨hk, (Option.some.inj h).symm⟩
theorem tv_wl_set {N : Nat} {ad : Nat → Nat} {E : Nat → va_E} {k : Nat} {e : va_E} : (tv_wl N ad E).set k (ad k, e) = tv_wl N ad (va_up E k e) := by
  apply List.ext_getElem?
  intro j
  by_cases hj : j < N
  · rw [tv_wl_get hj]
    by_cases hk : k = j
    · subst hk
      rw [List.getElem?_set_self (by simpa [tv_wl] using hj)]
      simp [va_up]
    · rw [List.getElem?_set_ne hk, tv_wl_get hj]
      simp [va_up, Ne.symm hk]
  · rw [List.getElem?_eq_none (by simp [tv_wl]; omega), List.getElem?_eq_none (by simp [tv_wl]; omega)]
/-- which cells a method may change: the world's, and new ones -/
def tv_AA (N : Nat) (ad : Nat → Nat) (sz : Nat) : Nat → Prop := fun q => (∃ k, k < N ∧ q = ad k) ∨ sz ≤ q
/-- the links among nest mates that some methods use -/
def tv_N (U : State) : Prop := va_Nw (.methodLinkNest RX3 32 yX7_isWithin RX7) U ∧ va_Nw (.methodLinkNest RX5 40 yX7_isWithin RX7) U
theorem tv_N.warm {s U : State} (hW : s.WarmedH U.vm) (h : tv_N s) : tv_N U := ⟨va_Nw.warmM hW h.1, va_Nw.warmM hW h.2⟩
theorem tv_N.same {s U : State} (hW : s.vm = U.vm) (h : tv_N s) : tv_N U := ⟨va_Nw.same rfl hW h.1, va_Nw.same rfl hW h.2⟩
def tv_inj (N : Nat) (ad : Nat → Nat) : Prop := ∀ i j, i < N → j < N → ad i = ad j → i = j
/-- a method's start, but for its arguments -/
def tv_in (c : tv_c) (N : Nat) (E : Nat → va_E) (sz : Nat) (U : State) : Prop := U.heap.size = sz ∧ va_P (tv_D c) vwCl (tv_wl N (tv_ad c) E) U.heap ∧ va_K (tv_D c) vwCl (tv_tys c) U ∧ tv_N U ∧ tv_inj N (tv_ad c)
def tv_out (c : tv_c) (N : Nat) (u : Nat → va_E) (t : State) : Prop := va_P (tv_D c) vwCl (tv_wl N (tv_ad c) u) t.heap
theorem tv_in.blind {c : tv_c} {N : Nat} {E : Nat → va_E} {sz : Nat} {av : List Value} : FrameBlind (va_Pc av (tv_in c N E sz)) := by
  intro a U g mk q
  obtain ⟨q0, q1, q2, q3, q4, q5⟩ := q
  exact ⟨q0, q1, q2, va_K.moved (u := U) (U := U.calling g mk a) (Vm.Alike.refl U.vm) q3, tv_N.same (s := U) (U := U.calling g mk a) rfl q4, q5⟩
/-- contracts: an int, a long, nothing, a reference -/
def tv_Mi (c : tv_c) (N : Nat) (y : MethodName) (ws : List Cond) (rm : Room) (av : List Value) (E : Nat → va_E) (P : Int32 → (Nat → va_E) → Prop) : Prop :=
  ∀ sz : Nat, Met (tv_l c) y ws rm (va_Pc av (tv_in c N E sz)) (va_Qi P (tv_out c N) (tv_AA N (tv_ad c) sz)) 0 0 (tv_AA N (tv_ad c) sz)
def tv_Ml (c : tv_c) (N : Nat) (y : MethodName) (ws : List Cond) (rm : Room) (av : List Value) (E : Nat → va_E) (P : Int64 → (Nat → va_E) → Prop) : Prop :=
  ∀ sz : Nat, Met (tv_l c) y ws rm (va_Pc av (tv_in c N E sz)) (va_Ql P (tv_out c N) (tv_AA N (tv_ad c) sz)) 0 0 (tv_AA N (tv_ad c) sz)
def tv_Mv (c : tv_c) (N : Nat) (y : MethodName) (ws : List Cond) (rm : Room) (av : List Value) (E : Nat → va_E) (P : (Nat → va_E) → Prop) : Prop :=
  ∀ sz : Nat, Met (tv_l c) y ws rm (va_Pc av (tv_in c N E sz)) (va_Qv P (tv_out c N) (tv_AA N (tv_ad c) sz)) 0 0 (tv_AA N (tv_ad c) sz)
def tv_Mr (c : tv_c) (N : Nat) (y : MethodName) (ws : List Cond) (rm : Room) (av : List Value) (E : Nat → va_E) (b : Nat) (P : (Nat → va_E) → Prop) : Prop :=
  ∀ sz : Nat, Met (tv_l c) y ws rm (va_Pc av (tv_in c N E sz)) (va_Qr P (fun u a t => a = tv_ad c b ∧ tv_out c N u t) (tv_AA N (tv_ad c) sz)) 0 0 (tv_AA N (tv_ad c) sz)
abbrev tv_Fi (c : tv_c) (N : Nat) (y : MethodName) (ws : List Cond) (rm : Room) (av : List Value) (E : Nat → va_E) (v : Int32) (E' : Nat → va_E) : Prop := tv_Mi c N y ws rm av E (fun r u => r = v ∧ u = E')
abbrev tv_Fl (c : tv_c) (N : Nat) (y : MethodName) (ws : List Cond) (rm : Room) (av : List Value) (E : Nat → va_E) (v : Int64) (E' : Nat → va_E) : Prop := tv_Ml c N y ws rm av E (fun r u => r = v ∧ u = E')
abbrev tv_Fv (c : tv_c) (N : Nat) (y : MethodName) (ws : List Cond) (rm : Room) (av : List Value) (E : Nat → va_E) (E' : Nat → va_E) : Prop := tv_Mv c N y ws rm av E (fun u => u = E')
/-- the walk -/
def tv_V (c : tv_c) (N : Nat) (X : tv_X) (E : Nat → va_E) (pc : Nat) (lv : List (Nat × Value)) (st : List Value) : Prop :=
  ∀ (H : Heap) (locs : List Loc), va_P (tv_D c) vwCl (tv_wl N (tv_ad c) E) H → va_S (tv_xA X) (tv_xs X).heap H locs → ∀ ls : Array Slot, lv_has ls (tv_xn X) lv →
    W (tv_xp X) (tv_l c) (tv_xe X) (tv_xR X) (tv_xs X) (tv_xm X) (tv_xa X) (tv_xb X) (tv_xh X) (tv_xc X) H locs (tv_xk X) (tv_xz X) (tv_xQ X) (F0 (tv_xm X) pc ls st)
/-- what holds all the way: the machine, the method's bytes, its class, its words, its room, the world's places -/
def tv_C (c : tv_c) (N : Nat) (X : tv_X) (cc : ByteArray) (own : String) (Ts : List Cond) (nL : Nat) (rm : Room) : Prop :=
  (tv_xp X).tables.exec = Jvm.exec ∧ (tv_xc X).code = cc ∧ (tv_xc X).maxLocals = nL ∧ (tv_xs X).vm.findClass own = some (tv_xm X).cls ∧ (∀ w ∈ Ts, w.before (tv_xa X) (tv_xs X) = true) ∧ va_K (tv_D c) vwCl (tv_tys c) (tv_xs X) ∧ (∀ E, va_D (tv_xA X) (tv_wl N (tv_ad c) E)) ∧ (∀ q : Nat, (tv_xs X).heap.size ≤ q → tv_xA X q) ∧ tv_N (tv_xs X) ∧ tv_inj N (tv_ad c) ∧ tv_xn X = nL ∧ tv_xR X = rm ∧ tv_xk X ≤ rm.cells ∧ tv_xz X ≤ rm.slots
section TV
variable {c : tv_c} {N : Nat} {X : tv_X} {cc : ByteArray} {own : String} {Ts : List Cond} {nL : Nat} {rm : Room} {E : Nat → va_E} {pc : Nat} {lv : List (Nat × Value)} {st : List Value}
theorem tv_iconst (C : tv_C c N X cc own Ts nL rm) {n : Int} {v : Int32} (hd : decode cc pc = .ok (.iconst n, 1)) (hv : Int32.ofInt n = v) (k : tv_V c N X E (pc + 1) lv (.int v :: st)) : tv_V c N X E pc lv st :=
  fun H locs hP hS ls hl => lv_iconst C.1 C.2.1 hd hv (k H locs hP hS ls hl)
theorem tv_bipush (C : tv_C c N X cc own Ts nL rm) {n : Int} {v : Int32} (hd : decode cc pc = .ok (.bipush n, 2)) (hv : (Int8.ofInt n).toInt32 = v) (k : tv_V c N X E (pc + 2) lv (.int v :: st)) : tv_V c N X E pc lv st :=
  fun H locs hP hS ls hl => lv_bipush C.1 C.2.1 hd hv (k H locs hP hS ls hl)
theorem tv_sipush (C : tv_C c N X cc own Ts nL rm) {n : Int} {v : Int32} (hd : decode cc pc = .ok (.sipush n, 3)) (hv : (Int16.ofInt n).toInt32 = v) (k : tv_V c N X E (pc + 3) lv (.int v :: st)) : tv_V c N X E pc lv st :=
  fun H locs hP hS ls hl => lv_sipush C.1 C.2.1 hd hv (k H locs hP hS ls hl)
theorem tv_lconst (C : tv_C c N X cc own Ts nL rm) {n : Fin 2} {v : Int64} (hd : decode cc pc = .ok (.lconst n, 1)) (hv : Int64.ofNat (n : Nat) = v) (k : tv_V c N X E (pc + 1) lv (.long v :: st)) : tv_V c N X E pc lv st :=
  fun H locs hP hS ls hl => lv_lconst C.1 C.2.1 hd hv (k H locs hP hS ls hl)
theorem tv_ldc (C : tv_C c N X cc own Ts nL rm) {index : Nat} {v : Int32} (hw : Cond.constant own index v ∈ Ts) (hd : decode cc pc = .ok (.ldc index, 2)) (k : tv_V c N X E (pc + 2) lv (.int v :: st)) : tv_V c N X E pc lv st :=
  fun H locs hP hS ls hl => lv_ldc C.1 C.2.1 C.2.2.2.1 (C.2.2.2.2.1 _ hw) hd (k H locs hP hS ls hl)
theorem tv_ldc2 (C : tv_C c N X cc own Ts nL rm) {index : Nat} {v : Int64} (hw : Cond.constantLong own index v ∈ Ts) (hd : decode cc pc = .ok (.ldc2_w index, 3)) (k : tv_V c N X E (pc + 3) lv (.long v :: st)) : tv_V c N X E pc lv st :=
  fun H locs hP hS ls hl => lv_ldc2 C.1 C.2.1 C.2.2.2.1 (C.2.2.2.2.1 _ hw) hd (k H locs hP hS ls hl)
theorem tv_iload_n (C : tv_C c N X cc own Ts nL rm) {k : Fin 4} {i : Nat} {x : Int32} (hd : decode cc pc = .ok (.iload_n k, 1)) (hi : (k : Nat) = i) (n : Nat) (hl : lv[n]? = some (i, .int x)) (kk : tv_V c N X E (pc + 1) lv (.int x :: st)) : tv_V c N X E pc lv st :=
  fun H locs hP hS ls hl2 => lv_iload_n C.1 C.2.1 hd hi (lv_at hl2 n hl) (kk H locs hP hS ls hl2)
theorem tv_iload (C : tv_C c N X cc own Ts nL rm) {i : Nat} {x : Int32} (hd : decode cc pc = .ok (.iload i, 2)) (n : Nat) (hl : lv[n]? = some (i, .int x)) (kk : tv_V c N X E (pc + 2) lv (.int x :: st)) : tv_V c N X E pc lv st :=
  fun H locs hP hS ls hl2 => lv_iload C.1 C.2.1 hd (lv_at hl2 n hl) (kk H locs hP hS ls hl2)
theorem tv_lload_n (C : tv_C c N X cc own Ts nL rm) {k : Fin 4} {i : Nat} {x : Int64} (hd : decode cc pc = .ok (.lload_n k, 1)) (hi : (k : Nat) = i) (n : Nat) (hl : lv[n]? = some (i, .long x)) (kk : tv_V c N X E (pc + 1) lv (.long x :: st)) : tv_V c N X E pc lv st :=
  fun H locs hP hS ls hl2 => lv_lload_n C.1 C.2.1 hd hi (lv_at hl2 n hl) (kk H locs hP hS ls hl2)
theorem tv_lload (C : tv_C c N X cc own Ts nL rm) {i : Nat} {x : Int64} (hd : decode cc pc = .ok (.lload i, 2)) (n : Nat) (hl : lv[n]? = some (i, .long x)) (kk : tv_V c N X E (pc + 2) lv (.long x :: st)) : tv_V c N X E pc lv st :=
  fun H locs hP hS ls hl2 => lv_lload C.1 C.2.1 hd (lv_at hl2 n hl) (kk H locs hP hS ls hl2)
theorem tv_aload_n (C : tv_C c N X cc own Ts nL rm) {k : Fin 4} {i : Nat} {x : Nat} (hd : decode cc pc = .ok (.aload_n k, 1)) (hi : (k : Nat) = i) (n : Nat) (hl : lv[n]? = some (i, .ref x)) (kk : tv_V c N X E (pc + 1) lv (.ref x :: st)) : tv_V c N X E pc lv st :=
  fun H locs hP hS ls hl2 => lv_aload_n C.1 C.2.1 hd hi (lv_at hl2 n hl) (kk H locs hP hS ls hl2)
theorem tv_aload (C : tv_C c N X cc own Ts nL rm) {i : Nat} {x : Nat} (hd : decode cc pc = .ok (.aload i, 2)) (n : Nat) (hl : lv[n]? = some (i, .ref x)) (kk : tv_V c N X E (pc + 2) lv (.ref x :: st)) : tv_V c N X E pc lv st :=
  fun H locs hP hS ls hl2 => lv_aload C.1 C.2.1 hd (lv_at hl2 n hl) (kk H locs hP hS ls hl2)
theorem tv_istore_n (C : tv_C c N X cc own Ts nL rm) {k : Fin 4} {i : Nat} {x : Int32} {lv' : List (Nat × Value)} (hd : decode cc pc = .ok (.istore_n k, 1)) (hi : (k : Nat) = i) (hn : i < nL) (hl : (i, Value.int x) :: lv.filter (fun q => !(q.1 == i) && !(q.1 + 1 == i && q.2.category == 2)) = lv') (kk : tv_V c N X E (pc + 1) lv' st) : tv_V c N X E pc lv (.int x :: st) :=
  fun H locs hP hS _ hl2 => lv_istore_n C.1 C.2.1 hd hi hl2 (by rw [C.2.2.2.2.2.2.2.2.2.2.1]; exact hn) hl (fun ls hl3 => kk H locs hP hS ls hl3)
theorem tv_istore (C : tv_C c N X cc own Ts nL rm) {i : Nat} {x : Int32} {lv' : List (Nat × Value)} (hd : decode cc pc = .ok (.istore i, 2)) (hn : i < nL) (hl : (i, Value.int x) :: lv.filter (fun q => !(q.1 == i) && !(q.1 + 1 == i && q.2.category == 2)) = lv') (kk : tv_V c N X E (pc + 2) lv' st) : tv_V c N X E pc lv (.int x :: st) :=
  fun H locs hP hS _ hl2 => lv_istore C.1 C.2.1 hd hl2 (by rw [C.2.2.2.2.2.2.2.2.2.2.1]; exact hn) hl (fun ls hl3 => kk H locs hP hS ls hl3)
theorem tv_lstore_n (C : tv_C c N X cc own Ts nL rm) {k : Fin 4} {i : Nat} {x : Int64} {lv' : List (Nat × Value)} (hd : decode cc pc = .ok (.lstore_n k, 1)) (hi : (k : Nat) = i) (hn : i + 1 < nL) (hl : (i, Value.long x) :: lv.filter (fun q => !(q.1 == i) && (!(q.1 == i + 1) && !(q.1 + 1 == i && q.2.category == 2))) = lv') (kk : tv_V c N X E (pc + 1) lv' st) : tv_V c N X E pc lv (.long x :: st) :=
  fun H locs hP hS _ hl2 => lv_lstore_n C.1 C.2.1 hd hi hl2 (by rw [C.2.2.2.2.2.2.2.2.2.2.1]; exact hn) hl (fun ls hl3 => kk H locs hP hS ls hl3)
theorem tv_lstore (C : tv_C c N X cc own Ts nL rm) {i : Nat} {x : Int64} {lv' : List (Nat × Value)} (hd : decode cc pc = .ok (.lstore i, 2)) (hn : i + 1 < nL) (hl : (i, Value.long x) :: lv.filter (fun q => !(q.1 == i) && (!(q.1 == i + 1) && !(q.1 + 1 == i && q.2.category == 2))) = lv') (kk : tv_V c N X E (pc + 2) lv' st) : tv_V c N X E pc lv (.long x :: st) :=
  fun H locs hP hS _ hl2 => lv_lstore C.1 C.2.1 hd hl2 (by rw [C.2.2.2.2.2.2.2.2.2.2.1]; exact hn) hl (fun ls hl3 => kk H locs hP hS ls hl3)
theorem tv_astore_n (C : tv_C c N X cc own Ts nL rm) {k : Fin 4} {i : Nat} {x : Nat} {lv' : List (Nat × Value)} (hd : decode cc pc = .ok (.astore_n k, 1)) (hi : (k : Nat) = i) (hn : i < nL) (hl : (i, Value.ref x) :: lv.filter (fun q => !(q.1 == i) && !(q.1 + 1 == i && q.2.category == 2)) = lv') (kk : tv_V c N X E (pc + 1) lv' st) : tv_V c N X E pc lv (.ref x :: st) :=
  fun H locs hP hS _ hl2 => lv_astore_n C.1 C.2.1 hd hi hl2 (by rw [C.2.2.2.2.2.2.2.2.2.2.1]; exact hn) hl (fun ls hl3 => kk H locs hP hS ls hl3)
theorem tv_astore (C : tv_C c N X cc own Ts nL rm) {i : Nat} {x : Nat} {lv' : List (Nat × Value)} (hd : decode cc pc = .ok (.astore i, 2)) (hn : i < nL) (hl : (i, Value.ref x) :: lv.filter (fun q => !(q.1 == i) && !(q.1 + 1 == i && q.2.category == 2)) = lv') (kk : tv_V c N X E (pc + 2) lv' st) : tv_V c N X E pc lv (.ref x :: st) :=
  fun H locs hP hS _ hl2 => lv_astore C.1 C.2.1 hd hl2 (by rw [C.2.2.2.2.2.2.2.2.2.2.1]; exact hn) hl (fun ls hl3 => kk H locs hP hS ls hl3)
theorem tv_iinc (C : tv_C c N X cc own Ts nL rm) {i : Nat} {n : Int} {x v : Int32} {lv' : List (Nat × Value)} (hd : decode cc pc = .ok (.iinc i n, 3)) (k : Nat) (hk : lv[k]? = some (i, .int x)) (hv : x + Int32.ofInt n = v) (hn : i < nL) (hl : (i, Value.int v) :: lv.filter (fun q => !(q.1 == i) && !(q.1 + 1 == i && q.2.category == 2)) = lv') (kk : tv_V c N X E (pc + 3) lv' st) : tv_V c N X E pc lv st :=
  fun H locs hP hS _ hl2 => lv_iinc C.1 C.2.1 hd hl2 hk hv (by rw [C.2.2.2.2.2.2.2.2.2.2.1]; exact hn) hl (fun ls hl3 => kk H locs hP hS ls hl3)
theorem tv_iadd (C : tv_C c N X cc own Ts nL rm) {x y : Int32} (hd : decode cc pc = .ok (.iadd, 1)) (k : tv_V c N X E (pc + 1) lv (.int (x + y) :: st)) : tv_V c N X E pc lv (.int y :: .int x :: st) :=
  fun H locs hP hS ls hl => lv_iadd C.1 C.2.1 hd (k H locs hP hS ls hl)
theorem tv_isub (C : tv_C c N X cc own Ts nL rm) {x y : Int32} (hd : decode cc pc = .ok (.isub, 1)) (k : tv_V c N X E (pc + 1) lv (.int (x - y) :: st)) : tv_V c N X E pc lv (.int y :: .int x :: st) :=
  fun H locs hP hS ls hl => lv_isub C.1 C.2.1 hd (k H locs hP hS ls hl)
theorem tv_imul (C : tv_C c N X cc own Ts nL rm) {x y : Int32} (hd : decode cc pc = .ok (.imul, 1)) (k : tv_V c N X E (pc + 1) lv (.int (x * y) :: st)) : tv_V c N X E pc lv (.int y :: .int x :: st) :=
  fun H locs hP hS ls hl => lv_imul C.1 C.2.1 hd (k H locs hP hS ls hl)
theorem tv_iand (C : tv_C c N X cc own Ts nL rm) {x y : Int32} (hd : decode cc pc = .ok (.iand, 1)) (k : tv_V c N X E (pc + 1) lv (.int (x &&& y) :: st)) : tv_V c N X E pc lv (.int y :: .int x :: st) :=
  fun H locs hP hS ls hl => lv_iand C.1 C.2.1 hd (k H locs hP hS ls hl)
theorem tv_idiv (C : tv_C c N X cc own Ts nL rm) {x y : Int32} (hne : ¬ y = 0) (hd : decode cc pc = .ok (.idiv, 1)) (k : tv_V c N X E (pc + 1) lv (.int (x / y) :: st)) : tv_V c N X E pc lv (.int y :: .int x :: st) :=
  fun H locs hP hS ls hl => lv_idiv C.1 C.2.1 hd hne (k H locs hP hS ls hl)
theorem tv_irem (C : tv_C c N X cc own Ts nL rm) {x y : Int32} (hne : ¬ y = 0) (hd : decode cc pc = .ok (.irem, 1)) (k : tv_V c N X E (pc + 1) lv (.int (x - x / y * y) :: st)) : tv_V c N X E pc lv (.int y :: .int x :: st) :=
  fun H locs hP hS ls hl => lv_irem C.1 C.2.1 hd hne (k H locs hP hS ls hl)
theorem tv_ineg (C : tv_C c N X cc own Ts nL rm) {x : Int32} (hd : decode cc pc = .ok (.ineg, 1)) (k : tv_V c N X E (pc + 1) lv (.int (-x) :: st)) : tv_V c N X E pc lv (.int x :: st) :=
  fun H locs hP hS ls hl => lv_ineg C.1 C.2.1 hd (k H locs hP hS ls hl)
theorem tv_lor (C : tv_C c N X cc own Ts nL rm) {x y : Int64} (hd : decode cc pc = .ok (.lor, 1)) (k : tv_V c N X E (pc + 1) lv (.long (x ||| y) :: st)) : tv_V c N X E pc lv (.long y :: .long x :: st) :=
  fun H locs hP hS ls hl => lv_lor C.1 C.2.1 hd (k H locs hP hS ls hl)
theorem tv_lshl (C : tv_C c N X cc own Ts nL rm) {x : Int64} {y : Int32} (hd : decode cc pc = .ok (.lshl, 1)) (k : tv_V c N X E (pc + 1) lv (.long (x <<< (y.toInt64 &&& 63)) :: st)) : tv_V c N X E pc lv (.int y :: .long x :: st) :=
  fun H locs hP hS ls hl => lv_lshl C.1 C.2.1 hd rfl (k H locs hP hS ls hl)
theorem tv_i2l (C : tv_C c N X cc own Ts nL rm) {x : Int32} (hd : decode cc pc = .ok (.i2l, 1)) (k : tv_V c N X E (pc + 1) lv (.long x.toInt64 :: st)) : tv_V c N X E pc lv (.int x :: st) :=
  fun H locs hP hS ls hl => lv_i2l C.1 C.2.1 hd rfl (k H locs hP hS ls hl)
theorem tv_i2b (C : tv_C c N X cc own Ts nL rm) {x : Int32} (hd : decode cc pc = .ok (.i2b, 1)) (k : tv_V c N X E (pc + 1) lv (.int x.toInt8.toInt32 :: st)) : tv_V c N X E pc lv (.int x :: st) :=
  fun H locs hP hS ls hl => lv_i2b C.1 C.2.1 hd rfl (k H locs hP hS ls hl)
theorem tv_i2s (C : tv_C c N X cc own Ts nL rm) {x : Int32} (hd : decode cc pc = .ok (.i2s, 1)) (k : tv_V c N X E (pc + 1) lv (.int x.toInt16.toInt32 :: st)) : tv_V c N X E pc lv (.int x :: st) :=
  fun H locs hP hS ls hl => lv_i2s C.1 C.2.1 hd rfl (k H locs hP hS ls hl)
theorem tv_dup (C : tv_C c N X cc own Ts nL rm) {va : Value} (hd : decode cc pc = .ok (.dup, 1)) (hva : va.category = 1) (k : tv_V c N X E (pc + 1) lv (va :: va :: st)) : tv_V c N X E pc lv (va :: st) :=
  fun H locs hP hS ls hl => lv_dup C.1 C.2.1 hd hva (k H locs hP hS ls hl)
theorem tv_dup2 (C : tv_C c N X cc own Ts nL rm) {va vb : Value} (hd : decode cc pc = .ok (.dup2, 1)) (hva : va.category = 1) (hvb : vb.category = 1) (k : tv_V c N X E (pc + 1) lv (va :: vb :: va :: vb :: st)) : tv_V c N X E pc lv (va :: vb :: st) :=
  fun H locs hP hS ls hl => lv_dup2_11 C.1 C.2.1 hd hva hvb (k H locs hP hS ls hl)
theorem tv_pop (C : tv_C c N X cc own Ts nL rm) {va : Value} (hd : decode cc pc = .ok (.pop, 1)) (hva : va.category = 1) (k : tv_V c N X E (pc + 1) lv st) : tv_V c N X E pc lv (va :: st) :=
  fun H locs hP hS ls hl => lv_pop C.1 C.2.1 hd hva (k H locs hP hS ls hl)
theorem tv_goto (C : tv_C c N X cc own Ts nL rm) {off : Int} (tgt : Nat) (hd : decode cc pc = .ok (.goto off, 3)) (ht : (pc : Int) + off = (tgt : Int)) (k : tv_V c N X E tgt lv st) : tv_V c N X E pc lv st :=
  fun H locs hP hS ls hl => lv_goto C.1 C.2.1 hd ht (k H locs hP hS ls hl)
theorem tv_if_eq (C : tv_C c N X cc own Ts nL rm) {x : Int32} {off : Int} (tgt : Nat) (hd : decode cc pc = .ok (.ifCond .eq off, 3)) (ht : (pc : Int) + off = (tgt : Int)) (kt : x = 0 → tv_V c N X E tgt lv st) (kf : ¬ x = 0 → tv_V c N X E (pc + 3) lv st) : tv_V c N X E pc lv (.int x :: st) :=
  fun H locs hP hS ls hl => lv_if_eq C.1 C.2.1 hd ht (fun q => kt q H locs hP hS ls hl) (fun q => kf q H locs hP hS ls hl)
theorem tv_if_ne (C : tv_C c N X cc own Ts nL rm) {x : Int32} {off : Int} (tgt : Nat) (hd : decode cc pc = .ok (.ifCond .ne off, 3)) (ht : (pc : Int) + off = (tgt : Int)) (kt : ¬ x = 0 → tv_V c N X E tgt lv st) (kf : x = 0 → tv_V c N X E (pc + 3) lv st) : tv_V c N X E pc lv (.int x :: st) :=
  fun H locs hP hS ls hl => lv_if_ne C.1 C.2.1 hd ht (fun q => kt q H locs hP hS ls hl) (fun q => kf q H locs hP hS ls hl)
theorem tv_if_lt (C : tv_C c N X cc own Ts nL rm) {x : Int32} {off : Int} (tgt : Nat) (hd : decode cc pc = .ok (.ifCond .lt off, 3)) (ht : (pc : Int) + off = (tgt : Int)) (kt : x < 0 → tv_V c N X E tgt lv st) (kf : ¬ x < 0 → tv_V c N X E (pc + 3) lv st) : tv_V c N X E pc lv (.int x :: st) :=
  fun H locs hP hS ls hl => lv_if_lt C.1 C.2.1 hd ht (fun q => kt q H locs hP hS ls hl) (fun q => kf q H locs hP hS ls hl)
theorem tv_if_ge (C : tv_C c N X cc own Ts nL rm) {x : Int32} {off : Int} (tgt : Nat) (hd : decode cc pc = .ok (.ifCond .ge off, 3)) (ht : (pc : Int) + off = (tgt : Int)) (kt : 0 ≤ x → tv_V c N X E tgt lv st) (kf : ¬ 0 ≤ x → tv_V c N X E (pc + 3) lv st) : tv_V c N X E pc lv (.int x :: st) :=
  fun H locs hP hS ls hl => lv_if_ge C.1 C.2.1 hd ht (fun q => kt q H locs hP hS ls hl) (fun q => kf q H locs hP hS ls hl)
theorem tv_if_gt (C : tv_C c N X cc own Ts nL rm) {x : Int32} {off : Int} (tgt : Nat) (hd : decode cc pc = .ok (.ifCond .gt off, 3)) (ht : (pc : Int) + off = (tgt : Int)) (kt : 0 < x → tv_V c N X E tgt lv st) (kf : ¬ 0 < x → tv_V c N X E (pc + 3) lv st) : tv_V c N X E pc lv (.int x :: st) :=
  fun H locs hP hS ls hl => lv_if_gt C.1 C.2.1 hd ht (fun q => kt q H locs hP hS ls hl) (fun q => kf q H locs hP hS ls hl)
theorem tv_if_le (C : tv_C c N X cc own Ts nL rm) {x : Int32} {off : Int} (tgt : Nat) (hd : decode cc pc = .ok (.ifCond .le off, 3)) (ht : (pc : Int) + off = (tgt : Int)) (kt : x ≤ 0 → tv_V c N X E tgt lv st) (kf : ¬ x ≤ 0 → tv_V c N X E (pc + 3) lv st) : tv_V c N X E pc lv (.int x :: st) :=
  fun H locs hP hS ls hl => lv_if_le C.1 C.2.1 hd ht (fun q => kt q H locs hP hS ls hl) (fun q => kf q H locs hP hS ls hl)
theorem tv_icmp_eq (C : tv_C c N X cc own Ts nL rm) {x y : Int32} {off : Int} (tgt : Nat) (hd : decode cc pc = .ok (.if_icmp .eq off, 3)) (ht : (pc : Int) + off = (tgt : Int)) (kt : x = y → tv_V c N X E tgt lv st) (kf : ¬ x = y → tv_V c N X E (pc + 3) lv st) : tv_V c N X E pc lv (.int y :: .int x :: st) :=
  fun H locs hP hS ls hl => lv_icmp_eq C.1 C.2.1 hd ht (fun q => kt q H locs hP hS ls hl) (fun q => kf q H locs hP hS ls hl)
theorem tv_icmp_ne (C : tv_C c N X cc own Ts nL rm) {x y : Int32} {off : Int} (tgt : Nat) (hd : decode cc pc = .ok (.if_icmp .ne off, 3)) (ht : (pc : Int) + off = (tgt : Int)) (kt : ¬ x = y → tv_V c N X E tgt lv st) (kf : x = y → tv_V c N X E (pc + 3) lv st) : tv_V c N X E pc lv (.int y :: .int x :: st) :=
  fun H locs hP hS ls hl => lv_icmp_ne C.1 C.2.1 hd ht (fun q => kt q H locs hP hS ls hl) (fun q => kf q H locs hP hS ls hl)
theorem tv_icmp_lt (C : tv_C c N X cc own Ts nL rm) {x y : Int32} {off : Int} (tgt : Nat) (hd : decode cc pc = .ok (.if_icmp .lt off, 3)) (ht : (pc : Int) + off = (tgt : Int)) (kt : x < y → tv_V c N X E tgt lv st) (kf : ¬ x < y → tv_V c N X E (pc + 3) lv st) : tv_V c N X E pc lv (.int y :: .int x :: st) :=
  fun H locs hP hS ls hl => lv_icmp_lt C.1 C.2.1 hd ht (fun q => kt q H locs hP hS ls hl) (fun q => kf q H locs hP hS ls hl)
theorem tv_icmp_ge (C : tv_C c N X cc own Ts nL rm) {x y : Int32} {off : Int} (tgt : Nat) (hd : decode cc pc = .ok (.if_icmp .ge off, 3)) (ht : (pc : Int) + off = (tgt : Int)) (kt : y ≤ x → tv_V c N X E tgt lv st) (kf : ¬ y ≤ x → tv_V c N X E (pc + 3) lv st) : tv_V c N X E pc lv (.int y :: .int x :: st) :=
  fun H locs hP hS ls hl => lv_icmp_ge C.1 C.2.1 hd ht (fun q => kt q H locs hP hS ls hl) (fun q => kf q H locs hP hS ls hl)
theorem tv_icmp_gt (C : tv_C c N X cc own Ts nL rm) {x y : Int32} {off : Int} (tgt : Nat) (hd : decode cc pc = .ok (.if_icmp .gt off, 3)) (ht : (pc : Int) + off = (tgt : Int)) (kt : y < x → tv_V c N X E tgt lv st) (kf : ¬ y < x → tv_V c N X E (pc + 3) lv st) : tv_V c N X E pc lv (.int y :: .int x :: st) :=
  fun H locs hP hS ls hl => lv_icmp_gt C.1 C.2.1 hd ht (fun q => kt q H locs hP hS ls hl) (fun q => kf q H locs hP hS ls hl)
theorem tv_icmp_le (C : tv_C c N X cc own Ts nL rm) {x y : Int32} {off : Int} (tgt : Nat) (hd : decode cc pc = .ok (.if_icmp .le off, 3)) (ht : (pc : Int) + off = (tgt : Int)) (kt : x ≤ y → tv_V c N X E tgt lv st) (kf : ¬ x ≤ y → tv_V c N X E (pc + 3) lv st) : tv_V c N X E pc lv (.int y :: .int x :: st) :=
  fun H locs hP hS ls hl => lv_icmp_le C.1 C.2.1 hd ht (fun q => kt q H locs hP hS ls hl) (fun q => kf q H locs hP hS ls hl)
theorem tv_tableOut (C : tv_C c N X cc own Ts nL rm) {dflt lo hi : Int} {offs : Array Int} {len : Nat} {x : Int32} (tgt : Nat) (hd : decode cc pc = .ok (.tableswitch dflt lo hi offs, len)) (h : x.toInt < lo ∨ hi < x.toInt) (ht : (pc : Int) + dflt = (tgt : Int)) (k : tv_V c N X E tgt lv st) : tv_V c N X E pc lv (.int x :: st) :=
  fun H locs hP hS ls hl => lv_tableOut C.1 C.2.1 hd h ht (k H locs hP hS ls hl)
theorem tv_tableIn (C : tv_C c N X cc own Ts nL rm) {dflt lo hi : Int} {offs : Array Int} {len : Nat} {x : Int32} {off : Int} (tgt : Nat) (hd : decode cc pc = .ok (.tableswitch dflt lo hi offs, len)) (h1 : ¬ x.toInt < lo) (h2 : ¬ hi < x.toInt) (ho : offs[(x.toInt - lo).toNat]? = some off) (ht : (pc : Int) + off = (tgt : Int)) (k : tv_V c N X E tgt lv st) : tv_V c N X E pc lv (.int x :: st) :=
  fun H locs hP hS ls hl => lv_tableIn C.1 C.2.1 hd h1 h2 ho ht (k H locs hP hS ls hl)
theorem tv_lookup (C : tv_C c N X cc own Ts nL rm) {dflt : Int} {ps : Array (Int × Int)} {len : Nat} {x : Int32} {off : Int} (tgt : Nat) (hd : decode cc pc = .ok (.lookupswitch dflt ps, len)) (hp : (ps.toList.zip (ps.toList.drop 1)).all (fun (a, next) => a.1 < next.1) = true) (ho : Op.lookupswitch.offset ps.toList dflt x.toInt = off) (ht : (pc : Int) + off = (tgt : Int)) (k : tv_V c N X E tgt lv st) : tv_V c N X E pc lv (.int x :: st) :=
  fun H locs hP hS ls hl => lv_lookup C.1 C.2.1 hd hp ho ht (k H locs hP hS ls hl)
/-- fields -/
theorem tv_get (C : tv_C c N X cc own Ts nL rm) (k : Nat) (hk : k < N) {ci : Nat} {fs : List Value} (he : E k = .inr (ci, fs)) {Cn : String} {T : u_T} {Nf index : Nat} (hc : vwCl[ci]? = some (Cn, T, Nf)) (hin : ∀ w ∈ u_ws Cn T Nf, w ∈ Ts) (j : Nat) (hj : j < Nf) (hl : Cond.fieldLink own index (T j).1 (T j).2.1 (T j).2.2.1 ∈ Ts) {v : Value} (hv : fs[j]? = some v) (hd : decode cc pc = .ok (.getfield index, 3)) (kk : tv_V c N X E (pc + 3) lv (v :: st)) : tv_V c N X E pc lv (.ref (tv_ad c k) :: st) :=
  fun H locs hP hS ls hl2 => va_get (D := tv_D c) C.1 C.2.1 C.2.2.2.2.1 hin C.2.2.2.1 C.2.2.2.2.2.1 hP k ((tv_wl_get hk).trans (by rw [he])) hc j hj (C.2.2.2.2.1 _ hl) (fun _ h9 => h9) hv hd (kk H locs hP hS ls hl2)
theorem tv_put (C : tv_C c N X cc own Ts nL rm) (k : Nat) (hk : k < N) {ci : Nat} {fs : List Value} (he : E k = .inr (ci, fs)) {Cn : String} {T : u_T} {Nf index : Nat} (hc : vwCl[ci]? = some (Cn, T, Nf)) (hin : ∀ w ∈ u_ws Cn T Nf, w ∈ Ts) (ty0 : Nat → FieldType) (hty : ∀ k, k < Nf → parseFieldDescriptor (T k).2.2.1 = some (ty0 k)) (hnm : ∀ a, a < Nf → ∀ b, b < Nf → a ≠ b → (T a).2.1 ≠ (T b).2.1) (j : Nat) (hj : j < Nf) (hl : Cond.fieldLink own index (T j).1 (T j).2.1 (T j).2.2.1 ∈ Ts) (hfin : (T j).2.2.2 = false) {ty : FieldType} {v : Value} (hty2 : parseFieldDescriptor (T j).2.2.1 = some ty) (hn : narrow ty v = v) (hfit : fits ty v = true) (hlen : j < fs.length) {E' : Nat → va_E} (hE : va_up E k (.inr (ci, fs.set j v)) = E') (hd : decode cc pc = .ok (.putfield index, 3)) (kk : tv_V c N X E' (pc + 3) lv st) : tv_V c N X E pc lv (v :: .ref (tv_ad c k) :: st) := by
  intro H locs hP hS ls hl2
  refine va_put (D := tv_D c) C.1 C.2.1 C.2.2.2.2.1 hin ty0 hty hnm C.2.2.2.1 C.2.2.2.2.2.1 hP (C.2.2.2.2.2.2.1 E) hS k ((tv_wl_get hk).trans (by rw [he])) hc j hj (C.2.2.2.2.1 _ hl) (fun _ h9 => h9) hfin hty2 hn hfit hlen hd (fun H1 locs1 hP1 _ hS1 => kk H1 locs1 ?_ hS1 ls hl2)
  rw [← hE, ← tv_wl_set]
  exact hP1
/-- arrays of ints, of booleans, of objects -/
theorem tv_iald (C : tv_C c N X cc own Ts nL rm) (k : Nat) (hk : k < N) {n : Nat} {f : Nat → Int32} (he : E k = .inl (tv_kk c 0, n, .inl f)) {i : Int32} (j : Nat) (hi : i = nI j) (hj : j < n) (hn : n < 2 ^ 31) {v : Int32} (hv : f j = v) (hd : decode cc pc = .ok (.iaload, 1)) (kk : tv_V c N X E (pc + 1) lv (.int v :: st)) : tv_V c N X E pc lv (.int i :: .ref (tv_ad c k) :: st) := by
  intro H locs hP hS ls hl2
  subst hi
  refine va_iald (D := tv_D c) C.1 C.2.1 C.2.2.2.2.2.1 hP k 0 ((tv_wl_get hk).trans (by rw [he])) rfl (vp_in_nI hj hn) hd ?_
  rw [nI_clamp (Nat.lt_trans hj hn), hv]
  exact kk H locs hP hS ls hl2
theorem tv_iast (C : tv_C c N X cc own Ts nL rm) (k : Nat) (hk : k < N) {n : Nat} {f : Nat → Int32} (he : E k = .inl (tv_kk c 0, n, .inl f)) {i x : Int32} (j : Nat) (hi : i = nI j) (hj : j < n) (hn : n < 2 ^ 31) {E' : Nat → va_E} (hE : va_up E k (.inl (tv_kk c 0, n, .inl (upd f j x))) = E') (hd : decode cc pc = .ok (.iastore, 1)) (kk : tv_V c N X E' (pc + 1) lv st) : tv_V c N X E pc lv (.int x :: .int i :: .ref (tv_ad c k) :: st) := by
  intro H locs hP hS ls hl2
  subst hi
  refine va_iast (D := tv_D c) C.1 C.2.1 C.2.2.2.2.2.1 hP (C.2.2.2.2.2.2.1 E) hS k 0 ((tv_wl_get hk).trans (by rw [he])) rfl (vp_in_nI hj hn) hd (fun H1 locs1 hP1 _ hS1 => kk H1 locs1 ?_ hS1 ls hl2)
  rw [nI_clamp (Nat.lt_trans hj hn)] at hP1
  rw [← hE, ← tv_wl_set]
  exact hP1
theorem tv_zald (C : tv_C c N X cc own Ts nL rm) (k : Nat) (hk : k < N) {n : Nat} {f : Nat → Int32} (he : E k = .inl (tv_kk c 1, n, .inl f)) {i : Int32} (j : Nat) (hi : i = nI j) (hj : j < n) (hn : n < 2 ^ 31) {v : Int32} (hv : f j = v) (hd : decode cc pc = .ok (.baload, 1)) (kk : tv_V c N X E (pc + 1) lv (.int v :: st)) : tv_V c N X E pc lv (.int i :: .ref (tv_ad c k) :: st) := by
  intro H locs hP hS ls hl2
  subst hi
  refine va_zald (D := tv_D c) C.1 C.2.1 C.2.2.2.2.2.1 hP k 1 ((tv_wl_get hk).trans (by rw [he])) rfl (vp_in_nI hj hn) hd ?_
  rw [nI_clamp (Nat.lt_trans hj hn), hv]
  exact kk H locs hP hS ls hl2
theorem tv_zast (C : tv_C c N X cc own Ts nL rm) (k : Nat) (hk : k < N) {n : Nat} {f : Nat → Int32} (he : E k = .inl (tv_kk c 1, n, .inl f)) {i x : Int32} (j : Nat) (hi : i = nI j) (hj : j < n) (hn : n < 2 ^ 31) (hx : vp_nar .boolean x = x) {E' : Nat → va_E} (hE : va_up E k (.inl (tv_kk c 1, n, .inl (upd f j x))) = E') (hd : decode cc pc = .ok (.bastore, 1)) (kk : tv_V c N X E' (pc + 1) lv st) : tv_V c N X E pc lv (.int x :: .int i :: .ref (tv_ad c k) :: st) := by
  intro H locs hP hS ls hl2
  subst hi
  refine va_zast (D := tv_D c) C.1 C.2.1 C.2.2.2.2.2.1 hP (C.2.2.2.2.2.2.1 E) hS k 1 ((tv_wl_get hk).trans (by rw [he])) rfl (vp_in_nI hj hn) hd (fun H1 locs1 hP1 _ hS1 => kk H1 locs1 ?_ hS1 ls hl2)
  rw [nI_clamp (Nat.lt_trans hj hn), hx] at hP1
  rw [← hE, ← tv_wl_set]
  exact hP1
theorem tv_aald (C : tv_C c N X cc own Ts nL rm) (k : Nat) (hk : k < N) {n : Nat} {f : Nat → Option Nat} {cA : ClassId} (he : E k = .inl (cA, n, .inr (.inr (.inr (.inr f))))) (t0 : Nat) {Cn : String} (ht : (tv_tys c)[t0]? = some (cA, .object Cn)) {i : Int32} (j : Nat) (hi : i = nI j) (hj : j < n) (hn : n < 2 ^ 31) {a : Nat} (ha : f j = some a) (hd : decode cc pc = .ok (.aaload, 1)) (kk : tv_V c N X E (pc + 1) lv (.ref a :: st)) : tv_V c N X E pc lv (.int i :: .ref (tv_ad c k) :: st) := by
  intro H locs hP hS ls hl2
  subst hi
  refine va_aldq (D := tv_D c) C.1 C.2.1 C.2.2.2.2.2.1 hP k t0 ((tv_wl_get hk).trans (by rw [he])) ht (vp_in_nI hj hn) hd ?_
  rw [nI_clamp (Nat.lt_trans hj hn), ha]
  exact kk H locs hP hS ls hl2
theorem tv_alen (C : tv_C c N X cc own Ts nL rm) (k : Nat) (hk : k < N) {n : Nat} {f : Nat → Int32} (he : E k = .inl (tv_kk c 0, n, .inl f)) (hd : decode cc pc = .ok (.arraylength, 1)) (kk : tv_V c N X E (pc + 1) lv (.int (nI n) :: st)) : tv_V c N X E pc lv (.ref (tv_ad c k) :: st) := by
  intro H locs hP hS ls hl2
  exact va_alen (D := tv_D c) (x := (n, .inl f)) C.1 C.2.1 C.2.2.2.2.2.1 hP k 0 ((tv_wl_get hk).trans (by rw [he])) rfl rfl hd (kk H locs hP hS ls hl2)
/-- the library's functions -/
theorem tv_max (C : tv_C c N X cc own Ts nL rm) {index : Nat} (h1 : Cond.methodLink own index Lib.Math.max.name ∈ Ts) (h2 : Cond.static Lib.Math.max.name ∈ Ts) (h3 : Cond.initialized "java/lang/Math" ∈ Ts) (h4 : Cond.code Lib.Math.max.name Lib.Math.max.code 2 (some .int) ∈ Ts) (hf : 1 ≤ rm.frames) (hloc : (st.map fun v => v.category).sum + 13 ≤ rm.locals) {x y : Int32} (hd : decode cc pc = .ok (.invokestatic index, 3)) (kk : tv_V c N X E (pc + 3) lv (.int (if x < y then y else x) :: st)) : tv_V c N X E pc lv (.int y :: .int x :: st) := by
  intro H locs hP hS ls hl2
  obtain ⟨c1, c2, c3, c4, c5, c6, c7, c8, c9, c10, c11, c12, c13, c14⟩ := C
  exact va_mmax c1 c2 (by rw [c3, hl2.1, c11]) c4 (c5 _ h1) (c5 _ h2) (c5 _ h3) (c5 _ h4) (by rw [c12]; exact hf) (by rw [c12]; exact hloc) (by rw [c12]; exact c13) (by rw [c12]; exact c14) hd (kk H locs hP hS ls hl2)
theorem tv_abs (C : tv_C c N X cc own Ts nL rm) {index : Nat} (h1 : Cond.methodLink own index Lib.Math.abs.name ∈ Ts) (h2 : Cond.static Lib.Math.abs.name ∈ Ts) (h3 : Cond.initialized "java/lang/Math" ∈ Ts) (h4 : Cond.code Lib.Math.abs.name Lib.Math.abs.code 1 (some .int) ∈ Ts) (hf : 1 ≤ rm.frames) (hloc : (st.map fun v => v.category).sum + 13 ≤ rm.locals) {x : Int32} (hd : decode cc pc = .ok (.invokestatic index, 3)) (kk : tv_V c N X E (pc + 3) lv (.int (if 0 ≤ x then x else 0 - x) :: st)) : tv_V c N X E pc lv (.int x :: st) := by
  intro H locs hP hS ls hl2
  obtain ⟨c1, c2, c3, c4, c5, c6, c7, c8, c9, c10, c11, c12, c13, c14⟩ := C
  exact va_mabs c1 c2 (by rw [c3, hl2.1, c11]) c4 (c5 _ h1) (c5 _ h2) (c5 _ h3) (c5 _ h4) (by rw [c12]; exact hf) (by rw [c12]; exact hloc) (by rw [c12]; exact c13) (by rw [c12]; exact c14) hd (kk H locs hP hS ls hl2)
theorem tv_copy (C : tv_C c N X cc own Ts nL rm) {index : Nat} (h1 : Cond.methodLink own index arraycopyName ∈ Ts) (h2 : Cond.native arraycopyName ∈ Ts) (h3 : Cond.static arraycopyName ∈ Ts) (h4 : Cond.initialized "java/lang/System" ∈ Ts) (hf : 1 ≤ rm.frames) (hloc : (st.map fun v => v.category).sum + (nativeFrameWords "java/lang/System" "arraycopy" 5 + 11) ≤ rm.locals) (k0 k1 : Nat) (hk0 : k0 < N) (hk1 : k1 < N) {n0 n1 : Nat} {f g : Nat → Int32} (he0 : E k0 = .inl (tv_kk c 0, n0, .inl f)) (he1 : E k1 = .inl (tv_kk c 0, n1, .inl g)) {sp dp n : Int32} (a b d : Nat) (ha : sp = nI a) (hb : dp = nI b) (hn : n = nI d) (hs0 : a + d ≤ n0) (hs1 : b + d ≤ n1) (hn0 : n0 < 2 ^ 31) (hn1 : n1 < 2 ^ 31) {E' : Nat → va_E} (hE : va_up E k1 (.inl (tv_kk c 0, n1, .inl (va_cpy f g a b d))) = E') (hd : decode cc pc = .ok (.invokestatic index, 3)) (kk : tv_V c N X E' (pc + 3) lv st) : tv_V c N X E pc lv (.int n :: .int dp :: .ref (tv_ad c k1) :: .int sp :: .ref (tv_ad c k0) :: st) := by
  intro H locs hP hS ls hl2
  obtain ⟨c1, c2, c3, c4, c5, c6, c7, c8, c9, c10, c11, c12, c13, c14⟩ := C
  subst ha hb hn
  have ea : (nI a).toNatClampNeg = a := nI_clamp (by omega)
  have eb : (nI b).toNatClampNeg = b := nI_clamp (by omega)
  have ed : (nI d).toNatClampNeg = d := nI_clamp (by omega)
  refine va_copyi (D := tv_D c) (ty := .int) c1 c2 (by rw [c3, hl2.1, c11]) c4 (c5 _ h1) (c5 _ h2) (c5 _ h3) (c5 _ h4) c6 hP (c7 E) hS k0 k1 0 0 ((tv_wl_get hk0).trans (by rw [he0])) ((tv_wl_get hk1).trans (by rw [he1])) rfl rfl rfl (nI_pos (by omega)) (nI_pos (by omega)) (nI_pos (by omega)) (by rw [ea, ed]; exact hs0) (by rw [eb, ed]; exact hs1) (fun _ _ => rfl) (by rw [c12]; exact hf) (by rw [c12]; exact hloc) hd (fun H1 locs1 hP1 _ hS1 => kk H1 locs1 ?_ hS1 ls hl2)
  rw [ea, eb, ed] at hP1
  rw [← hE, ← tv_wl_set]
  exact hP1
end TV
theorem tv_AA.of {c : tv_c} {N : Nat} {A : Nat → Prop} {H0 H : Heap} {locs : List Loc} (h7 : ∀ E, va_D A (tv_wl N (tv_ad c) E)) (h8 : ∀ q : Nat, H0.size ≤ q → A q) (hS : va_S A H0 H locs) : ∀ q, tv_AA N (tv_ad c) H.size q → A q := by
  intro q h
  rcases h with ⟨k, hk, rfl⟩ | h
  · exact (h7 (fun _ => .inr (0, []))).2 k _ (tv_wl_get hk)
  · exact h8 q (Nat.le_trans hS.1 h)
theorem tv_D.of {N : Nat} {ad : Nat → Nat} {sz : Nat} (hJ : tv_inj N ad) (E : Nat → va_E) : va_D (tv_AA N ad sz) (tv_wl N ad E) := by
  refine ⟨fun i j p q hi hj hpq => ?_, fun k q hk => ?_⟩
  · obtain ⟨h1, rfl⟩ := tv_wl_some hi
    obtain ⟨h2, rfl⟩ := tv_wl_some hj
    exact hJ i j h1 h2 hpq
  · obtain ⟨h1, rfl⟩ := tv_wl_some hk
    exact Or.inl ⟨k, h1, rfl⟩
section TVC
variable {c : tv_c} {N : Nat} {X : tv_X} {cc : ByteArray} {own : String} {Ts : List Cond} {nL : Nat} {rm : Room} {E : Nat → va_E} {pc : Nat} {lv : List (Nat × Value)} {st : List Value}
  {y : MethodName} {ws ws' : List Cond} {rm' : Room} {bytes : ByteArray} {maxL n index : Nat} {ret : Option FieldType} {As rest : List Value} {cn : String} {T : u_T} {Nf ci : Nat} {fs : List Value}
theorem tv_pre {H : Heap} (C : tv_C c N X cc own Ts nL rm) (hP : va_P (tv_D c) vwCl (tv_wl N (tv_ad c) E) H) (U : State) (hU : U.heap = H) (hW : (tv_xs X).WarmedH U.vm) : tv_in c N E H.size U := by
  obtain ⟨c1, c2, c3, c4, c5, c6, c7, c8, c9, c10, c11, c12, c13, c14⟩ := C
  exact ⟨by rw [hU], by rw [hU]; exact hP, va_K.moved hW.alike c6, c9.warm hW, c10⟩
theorem tv_calli {P : Int32 → (Nat → va_E) → Prop} (C : tv_C c N X cc own Ts nL rm) (b : Nat) (hM : tv_Mi c N y ws rm' (.ref (tv_ad c b) :: As) E P) (hg : GoodIn Ts (wsV own index cn y ws)) (hw : ws = Cond.code y bytes maxL ret :: ws') (hd2 : y.cls = cn ∧ y.cls ≠ "java/lang/invoke/MethodHandle" ∧ y.cls ≠ "java/lang/invoke/VarHandle" ∧ (parseMethodDescriptor y.desc).map (fun d => d.parameters.length) = some n) (hrc : rm'.cells = 0 ∧ rm'.slots = 0) (hR : rm'.frames + 1 ≤ rm.frames ∧ 8 + (maxL + 11) + rm'.locals ≤ rm.locals) (hb : b < N) (he : E b = .inr (ci, fs)) (hc : vwCl[ci]? = some (cn, T, Nf)) (hn : As.length = n) (hst : st = As.reverse ++ .ref (tv_ad c b) :: rest) (hcat : (rest.map fun v => v.category).sum ≤ 8) (hd : decode cc pc = .ok (.invokevirtual index, 3)) (kk : ∀ r u, P r u → tv_V c N X u (pc + 3) lv (.int r :: rest)) : tv_V c N X E pc lv st := by
  intro H locs hP hS ls hl2
  subst hst
  have C0 := C
  obtain ⟨c1, c2, c3, c4, c5, c6, c7, c8, c9, c10, c11, c12, c13, c14⟩ := C
  have hF := tv_AA.of c7 c8 hS
  refine va_calli (va_runV (As := As) (rest := rest) ⟨c1, c2, c3, c4, c5⟩ (hM H.size) (cwV n c5 hg hw hrc.1 hrc.2 hd2 (by rw [c12]; exact hR)) ⟨tv_in.blind, va_recv c6 hP hc ((tv_wl_get hb).trans (by rw [he])), fun U hU hW => ⟨rfl, tv_pre C0 hP U hU hW⟩⟩ rfl hn (hl2.1.trans c11) rfl (lv_room hcat) hd ⟨by rw [c12]; exact c13, by rw [c12]; exact c14⟩) hS (fun q _ h => hF q h) hF (fun r u t H1 locs1 ht hvm hw hB hz1 hk1 hS1 => ?_)
  exact kk r u hw H1 locs1 (by rw [← ht]; exact hB) hS1 ls hl2
theorem tv_calll {P : Int64 → (Nat → va_E) → Prop} (C : tv_C c N X cc own Ts nL rm) (b : Nat) (hM : tv_Ml c N y ws rm' (.ref (tv_ad c b) :: As) E P) (hg : GoodIn Ts (wsV own index cn y ws)) (hw : ws = Cond.code y bytes maxL ret :: ws') (hd2 : y.cls = cn ∧ y.cls ≠ "java/lang/invoke/MethodHandle" ∧ y.cls ≠ "java/lang/invoke/VarHandle" ∧ (parseMethodDescriptor y.desc).map (fun d => d.parameters.length) = some n) (hrc : rm'.cells = 0 ∧ rm'.slots = 0) (hR : rm'.frames + 1 ≤ rm.frames ∧ 8 + (maxL + 11) + rm'.locals ≤ rm.locals) (hb : b < N) (he : E b = .inr (ci, fs)) (hc : vwCl[ci]? = some (cn, T, Nf)) (hn : As.length = n) (hst : st = As.reverse ++ .ref (tv_ad c b) :: rest) (hcat : (rest.map fun v => v.category).sum ≤ 8) (hd : decode cc pc = .ok (.invokevirtual index, 3)) (kk : ∀ r u, P r u → tv_V c N X u (pc + 3) lv (.long r :: rest)) : tv_V c N X E pc lv st := by
  intro H locs hP hS ls hl2
  subst hst
  have C0 := C
  obtain ⟨c1, c2, c3, c4, c5, c6, c7, c8, c9, c10, c11, c12, c13, c14⟩ := C
  have hF := tv_AA.of c7 c8 hS
  refine va_calll (va_runV (As := As) (rest := rest) ⟨c1, c2, c3, c4, c5⟩ (hM H.size) (cwV n c5 hg hw hrc.1 hrc.2 hd2 (by rw [c12]; exact hR)) ⟨tv_in.blind, va_recv c6 hP hc ((tv_wl_get hb).trans (by rw [he])), fun U hU hW => ⟨rfl, tv_pre C0 hP U hU hW⟩⟩ rfl hn (hl2.1.trans c11) rfl (lv_room hcat) hd ⟨by rw [c12]; exact c13, by rw [c12]; exact c14⟩) hS (fun q _ h => hF q h) hF (fun r u t H1 locs1 ht hvm hw hB hz1 hk1 hS1 => ?_)
  exact kk r u hw H1 locs1 (by rw [← ht]; exact hB) hS1 ls hl2
theorem tv_callv {P : (Nat → va_E) → Prop} (C : tv_C c N X cc own Ts nL rm) (b : Nat) (hM : tv_Mv c N y ws rm' (.ref (tv_ad c b) :: As) E P) (hg : GoodIn Ts (wsV own index cn y ws)) (hw : ws = Cond.code y bytes maxL ret :: ws') (hd2 : y.cls = cn ∧ y.cls ≠ "java/lang/invoke/MethodHandle" ∧ y.cls ≠ "java/lang/invoke/VarHandle" ∧ (parseMethodDescriptor y.desc).map (fun d => d.parameters.length) = some n) (hrc : rm'.cells = 0 ∧ rm'.slots = 0) (hR : rm'.frames + 1 ≤ rm.frames ∧ 8 + (maxL + 11) + rm'.locals ≤ rm.locals) (hb : b < N) (he : E b = .inr (ci, fs)) (hc : vwCl[ci]? = some (cn, T, Nf)) (hn : As.length = n) (hst : st = As.reverse ++ .ref (tv_ad c b) :: rest) (hcat : (rest.map fun v => v.category).sum ≤ 8) (hd : decode cc pc = .ok (.invokevirtual index, 3)) (kk : ∀ u, P u → tv_V c N X u (pc + 3) lv rest) : tv_V c N X E pc lv st := by
  intro H locs hP hS ls hl2
  subst hst
  have C0 := C
  obtain ⟨c1, c2, c3, c4, c5, c6, c7, c8, c9, c10, c11, c12, c13, c14⟩ := C
  have hF := tv_AA.of c7 c8 hS
  refine va_callv (va_runV (As := As) (rest := rest) ⟨c1, c2, c3, c4, c5⟩ (hM H.size) (cwV n c5 hg hw hrc.1 hrc.2 hd2 (by rw [c12]; exact hR)) ⟨tv_in.blind, va_recv c6 hP hc ((tv_wl_get hb).trans (by rw [he])), fun U hU hW => ⟨rfl, tv_pre C0 hP U hU hW⟩⟩ rfl hn (hl2.1.trans c11) rfl (lv_room hcat) hd ⟨by rw [c12]; exact c13, by rw [c12]; exact c14⟩) hS (fun q _ h => hF q h) hF (fun u t H1 locs1 ht hvm hw hB hz1 hk1 hS1 => ?_)
  exact kk u hw H1 locs1 (by rw [← ht]; exact hB) hS1 ls hl2
theorem tv_callr {P : (Nat → va_E) → Prop} (C : tv_C c N X cc own Ts nL rm) (b : Nat) {d : Nat} (hM : tv_Mr c N y ws rm' (.ref (tv_ad c b) :: As) E d P) (hg : GoodIn Ts (wsV own index cn y ws)) (hw : ws = Cond.code y bytes maxL ret :: ws') (hd2 : y.cls = cn ∧ y.cls ≠ "java/lang/invoke/MethodHandle" ∧ y.cls ≠ "java/lang/invoke/VarHandle" ∧ (parseMethodDescriptor y.desc).map (fun d => d.parameters.length) = some n) (hrc : rm'.cells = 0 ∧ rm'.slots = 0) (hR : rm'.frames + 1 ≤ rm.frames ∧ 8 + (maxL + 11) + rm'.locals ≤ rm.locals) (hb : b < N) (he : E b = .inr (ci, fs)) (hc : vwCl[ci]? = some (cn, T, Nf)) (hn : As.length = n) (hst : st = As.reverse ++ .ref (tv_ad c b) :: rest) (hcat : (rest.map fun v => v.category).sum ≤ 8) (hd : decode cc pc = .ok (.invokevirtual index, 3)) (kk : ∀ u, P u → tv_V c N X u (pc + 3) lv (.ref (tv_ad c d) :: rest)) : tv_V c N X E pc lv st := by
  intro H locs hP hS ls hl2
  subst hst
  have C0 := C
  obtain ⟨c1, c2, c3, c4, c5, c6, c7, c8, c9, c10, c11, c12, c13, c14⟩ := C
  have hF := tv_AA.of c7 c8 hS
  refine va_callr (va_runV (As := As) (rest := rest) ⟨c1, c2, c3, c4, c5⟩ (hM H.size) (cwV n c5 hg hw hrc.1 hrc.2 hd2 (by rw [c12]; exact hR)) ⟨tv_in.blind, va_recv c6 hP hc ((tv_wl_get hb).trans (by rw [he])), fun U hU hW => ⟨rfl, tv_pre C0 hP U hU hW⟩⟩ rfl hn (hl2.1.trans c11) rfl (lv_room hcat) hd ⟨by rw [c12]; exact c13, by rw [c12]; exact c14⟩) hS (fun q _ h => hF q h) hF (fun u ra t H1 locs1 ht hvm hw hB hz1 hk1 hS1 => ?_)
  obtain ⟨rfl, hB⟩ := hB
  exact kk u hw H1 locs1 (by rw [← ht]; exact hB) hS1 ls hl2
theorem tv_callis {P : Int32 → (Nat → va_E) → Prop} (C : tv_C c N X cc own Ts nL rm) (hM : tv_Mi c N y ws rm' As E P) (hg : GoodIn Ts (wsS own index y ws)) (hw : ws = Cond.code y bytes maxL ret :: ws') (hd2 : y.cls = own ∧ y.cls ≠ "java/lang/invoke/MethodHandle" ∧ y.cls ≠ "java/lang/invoke/VarHandle" ∧ (parseMethodDescriptor y.desc).map (fun d => d.parameters.length) = some n) (hrc : rm'.cells = 0 ∧ rm'.slots = 0) (hR : rm'.frames + 1 ≤ rm.frames ∧ 8 + (maxL + 11) + rm'.locals ≤ rm.locals) (hn : As.length = n) (hst : st = As.reverse ++ rest) (hcat : (rest.map fun v => v.category).sum ≤ 8) (hd : decode cc pc = .ok (.invokestatic index, 3)) (kk : ∀ r u, P r u → tv_V c N X u (pc + 3) lv (.int r :: rest)) : tv_V c N X E pc lv st := by
  intro H locs hP hS ls hl2
  subst hst
  have C0 := C
  obtain ⟨c1, c2, c3, c4, c5, c6, c7, c8, c9, c10, c11, c12, c13, c14⟩ := C
  have hF := tv_AA.of c7 c8 hS
  refine va_calli (va_runS (As := As) (rest := rest) ⟨c1, c2, c3, c4, c5⟩ (hM H.size) (cwS n c5 hg hw hrc.1 hrc.2 hd2 (by rw [c12]; exact hR)) ⟨tv_in.blind, fun U hU hW => ⟨rfl, tv_pre C0 hP U hU hW⟩⟩ rfl hn (hl2.1.trans c11) rfl (lv_room hcat) hd ⟨by rw [c12]; exact c13, by rw [c12]; exact c14⟩) hS (fun q _ h => hF q h) hF (fun r u t H1 locs1 ht hvm hw hB hz1 hk1 hS1 => ?_)
  exact kk r u hw H1 locs1 (by rw [← ht]; exact hB) hS1 ls hl2
/-- a nest mate's static method -/
theorem tv_callisN {P : Int32 → (Nat → va_E) → Prop} {host : String} (C : tv_C c N X cc own Ts nL rm) (hM : tv_Mi c N y ws rm' As E P) (hg : GoodIn Ts ws) (hw : ws = Cond.code y bytes maxL ret :: ws') (hl : tv_N (tv_xs X) → va_Nw (.methodLinkNest own index y host) (tv_xs X)) (hini : Cond.initialized y.cls ∈ Ts) (hsta : Cond.static y ∈ Ts) (hd2 : y.cls ≠ "java/lang/invoke/MethodHandle" ∧ y.cls ≠ "java/lang/invoke/VarHandle" ∧ (parseMethodDescriptor y.desc).map (fun d => d.parameters.length) = some n) (hrc : rm'.cells = 0 ∧ rm'.slots = 0) (hR : rm'.frames + 1 ≤ rm.frames ∧ 8 + (maxL + 11) + rm'.locals ≤ rm.locals) (hn : As.length = n) (hst : st = As.reverse ++ rest) (hcat : (rest.map fun v => v.category).sum ≤ 8) (hd : decode cc pc = .ok (.invokestatic index, 3)) (kk : ∀ r u, P r u → tv_V c N X u (pc + 3) lv (.int r :: rest)) : tv_V c N X E pc lv st := by
  intro H locs hP hS ls hl2
  subst hst
  have C0 := C
  obtain ⟨c1, c2, c3, c4, c5, c6, c7, c8, c9, c10, c11, c12, c13, c14⟩ := C
  have hF := tv_AA.of c7 c8 hS
  refine va_calli (va_runSN (As := As) (rest := rest) ⟨c1, c2, c3, c4, c5⟩ (hM H.size) ⟨va_cnB n c5 hg hw hrc.1 hrc.2 (hl c9) (c5 _ hini) hd2 (by rw [c12]; exact hR), c5 _ hsta, trivial⟩ ⟨tv_in.blind, fun U hU hW => ⟨rfl, tv_pre C0 hP U hU hW⟩⟩ rfl hn (hl2.1.trans c11) rfl (lv_room hcat) hd ⟨by rw [c12]; exact c13, by rw [c12]; exact c14⟩) hS (fun q _ h => hF q h) hF (fun r u t H1 locs1 ht hvm hw hB hz1 hk1 hS1 => ?_)
  exact kk r u hw H1 locs1 (by rw [← ht]; exact hB) hS1 ls hl2
end TVC
/-- the ends, and a method's contract out of its walk -/
def tv_Ri (c : tv_c) (N : Nat) (X : tv_X) (cc : ByteArray) (P : Int32 → (Nat → va_E) → Prop) : Prop := ∀ (E : Nat → va_E) (pc : Nat) (lv : List (Nat × Value)) (r : Int32), decode cc pc = .ok (.ireturn, 1) → P r E → tv_V c N X E pc lv [.int r]
def tv_Rz (c : tv_c) (N : Nat) (X : tv_X) (cc : ByteArray) (P : Int32 → (Nat → va_E) → Prop) : Prop := ∀ (E : Nat → va_E) (pc : Nat) (lv : List (Nat × Value)) (r : Int32), decode cc pc = .ok (.ireturn, 1) → narrow .boolean (.int r) = .int r → P r E → tv_V c N X E pc lv [.int r]
def tv_Rl (c : tv_c) (N : Nat) (X : tv_X) (cc : ByteArray) (P : Int64 → (Nat → va_E) → Prop) : Prop := ∀ (E : Nat → va_E) (pc : Nat) (lv : List (Nat × Value)) (r : Int64), decode cc pc = .ok (.lreturn, 1) → P r E → tv_V c N X E pc lv [.long r]
def tv_Rv (c : tv_c) (N : Nat) (X : tv_X) (cc : ByteArray) (P : (Nat → va_E) → Prop) : Prop := ∀ (E : Nat → va_E) (pc : Nat) (lv : List (Nat × Value)), decode cc pc = .ok (.return_, 1) → P E → tv_V c N X E pc lv []
def tv_Rr (c : tv_c) (N : Nat) (X : tv_X) (cc : ByteArray) (b : Nat) (P : (Nat → va_E) → Prop) : Prop := ∀ (E : Nat → va_E) (pc : Nat) (lv : List (Nat × Value)), decode cc pc = .ok (.areturn, 1) → P E → tv_V c N X E pc lv [.ref (tv_ad c b)]
section TVM
variable {c : tv_c} {N : Nat} {y : MethodName} {ws ws' : List Cond} {rm : Room} {cc : ByteArray} {maxL : Nat} {own : String} {av : List Value} {E : Nat → va_E}
theorem tv_metI {P : Int32 → (Nat → va_E) → Prop} (hy : plainName y.cls = true) (hw : ws = Cond.code y cc maxL (some .int) :: ws') (hown : y.cls = own) (hloc : (lg_sl av).length ≤ maxL) (body : ∀ X : tv_X, tv_C c N X cc own ws maxL rm → tv_Ri c N X cc P → tv_V c N X E 0 (lv_args 0 av) []) : tv_Mi c N y ws rm av E P := by
  intro sz
  refine Met.ofW (cc := cc) (maxL := maxL) (ret := some .int) hy hw ?_
  intro p e s m args below meth c' s₁ B hml hv
  obtain ⟨rfl, hsz, hP, hK, hN, hJ⟩ := hv
  subst hsz
  have hb := body (p, e, rm, s, m, av.toArray, below, meth, c', MQ below (va_Qi P (tv_out c N) (tv_AA N (tv_ad c) s.heap.size)) av.toArray s 0 0 (tv_AA N (tv_ad c) s.heap.size), tv_AA N (tv_ad c) s.heap.size, maxL, 0, 0)
    ⟨B.exec, B.bytes, hml, hown ▸ findClass_of_methodNamed B.named, atoms_spec (ws := ws) B.pre, hK, tv_D.of hJ, fun q h => Or.inr h, hN, hJ, rfl, rfl, Nat.zero_le _, Nat.zero_le _⟩
    (fun E' pc lv r hd hp H locs hP hS ls hl => W.iret (v := r) B.exec B.bytes B.returns (fun t ht hW => ⟨⟨r, E', rfl, hp, by show va_P _ _ _ _; rw [ht]; exact hP⟩, hS.F ht⟩) hS.2.2 hd (hlocks := B.notSynchronized))
    s.heap [] hP va_S.rf _ (lv_entry av (n := maxL) hloc)
  rw [lg_entry_eq]
  exact hb
theorem tv_metZ {P : Int32 → (Nat → va_E) → Prop} (hy : plainName y.cls = true) (hw : ws = Cond.code y cc maxL (some .boolean) :: ws') (hown : y.cls = own) (hloc : (lg_sl av).length ≤ maxL) (body : ∀ X : tv_X, tv_C c N X cc own ws maxL rm → tv_Rz c N X cc P → tv_V c N X E 0 (lv_args 0 av) []) : tv_Mi c N y ws rm av E P := by
  intro sz
  refine Met.ofW (cc := cc) (maxL := maxL) (ret := some .boolean) hy hw ?_
  intro p e s m args below meth c' s₁ B hml hv
  obtain ⟨rfl, hsz, hP, hK, hN, hJ⟩ := hv
  subst hsz
  have hb := body (p, e, rm, s, m, av.toArray, below, meth, c', MQ below (va_Qi P (tv_out c N) (tv_AA N (tv_ad c) s.heap.size)) av.toArray s 0 0 (tv_AA N (tv_ad c) s.heap.size), tv_AA N (tv_ad c) s.heap.size, maxL, 0, 0)
    ⟨B.exec, B.bytes, hml, hown ▸ findClass_of_methodNamed B.named, atoms_spec (ws := ws) B.pre, hK, tv_D.of hJ, fun q h => Or.inr h, hN, hJ, rfl, rfl, Nat.zero_le _, Nat.zero_le _⟩
    (fun E' pc lv r hd hn hp H locs hP hS ls hl => W.zret (v := r) B.exec B.bytes B.returns hn (fun t ht hW => ⟨⟨r, E', rfl, hp, by show va_P _ _ _ _; rw [ht]; exact hP⟩, hS.F ht⟩) hS.2.2 hd (hlocks := B.notSynchronized))
    s.heap [] hP va_S.rf _ (lv_entry av (n := maxL) hloc)
  rw [lg_entry_eq]
  exact hb
theorem tv_metL {P : Int64 → (Nat → va_E) → Prop} (hy : plainName y.cls = true) (hw : ws = Cond.code y cc maxL (some .long) :: ws') (hown : y.cls = own) (hloc : (lg_sl av).length ≤ maxL) (body : ∀ X : tv_X, tv_C c N X cc own ws maxL rm → tv_Rl c N X cc P → tv_V c N X E 0 (lv_args 0 av) []) : tv_Ml c N y ws rm av E P := by
  intro sz
  refine Met.ofW (cc := cc) (maxL := maxL) (ret := some .long) hy hw ?_
  intro p e s m args below meth c' s₁ B hml hv
  obtain ⟨rfl, hsz, hP, hK, hN, hJ⟩ := hv
  subst hsz
  have hb := body (p, e, rm, s, m, av.toArray, below, meth, c', MQ below (va_Ql P (tv_out c N) (tv_AA N (tv_ad c) s.heap.size)) av.toArray s 0 0 (tv_AA N (tv_ad c) s.heap.size), tv_AA N (tv_ad c) s.heap.size, maxL, 0, 0)
    ⟨B.exec, B.bytes, hml, hown ▸ findClass_of_methodNamed B.named, atoms_spec (ws := ws) B.pre, hK, tv_D.of hJ, fun q h => Or.inr h, hN, hJ, rfl, rfl, Nat.zero_le _, Nat.zero_le _⟩
    (fun E' pc lv r hd hp H locs hP hS ls hl => W.lret (v := r) B.exec B.bytes B.returns (fun t ht hW => ⟨⟨r, E', rfl, hp, by show va_P _ _ _ _; rw [ht]; exact hP⟩, hS.F ht⟩) hS.2.2 hd (hlocks := B.notSynchronized))
    s.heap [] hP va_S.rf _ (lv_entry av (n := maxL) hloc)
  rw [lg_entry_eq]
  exact hb
theorem tv_metV {P : (Nat → va_E) → Prop} (hy : plainName y.cls = true) (hw : ws = Cond.code y cc maxL none :: ws') (hown : y.cls = own) (hloc : (lg_sl av).length ≤ maxL) (body : ∀ X : tv_X, tv_C c N X cc own ws maxL rm → tv_Rv c N X cc P → tv_V c N X E 0 (lv_args 0 av) []) : tv_Mv c N y ws rm av E P := by
  intro sz
  refine Met.ofW (cc := cc) (maxL := maxL) (ret := none) hy hw ?_
  intro p e s m args below meth c' s₁ B hml hv
  obtain ⟨rfl, hsz, hP, hK, hN, hJ⟩ := hv
  subst hsz
  have hb := body (p, e, rm, s, m, av.toArray, below, meth, c', MQ below (va_Qv P (tv_out c N) (tv_AA N (tv_ad c) s.heap.size)) av.toArray s 0 0 (tv_AA N (tv_ad c) s.heap.size), tv_AA N (tv_ad c) s.heap.size, maxL, 0, 0)
    ⟨B.exec, B.bytes, hml, hown ▸ findClass_of_methodNamed B.named, atoms_spec (ws := ws) B.pre, hK, tv_D.of hJ, fun q h => Or.inr h, hN, hJ, rfl, rfl, Nat.zero_le _, Nat.zero_le _⟩
    (fun E' pc lv hd hp H locs hP hS ls hl => W.vret B.exec B.bytes B.returns (fun t ht hW => ⟨⟨E', rfl, hp, by show va_P _ _ _ _; rw [ht]; exact hP⟩, hS.F ht⟩) hS.2.2 hd (hlocks := B.notSynchronized))
    s.heap [] hP va_S.rf _ (lv_entry av (n := maxL) hloc)
  rw [lg_entry_eq]
  exact hb
theorem tv_metR {P : (Nat → va_E) → Prop} {b : Nat} {rt : String} (hy : plainName y.cls = true) (hw : ws = Cond.code y cc maxL (some (.object rt)) :: ws') (hown : y.cls = own) (hloc : (lg_sl av).length ≤ maxL) (body : ∀ X : tv_X, tv_C c N X cc own ws maxL rm → tv_Rr c N X cc b P → tv_V c N X E 0 (lv_args 0 av) []) : tv_Mr c N y ws rm av E b P := by
  intro sz
  refine Met.ofW (cc := cc) (maxL := maxL) (ret := some (.object rt)) hy hw ?_
  intro p e s m args below meth c' s₁ B hml hv
  obtain ⟨rfl, hsz, hP, hK, hN, hJ⟩ := hv
  subst hsz
  have hb := body (p, e, rm, s, m, av.toArray, below, meth, c', MQ below (va_Qr P (fun u a t => a = tv_ad c b ∧ tv_out c N u t) (tv_AA N (tv_ad c) s.heap.size)) av.toArray s 0 0 (tv_AA N (tv_ad c) s.heap.size), tv_AA N (tv_ad c) s.heap.size, maxL, 0, 0)
    ⟨B.exec, B.bytes, hml, hown ▸ findClass_of_methodNamed B.named, atoms_spec (ws := ws) B.pre, hK, tv_D.of hJ, fun q h => Or.inr h, hN, hJ, rfl, rfl, Nat.zero_le _, Nat.zero_le _⟩
    (fun E' pc lv hd hp H locs hP hS ls hl => W.aret (v := .ref (tv_ad c b)) B.exec B.bytes B.returns (Or.inl ⟨_, rfl⟩) (Or.inr ⟨_, rfl⟩) (fun t ht hW => ⟨⟨E', tv_ad c b, rfl, hp, rfl, by show va_P _ _ _ _; rw [ht]; exact hP⟩, hS.F ht⟩) hS.2.2 hd (hlocks := B.notSynchronized))
    s.heap [] hP va_S.rf _ (lv_entry av (n := maxL) hloc)
  rw [lg_entry_eq]
  exact hb
end TVM
