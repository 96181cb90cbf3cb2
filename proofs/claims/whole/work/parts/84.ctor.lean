/-! the constructors -/
/-- the places of an array of objects, the first i of them filled: cells from b on, or every second one -/
def fq (c : tv_c) (b i : Nat) : Nat → Option Nat := fun j => if j < i then some (tv_ad c (b + j)) else none
def fr (c : tv_c) (b i : Nat) : Nat → Option Nat := fun j => if j < i then some (tv_ad c (b + 2 * j)) else none
theorem fq_s (c : tv_c) (b i : Nat) : va_up (fq c b i) i (some (tv_ad c (b + i))) = fq c b (i + 1) := by
  funext j
  unfold va_up fq
  by_cases h : j = i
  · subst h
    rw [if_pos rfl, if_pos (by omega)]
  · rw [if_neg h]
    by_cases h2 : j < i
    · rw [if_pos h2, if_pos (by omega)]
    · rw [if_neg h2, if_neg (by omega)]
theorem fr_s (c : tv_c) (b i : Nat) : va_up (fr c b i) i (some (tv_ad c (b + 2 * i))) = fr c b (i + 1) := by
  funext j
  unfold va_up fr
  by_cases h : j = i
  · subst h
    rw [if_pos rfl, if_pos (by omega)]
  · rw [if_neg h]
    by_cases h2 : j < i
    · rw [if_pos h2, if_pos (by omega)]
    · rw [if_neg h2, if_neg (by omega)]
def sb0 : Nat → Int32 := fun j => if j < 4 then 0 else -9
/-- each cell as it is made -/
def bE (c : tv_c) : Nat → va_E := fun k => match k with
  | 0 => .inr (7, [.null, .null, .null, .null, .null, .int 0, .int 0])
  | 1 => .inl (tv_kk c 2, 4, .inr (.inr (.inr (.inr (fr c 52 0)))))
  | 2 => .inr (6, [.null, .null, .null, .int 0, .int 0, .int 0, .int 0, .int 0, .int 0, .int 0, .int 0])
  | 3 => .inl (tv_kk c 3, 24, .inr (.inr (.inr (.inr (fq c 6 0)))))
  | 4 => .inl (tv_kk c 4, 6, .inr (.inr (.inr (.inr (fr c 30 0)))))
  | 5 => .inl (tv_kk c 0, 12, .inl (fun _ => 0))
  | 6 => .inr (0, [.int 0, .int 0, .int 0, .int 0, .int 0])
  | 7 => .inr (0, [.int 0, .int 0, .int 0, .int 0, .int 0])
  | 8 => .inr (0, [.int 0, .int 0, .int 0, .int 0, .int 0])
  | 9 => .inr (0, [.int 0, .int 0, .int 0, .int 0, .int 0])
  | 10 => .inr (0, [.int 0, .int 0, .int 0, .int 0, .int 0])
  | 11 => .inr (0, [.int 0, .int 0, .int 0, .int 0, .int 0])
  | 12 => .inr (0, [.int 0, .int 0, .int 0, .int 0, .int 0])
  | 13 => .inr (0, [.int 0, .int 0, .int 0, .int 0, .int 0])
  | 14 => .inr (0, [.int 0, .int 0, .int 0, .int 0, .int 0])
  | 15 => .inr (0, [.int 0, .int 0, .int 0, .int 0, .int 0])
  | 16 => .inr (0, [.int 0, .int 0, .int 0, .int 0, .int 0])
  | 17 => .inr (0, [.int 0, .int 0, .int 0, .int 0, .int 0])
  | 18 => .inr (0, [.int 0, .int 0, .int 0, .int 0, .int 0])
  | 19 => .inr (0, [.int 0, .int 0, .int 0, .int 0, .int 0])
  | 20 => .inr (0, [.int 0, .int 0, .int 0, .int 0, .int 0])
  | 21 => .inr (0, [.int 0, .int 0, .int 0, .int 0, .int 0])
  | 22 => .inr (0, [.int 0, .int 0, .int 0, .int 0, .int 0])
  | 23 => .inr (0, [.int 0, .int 0, .int 0, .int 0, .int 0])
  | 24 => .inr (0, [.int 0, .int 0, .int 0, .int 0, .int 0])
  | 25 => .inr (0, [.int 0, .int 0, .int 0, .int 0, .int 0])
  | 26 => .inr (0, [.int 0, .int 0, .int 0, .int 0, .int 0])
  | 27 => .inr (0, [.int 0, .int 0, .int 0, .int 0, .int 0])
  | 28 => .inr (0, [.int 0, .int 0, .int 0, .int 0, .int 0])
  | 29 => .inr (0, [.int 0, .int 0, .int 0, .int 0, .int 0])
  | 30 => .inr (1, [.null, .int 0])
  | 31 => .inl (tv_kk c 0, 3, .inl (fun _ => 0))
  | 32 => .inr (1, [.null, .int 0])
  | 33 => .inl (tv_kk c 0, 3, .inl (fun _ => 0))
  | 34 => .inr (1, [.null, .int 0])
  | 35 => .inl (tv_kk c 0, 3, .inl (fun _ => 0))
  | 36 => .inr (1, [.null, .int 0])
  | 37 => .inl (tv_kk c 0, 3, .inl (fun _ => 0))
  | 38 => .inr (1, [.null, .int 0])
  | 39 => .inl (tv_kk c 0, 3, .inl (fun _ => 0))
  | 40 => .inr (1, [.null, .int 0])
  | 41 => .inl (tv_kk c 0, 3, .inl (fun _ => 0))
  | 42 => .inr (2, [.null, .null, .null])
  | 43 => .inl (tv_kk c 0, 200, .inl (fun _ => 0))
  | 44 => .inl (tv_kk c 0, 24, .inl (fun _ => 0))
  | 45 => .inr (3, [.null, .null, .null, .null, .null, .int 0, .int 0])
  | 46 => .inl (tv_kk c 0, 4, .inl (fun _ => 0))
  | 47 => .inr (1, [.null, .int 0])
  | 48 => .inl (tv_kk c 0, 3, .inl (fun _ => 0))
  | 49 => .inl (tv_kk c 0, 8, .inl (fun _ => 0))
  | 50 => .inl (tv_kk c 0, 4, .inl (fun _ => 0))
  | 51 => .inr (4, [.null, .null, .int 0, .int 0, .int 0])
  | 52 => .inr (5, [.null, .int 0, .int 0, .int 0])
  | 53 => .inl (tv_kk c 0, 40, .inl (fun _ => 0))
  | 54 => .inr (5, [.null, .int 0, .int 0, .int 0])
  | 55 => .inl (tv_kk c 0, 40, .inl (fun _ => 0))
  | 56 => .inr (5, [.null, .int 0, .int 0, .int 0])
  | 57 => .inl (tv_kk c 0, 40, .inl (fun _ => 0))
  | 58 => .inr (5, [.null, .int 0, .int 0, .int 0])
  | 59 => .inl (tv_kk c 0, 40, .inl (fun _ => 0))
  | 60 => .inr (8, [.int 0, .int 0, .null, .null, .null, .int 0, .int 0, .int 0, .int 0, .int 0, .null, .null, .null, .null, .null, .int 0, .int 0, .int 0, .null, .int 0, .null, .null, .int 0, .null, .null, .int 0, .null, .int 0, .null, .null, .null, .null, .int 0, .int 0, .int 0])
  | 61 => .inl (tv_kk c 0, 4, .inl (sb0))
  | 62 => .inl (tv_kk c 0, 4, .inl (fun _ => 0))
  | 63 => .inl (tv_kk c 0, 160, .inl (fun _ => 0))
  | 64 => .inl (tv_kk c 0, 24, .inl (fun _ => 0))
  | 65 => .inl (tv_kk c 0, 24, .inl (fun _ => 0))
  | 66 => .inl (tv_kk c 0, 24, .inl (fun _ => 0))
  | 67 => .inl (tv_kk c 0, 24, .inl (fun _ => 0))
  | 68 => .inl (tv_kk c 1, 24, .inl (fun _ => 0))
  | 69 => .inl (tv_kk c 0, 24, .inl (fun _ => 0))
  | 70 => .inl (tv_kk c 0, 6, .inl (fun _ => 0))
  | 71 => .inl (tv_kk c 0, 18, .inl (fun _ => 0))
  | 72 => .inl (tv_kk c 0, 12, .inl (fun _ => 0))
  | 73 => .inl (tv_kk c 0, 4, .inl (fun _ => 0))
  | 74 => .inl (tv_kk c 0, 3, .inl (fun _ => 0))
  | 75 => .inl (tv_kk c 0, 4, .inl (fun _ => 0))
  | 76 => .inl (tv_kk c 0, 24, .inl (fun _ => 0))
  | 77 => .inl (tv_kk c 0, 24, .inl (fun _ => 0))
  | 78 => .inl (tv_kk c 0, 24, .inl (fun _ => 0))
  | _ => .inr (0, [])
set_option maxRecDepth 20000 in
theorem wi_X0_init_ol : Cond.methodLink RX0 1 objectInit ∈ wsX0_init := by decide +kernel
set_option maxRecDepth 20000 in
theorem wi_X0_init_oi : Cond.instanceMethod objectInit ∈ wsX0_init := by decide +kernel
set_option maxRecDepth 20000 in
theorem wi_X0_init_oc : Cond.code objectInit ⟨#[0xb1]⟩ 1 none ∈ wsX0_init := by decide +kernel
set_option maxRecDepth 20000 in
theorem wi_X1_init_ol : Cond.methodLink RX1 3 objectInit ∈ wsX1_init := by decide +kernel
set_option maxRecDepth 20000 in
theorem wi_X1_init_oi : Cond.instanceMethod objectInit ∈ wsX1_init := by decide +kernel
set_option maxRecDepth 20000 in
theorem wi_X1_init_oc : Cond.code objectInit ⟨#[0xb1]⟩ 1 none ∈ wsX1_init := by decide +kernel
set_option maxRecDepth 20000 in
theorem wi_X1_init_acint : Cond.arrayClass .int ∈ wsX1_init := by decide +kernel
set_option maxRecDepth 20000 in
theorem in_X1_init_X1 : ∀ w ∈ u_ws RX1 TX1 2, w ∈ wsX1_init := by decide +kernel
set_option maxRecDepth 20000 in
theorem lk_X1_init_9 : Cond.fieldLink RX1 9 (TX1 0).1 (TX1 0).2.1 (TX1 0).2.2.1 ∈ wsX1_init := by decide +kernel
set_option maxRecDepth 20000 in
theorem wi_X2_init_ol : Cond.methodLink RX2 3 objectInit ∈ wsX2_init := by decide +kernel
set_option maxRecDepth 20000 in
theorem wi_X2_init_oi : Cond.instanceMethod objectInit ∈ wsX2_init := by decide +kernel
set_option maxRecDepth 20000 in
theorem wi_X2_init_oc : Cond.code objectInit ⟨#[0xb1]⟩ 1 none ∈ wsX2_init := by decide +kernel
set_option maxRecDepth 20000 in
theorem wi_X2_init_acint : Cond.arrayClass .int ∈ wsX2_init := by decide +kernel
set_option maxRecDepth 20000 in
theorem in_X2_init_X2 : ∀ w ∈ u_ws RX2 TX2 3, w ∈ wsX2_init := by decide +kernel
set_option maxRecDepth 20000 in
theorem lk_X2_init_9 : Cond.fieldLink RX2 9 (TX2 1).1 (TX2 1).2.1 (TX2 1).2.2.1 ∈ wsX2_init := by decide +kernel
set_option maxRecDepth 20000 in
theorem lk_X2_init_15 : Cond.fieldLink RX2 15 (TX2 2).1 (TX2 2).2.1 (TX2 2).2.2.1 ∈ wsX2_init := by decide +kernel
set_option maxRecDepth 20000 in
theorem lk_X2_init_18 : Cond.fieldLink RX2 18 (TX2 0).1 (TX2 0).2.1 (TX2 0).2.2.1 ∈ wsX2_init := by decide +kernel
set_option maxRecDepth 20000 in
theorem wi_X3_init_ol : Cond.methodLink RX3 3 objectInit ∈ wsX3_init := by decide +kernel
set_option maxRecDepth 20000 in
theorem wi_X3_init_oi : Cond.instanceMethod objectInit ∈ wsX3_init := by decide +kernel
set_option maxRecDepth 20000 in
theorem wi_X3_init_oc : Cond.code objectInit ⟨#[0xb1]⟩ 1 none ∈ wsX3_init := by decide +kernel
set_option maxRecDepth 20000 in
theorem wi_X3_init_acint : Cond.arrayClass .int ∈ wsX3_init := by decide +kernel
set_option maxRecDepth 20000 in
theorem in_X3_init_X3 : ∀ w ∈ u_ws RX3 TX3 7, w ∈ wsX3_init := by decide +kernel
set_option maxRecDepth 20000 in
theorem lk_X3_init_9 : Cond.fieldLink RX3 9 (TX3 1).1 (TX3 1).2.1 (TX3 1).2.2.1 ∈ wsX3_init := by decide +kernel
set_option maxRecDepth 20000 in
theorem in_X3_init_X1 : ∀ w ∈ u_ws RX1 TX1 2, w ∈ wsX3_init := by decide +kernel
set_option maxRecDepth 20000 in
theorem wi_X3_init_cl15 : Cond.classLink RX3 15 RX1 ∈ wsX3_init := by decide +kernel
set_option maxRecDepth 20000 in
theorem wi_X3_init_insX1 : Cond.instantiable RX1 2 ∈ wsX3_init := by decide +kernel
set_option maxRecDepth 20000 in
theorem wi_X3_init_iniX1 : Cond.initialized RX1 ∈ wsX3_init := by decide +kernel
theorem dfX1 : ∀ j, j < 2 → defaultValue (tyX1 j) = vp_V [.null, .int 0] j := fun j hj => match j, hj with
  | 0, _ => rfl
  | 1, _ => rfl
  | _ + 2, h => absurd h (by omega)
set_option maxRecDepth 20000 in
theorem wi_X3_init_ini_X1_init : Cond.initialized yX1_init.cls ∈ wsX3_init := by decide +kernel
set_option maxRecDepth 20000 in
theorem wi_X3_init_im_X1_init : Cond.instanceMethod yX1_init ∈ wsX3_init := by decide +kernel
theorem yi_X1_init : yX1_init.cls ≠ "java/lang/invoke/MethodHandle" ∧ yX1_init.cls ≠ "java/lang/invoke/VarHandle" ∧ (parseMethodDescriptor yX1_init.desc).map (fun d => d.parameters.length) = some 0 := by decide +kernel
set_option maxRecDepth 20000 in
theorem lk_X3_init_18 : Cond.fieldLink RX3 18 (TX3 2).1 (TX3 2).2.1 (TX3 2).2.2.1 ∈ wsX3_init := by decide +kernel
set_option maxRecDepth 20000 in
theorem lk_X3_init_22 : Cond.fieldLink RX3 22 (TX3 3).1 (TX3 3).2.1 (TX3 3).2.2.1 ∈ wsX3_init := by decide +kernel
set_option maxRecDepth 20000 in
theorem lk_X3_init_25 : Cond.fieldLink RX3 25 (TX3 4).1 (TX3 4).2.1 (TX3 4).2.2.1 ∈ wsX3_init := by decide +kernel
set_option maxRecDepth 20000 in
theorem lk_X3_init_28 : Cond.fieldLink RX3 28 (TX3 0).1 (TX3 0).2.1 (TX3 0).2.2.1 ∈ wsX3_init := by decide +kernel
set_option maxRecDepth 20000 in
theorem wi_X4_init_ol : Cond.methodLink RX4 1 objectInit ∈ wsX4_init := by decide +kernel
set_option maxRecDepth 20000 in
theorem wi_X4_init_oi : Cond.instanceMethod objectInit ∈ wsX4_init := by decide +kernel
set_option maxRecDepth 20000 in
theorem wi_X4_init_oc : Cond.code objectInit ⟨#[0xb1]⟩ 1 none ∈ wsX4_init := by decide +kernel
set_option maxRecDepth 20000 in
theorem in_X4_init_X4 : ∀ w ∈ u_ws RX4 TX4 5, w ∈ wsX4_init := by decide +kernel
set_option maxRecDepth 20000 in
theorem lk_X4_init_7 : Cond.fieldLink RX4 7 (TX4 0).1 (TX4 0).2.1 (TX4 0).2.2.1 ∈ wsX4_init := by decide +kernel
set_option maxRecDepth 20000 in
theorem lk_X4_init_13 : Cond.fieldLink RX4 13 (TX4 1).1 (TX4 1).2.1 (TX4 1).2.2.1 ∈ wsX4_init := by decide +kernel
set_option maxRecDepth 20000 in
theorem wi_X5_init_ol : Cond.methodLink RX5 3 objectInit ∈ wsX5_init := by decide +kernel
set_option maxRecDepth 20000 in
theorem wi_X5_init_oi : Cond.instanceMethod objectInit ∈ wsX5_init := by decide +kernel
set_option maxRecDepth 20000 in
theorem wi_X5_init_oc : Cond.code objectInit ⟨#[0xb1]⟩ 1 none ∈ wsX5_init := by decide +kernel
set_option maxRecDepth 20000 in
theorem wi_X5_init_acint : Cond.arrayClass .int ∈ wsX5_init := by decide +kernel
set_option maxRecDepth 20000 in
theorem in_X5_init_X5 : ∀ w ∈ u_ws RX5 TX5 4, w ∈ wsX5_init := by decide +kernel
set_option maxRecDepth 20000 in
theorem lk_X5_init_9 : Cond.fieldLink RX5 9 (TX5 0).1 (TX5 0).2.1 (TX5 0).2.2.1 ∈ wsX5_init := by decide +kernel
set_option maxRecDepth 20000 in
theorem wi_X8_init_ol : Cond.methodLink RX8 1 objectInit ∈ wsX8_init := by decide +kernel
set_option maxRecDepth 20000 in
theorem wi_X8_init_oi : Cond.instanceMethod objectInit ∈ wsX8_init := by decide +kernel
set_option maxRecDepth 20000 in
theorem wi_X8_init_oc : Cond.code objectInit ⟨#[0xb1]⟩ 1 none ∈ wsX8_init := by decide +kernel
set_option maxRecDepth 20000 in
theorem wi_X8_init_acint : Cond.arrayClass .int ∈ wsX8_init := by decide +kernel
set_option maxRecDepth 20000 in
theorem in_X8_init_X8 : ∀ w ∈ u_ws RX8 TX8 35, w ∈ wsX8_init := by decide +kernel
set_option maxRecDepth 20000 in
theorem lk_X8_init_9 : Cond.fieldLink RX8 9 (TX8 2).1 (TX8 2).2.1 (TX8 2).2.2.1 ∈ wsX8_init := by decide +kernel
set_option maxRecDepth 20000 in
theorem lk_X8_init_13 : Cond.fieldLink RX8 13 (TX8 3).1 (TX8 3).2.1 (TX8 3).2.2.1 ∈ wsX8_init := by decide +kernel
set_option maxRecDepth 20000 in
theorem lk_X8_init_16 : Cond.fieldLink RX8 16 (TX8 4).1 (TX8 4).2.1 (TX8 4).2.2.1 ∈ wsX8_init := by decide +kernel
set_option maxRecDepth 20000 in
theorem lk_X8_init_19 : Cond.fieldLink RX8 19 (TX8 10).1 (TX8 10).2.1 (TX8 10).2.2.1 ∈ wsX8_init := by decide +kernel
set_option maxRecDepth 20000 in
theorem lk_X8_init_22 : Cond.fieldLink RX8 22 (TX8 11).1 (TX8 11).2.1 (TX8 11).2.2.1 ∈ wsX8_init := by decide +kernel
set_option maxRecDepth 20000 in
theorem lk_X8_init_25 : Cond.fieldLink RX8 25 (TX8 12).1 (TX8 12).2.1 (TX8 12).2.2.1 ∈ wsX8_init := by decide +kernel
set_option maxRecDepth 20000 in
theorem lk_X8_init_28 : Cond.fieldLink RX8 28 (TX8 13).1 (TX8 13).2.1 (TX8 13).2.2.1 ∈ wsX8_init := by decide +kernel
set_option maxRecDepth 20000 in
theorem wi_X8_init_acboolean : Cond.arrayClass .boolean ∈ wsX8_init := by decide +kernel
set_option maxRecDepth 20000 in
theorem lk_X8_init_31 : Cond.fieldLink RX8 31 (TX8 14).1 (TX8 14).2.1 (TX8 14).2.2.1 ∈ wsX8_init := by decide +kernel
set_option maxRecDepth 20000 in
theorem lk_X8_init_35 : Cond.fieldLink RX8 35 (TX8 18).1 (TX8 18).2.1 (TX8 18).2.2.1 ∈ wsX8_init := by decide +kernel
set_option maxRecDepth 20000 in
theorem lk_X8_init_38 : Cond.fieldLink RX8 38 (TX8 20).1 (TX8 20).2.1 (TX8 20).2.2.1 ∈ wsX8_init := by decide +kernel
set_option maxRecDepth 20000 in
theorem lk_X8_init_41 : Cond.fieldLink RX8 41 (TX8 21).1 (TX8 21).2.1 (TX8 21).2.2.1 ∈ wsX8_init := by decide +kernel
set_option maxRecDepth 20000 in
theorem lk_X8_init_44 : Cond.fieldLink RX8 44 (TX8 23).1 (TX8 23).2.1 (TX8 23).2.2.1 ∈ wsX8_init := by decide +kernel
set_option maxRecDepth 20000 in
theorem lk_X8_init_47 : Cond.fieldLink RX8 47 (TX8 24).1 (TX8 24).2.1 (TX8 24).2.2.1 ∈ wsX8_init := by decide +kernel
set_option maxRecDepth 20000 in
theorem lk_X8_init_50 : Cond.fieldLink RX8 50 (TX8 26).1 (TX8 26).2.1 (TX8 26).2.2.1 ∈ wsX8_init := by decide +kernel
set_option maxRecDepth 20000 in
theorem lk_X8_init_53 : Cond.fieldLink RX8 53 (TX8 28).1 (TX8 28).2.1 (TX8 28).2.2.1 ∈ wsX8_init := by decide +kernel
set_option maxRecDepth 20000 in
theorem lk_X8_init_56 : Cond.fieldLink RX8 56 (TX8 29).1 (TX8 29).2.1 (TX8 29).2.2.1 ∈ wsX8_init := by decide +kernel
set_option maxRecDepth 20000 in
theorem lk_X8_init_59 : Cond.fieldLink RX8 59 (TX8 30).1 (TX8 30).2.1 (TX8 30).2.2.1 ∈ wsX8_init := by decide +kernel
set_option maxRecDepth 20000 in
theorem lk_X8_init_62 : Cond.fieldLink RX8 62 (TX8 31).1 (TX8 31).2.1 (TX8 31).2.2.1 ∈ wsX8_init := by decide +kernel
set_option maxRecDepth 20000 in
theorem wi_X6_init_ol : Cond.methodLink RX6 3 objectInit ∈ wsX6_init := by decide +kernel
set_option maxRecDepth 20000 in
theorem wi_X6_init_oi : Cond.instanceMethod objectInit ∈ wsX6_init := by decide +kernel
set_option maxRecDepth 20000 in
theorem wi_X6_init_oc : Cond.code objectInit ⟨#[0xb1]⟩ 1 none ∈ wsX6_init := by decide +kernel
set_option maxRecDepth 20000 in
theorem wi_X6_init_cl9 : Cond.classLink RX6 9 RX0 ∈ wsX6_init := by decide +kernel
set_option maxRecDepth 20000 in
theorem in_X6_init_X6 : ∀ w ∈ u_ws RX6 TX6 11, w ∈ wsX6_init := by decide +kernel
set_option maxRecDepth 20000 in
theorem lk_X6_init_11 : Cond.fieldLink RX6 11 (TX6 0).1 (TX6 0).2.1 (TX6 0).2.2.1 ∈ wsX6_init := by decide +kernel
set_option maxRecDepth 20000 in
theorem wi_X6_init_cl17 : Cond.classLink RX6 17 RX1 ∈ wsX6_init := by decide +kernel
set_option maxRecDepth 20000 in
theorem lk_X6_init_19 : Cond.fieldLink RX6 19 (TX6 1).1 (TX6 1).2.1 (TX6 1).2.2.1 ∈ wsX6_init := by decide +kernel
set_option maxRecDepth 20000 in
theorem wi_X6_init_acint : Cond.arrayClass .int ∈ wsX6_init := by decide +kernel
set_option maxRecDepth 20000 in
theorem lk_X6_init_23 : Cond.fieldLink RX6 23 (TX6 2).1 (TX6 2).2.1 (TX6 2).2.2.1 ∈ wsX6_init := by decide +kernel
set_option maxRecDepth 20000 in
theorem in_X6_init_X0 : ∀ w ∈ u_ws RX0 TX0 5, w ∈ wsX6_init := by decide +kernel
set_option maxRecDepth 20000 in
theorem wi_X6_init_insX0 : Cond.instantiable RX0 5 ∈ wsX6_init := by decide +kernel
set_option maxRecDepth 20000 in
theorem wi_X6_init_iniX0 : Cond.initialized RX0 ∈ wsX6_init := by decide +kernel
theorem dfX0 : ∀ j, j < 5 → defaultValue (tyX0 j) = vp_V [.int 0, .int 0, .int 0, .int 0, .int 0] j := fun j hj => match j, hj with
  | 0, _ => rfl
  | 1, _ => rfl
  | 2, _ => rfl
  | 3, _ => rfl
  | 4, _ => rfl
  | _ + 5, h => absurd h (by omega)
set_option maxRecDepth 20000 in
theorem wi_X6_init_ini_X0_init : Cond.initialized yX0_init.cls ∈ wsX6_init := by decide +kernel
set_option maxRecDepth 20000 in
theorem wi_X6_init_im_X0_init : Cond.instanceMethod yX0_init ∈ wsX6_init := by decide +kernel
theorem yi_X0_init : yX0_init.cls ≠ "java/lang/invoke/MethodHandle" ∧ yX0_init.cls ≠ "java/lang/invoke/VarHandle" ∧ (parseMethodDescriptor yX0_init.desc).map (fun d => d.parameters.length) = some 0 := by decide +kernel
set_option maxRecDepth 20000 in
theorem in_X6_init_X1 : ∀ w ∈ u_ws RX1 TX1 2, w ∈ wsX6_init := by decide +kernel
set_option maxRecDepth 20000 in
theorem wi_X6_init_insX1 : Cond.instantiable RX1 2 ∈ wsX6_init := by decide +kernel
set_option maxRecDepth 20000 in
theorem wi_X6_init_iniX1 : Cond.initialized RX1 ∈ wsX6_init := by decide +kernel
set_option maxRecDepth 20000 in
theorem wi_X6_init_ini_X1_init : Cond.initialized yX1_init.cls ∈ wsX6_init := by decide +kernel
set_option maxRecDepth 20000 in
theorem wi_X6_init_im_X1_init : Cond.instanceMethod yX1_init ∈ wsX6_init := by decide +kernel
set_option maxRecDepth 20000 in
theorem wi_X7_init_ol : Cond.methodLink RX7 5 objectInit ∈ wsX7_init := by decide +kernel
set_option maxRecDepth 20000 in
theorem wi_X7_init_oi : Cond.instanceMethod objectInit ∈ wsX7_init := by decide +kernel
set_option maxRecDepth 20000 in
theorem wi_X7_init_oc : Cond.code objectInit ⟨#[0xb1]⟩ 1 none ∈ wsX7_init := by decide +kernel
set_option maxRecDepth 20000 in
theorem wi_X7_init_cl11 : Cond.classLink RX7 11 RX5 ∈ wsX7_init := by decide +kernel
set_option maxRecDepth 20000 in
theorem in_X7_init_X7 : ∀ w ∈ u_ws RX7 TX7 7, w ∈ wsX7_init := by decide +kernel
set_option maxRecDepth 20000 in
theorem lk_X7_init_13 : Cond.fieldLink RX7 13 (TX7 0).1 (TX7 0).2.1 (TX7 0).2.2.1 ∈ wsX7_init := by decide +kernel
set_option maxRecDepth 20000 in
theorem in_X7_init_X6 : ∀ w ∈ u_ws RX6 TX6 11, w ∈ wsX7_init := by decide +kernel
set_option maxRecDepth 20000 in
theorem wi_X7_init_cl17 : Cond.classLink RX7 17 RX6 ∈ wsX7_init := by decide +kernel
set_option maxRecDepth 20000 in
theorem wi_X7_init_insX6 : Cond.instantiable RX6 11 ∈ wsX7_init := by decide +kernel
set_option maxRecDepth 20000 in
theorem wi_X7_init_iniX6 : Cond.initialized RX6 ∈ wsX7_init := by decide +kernel
theorem dfX6 : ∀ j, j < 11 → defaultValue (tyX6 j) = vp_V [.null, .null, .null, .int 0, .int 0, .int 0, .int 0, .int 0, .int 0, .int 0, .int 0] j := fun j hj => match j, hj with
  | 0, _ => rfl
  | 1, _ => rfl
  | 2, _ => rfl
  | 3, _ => rfl
  | 4, _ => rfl
  | 5, _ => rfl
  | 6, _ => rfl
  | 7, _ => rfl
  | 8, _ => rfl
  | 9, _ => rfl
  | 10, _ => rfl
  | _ + 11, h => absurd h (by omega)
set_option maxRecDepth 20000 in
theorem wi_X7_init_ml19 : Cond.methodLink RX7 19 yX6_init ∈ wsX7_init := by decide +kernel
set_option maxRecDepth 20000 in
theorem wi_X7_init_ini_X6_init : Cond.initialized yX6_init.cls ∈ wsX7_init := by decide +kernel
set_option maxRecDepth 20000 in
theorem wi_X7_init_im_X6_init : Cond.instanceMethod yX6_init ∈ wsX7_init := by decide +kernel
theorem yi_X6_init : yX6_init.cls ≠ "java/lang/invoke/MethodHandle" ∧ yX6_init.cls ≠ "java/lang/invoke/VarHandle" ∧ (parseMethodDescriptor yX6_init.desc).map (fun d => d.parameters.length) = some 0 := by decide +kernel
set_option maxRecDepth 20000 in
theorem lk_X7_init_20 : Cond.fieldLink RX7 20 (TX7 1).1 (TX7 1).2.1 (TX7 1).2.2.1 ∈ wsX7_init := by decide +kernel
set_option maxRecDepth 20000 in
theorem in_X7_init_X2 : ∀ w ∈ u_ws RX2 TX2 3, w ∈ wsX7_init := by decide +kernel
set_option maxRecDepth 20000 in
theorem wi_X7_init_cl24 : Cond.classLink RX7 24 RX2 ∈ wsX7_init := by decide +kernel
set_option maxRecDepth 20000 in
theorem wi_X7_init_insX2 : Cond.instantiable RX2 3 ∈ wsX7_init := by decide +kernel
set_option maxRecDepth 20000 in
theorem wi_X7_init_iniX2 : Cond.initialized RX2 ∈ wsX7_init := by decide +kernel
theorem dfX2 : ∀ j, j < 3 → defaultValue (tyX2 j) = vp_V [.null, .null, .null] j := fun j hj => match j, hj with
  | 0, _ => rfl
  | 1, _ => rfl
  | 2, _ => rfl
  | _ + 3, h => absurd h (by omega)
set_option maxRecDepth 20000 in
theorem wi_X7_init_ml26 : Cond.methodLink RX7 26 yX2_init ∈ wsX7_init := by decide +kernel
set_option maxRecDepth 20000 in
theorem wi_X7_init_ini_X2_init : Cond.initialized yX2_init.cls ∈ wsX7_init := by decide +kernel
set_option maxRecDepth 20000 in
theorem wi_X7_init_im_X2_init : Cond.instanceMethod yX2_init ∈ wsX7_init := by decide +kernel
theorem yi_X2_init : yX2_init.cls ≠ "java/lang/invoke/MethodHandle" ∧ yX2_init.cls ≠ "java/lang/invoke/VarHandle" ∧ (parseMethodDescriptor yX2_init.desc).map (fun d => d.parameters.length) = some 1 := by decide +kernel
set_option maxRecDepth 20000 in
theorem lk_X7_init_29 : Cond.fieldLink RX7 29 (TX7 2).1 (TX7 2).2.1 (TX7 2).2.2.1 ∈ wsX7_init := by decide +kernel
set_option maxRecDepth 20000 in
theorem in_X7_init_X3 : ∀ w ∈ u_ws RX3 TX3 7, w ∈ wsX7_init := by decide +kernel
set_option maxRecDepth 20000 in
theorem wi_X7_init_cl33 : Cond.classLink RX7 33 RX3 ∈ wsX7_init := by decide +kernel
set_option maxRecDepth 20000 in
theorem wi_X7_init_insX3 : Cond.instantiable RX3 7 ∈ wsX7_init := by decide +kernel
set_option maxRecDepth 20000 in
theorem wi_X7_init_iniX3 : Cond.initialized RX3 ∈ wsX7_init := by decide +kernel
theorem dfX3 : ∀ j, j < 7 → defaultValue (tyX3 j) = vp_V [.null, .null, .null, .null, .null, .int 0, .int 0] j := fun j hj => match j, hj with
  | 0, _ => rfl
  | 1, _ => rfl
  | 2, _ => rfl
  | 3, _ => rfl
  | 4, _ => rfl
  | 5, _ => rfl
  | 6, _ => rfl
  | _ + 7, h => absurd h (by omega)
set_option maxRecDepth 20000 in
theorem wi_X7_init_ml35 : Cond.methodLink RX7 35 yX3_init ∈ wsX7_init := by decide +kernel
set_option maxRecDepth 20000 in
theorem wi_X7_init_ini_X3_init : Cond.initialized yX3_init.cls ∈ wsX7_init := by decide +kernel
set_option maxRecDepth 20000 in
theorem wi_X7_init_im_X3_init : Cond.instanceMethod yX3_init ∈ wsX7_init := by decide +kernel
theorem yi_X3_init : yX3_init.cls ≠ "java/lang/invoke/MethodHandle" ∧ yX3_init.cls ≠ "java/lang/invoke/VarHandle" ∧ (parseMethodDescriptor yX3_init.desc).map (fun d => d.parameters.length) = some 1 := by decide +kernel
set_option maxRecDepth 20000 in
theorem lk_X7_init_36 : Cond.fieldLink RX7 36 (TX7 3).1 (TX7 3).2.1 (TX7 3).2.2.1 ∈ wsX7_init := by decide +kernel
set_option maxRecDepth 20000 in
theorem in_X7_init_X4 : ∀ w ∈ u_ws RX4 TX4 5, w ∈ wsX7_init := by decide +kernel
set_option maxRecDepth 20000 in
theorem wi_X7_init_cl40 : Cond.classLink RX7 40 RX4 ∈ wsX7_init := by decide +kernel
set_option maxRecDepth 20000 in
theorem wi_X7_init_insX4 : Cond.instantiable RX4 5 ∈ wsX7_init := by decide +kernel
set_option maxRecDepth 20000 in
theorem wi_X7_init_iniX4 : Cond.initialized RX4 ∈ wsX7_init := by decide +kernel
theorem dfX4 : ∀ j, j < 5 → defaultValue (tyX4 j) = vp_V [.null, .null, .int 0, .int 0, .int 0] j := fun j hj => match j, hj with
  | 0, _ => rfl
  | 1, _ => rfl
  | 2, _ => rfl
  | 3, _ => rfl
  | 4, _ => rfl
  | _ + 5, h => absurd h (by omega)
set_option maxRecDepth 20000 in
theorem wi_X7_init_ml42 : Cond.methodLink RX7 42 yX4_init ∈ wsX7_init := by decide +kernel
set_option maxRecDepth 20000 in
theorem wi_X7_init_ini_X4_init : Cond.initialized yX4_init.cls ∈ wsX7_init := by decide +kernel
set_option maxRecDepth 20000 in
theorem wi_X7_init_im_X4_init : Cond.instanceMethod yX4_init ∈ wsX7_init := by decide +kernel
theorem yi_X4_init : yX4_init.cls ≠ "java/lang/invoke/MethodHandle" ∧ yX4_init.cls ≠ "java/lang/invoke/VarHandle" ∧ (parseMethodDescriptor yX4_init.desc).map (fun d => d.parameters.length) = some 2 := by decide +kernel
set_option maxRecDepth 20000 in
theorem lk_X7_init_45 : Cond.fieldLink RX7 45 (TX7 4).1 (TX7 4).2.1 (TX7 4).2.2.1 ∈ wsX7_init := by decide +kernel
set_option maxRecDepth 20000 in
theorem in_X7_init_X5 : ∀ w ∈ u_ws RX5 TX5 4, w ∈ wsX7_init := by decide +kernel
set_option maxRecDepth 20000 in
theorem wi_X7_init_insX5 : Cond.instantiable RX5 4 ∈ wsX7_init := by decide +kernel
set_option maxRecDepth 20000 in
theorem wi_X7_init_iniX5 : Cond.initialized RX5 ∈ wsX7_init := by decide +kernel
theorem dfX5 : ∀ j, j < 4 → defaultValue (tyX5 j) = vp_V [.null, .int 0, .int 0, .int 0] j := fun j hj => match j, hj with
  | 0, _ => rfl
  | 1, _ => rfl
  | 2, _ => rfl
  | 3, _ => rfl
  | _ + 4, h => absurd h (by omega)
set_option maxRecDepth 20000 in
theorem wi_X7_init_ini_X5_init : Cond.initialized yX5_init.cls ∈ wsX7_init := by decide +kernel
set_option maxRecDepth 20000 in
theorem wi_X7_init_im_X5_init : Cond.instanceMethod yX5_init ∈ wsX7_init := by decide +kernel
theorem yi_X5_init : yX5_init.cls ≠ "java/lang/invoke/MethodHandle" ∧ yX5_init.cls ≠ "java/lang/invoke/VarHandle" ∧ (parseMethodDescriptor yX5_init.desc).map (fun d => d.parameters.length) = some 0 := by decide +kernel
set_option maxHeartbeats 4000000 in
set_option maxRecDepth 100000 in
theorem kX0_init (c : tv_c) (E : Nat → va_E) (N k : Nat)  : tg_M c yX0_init wsX0_init { frames := 1, cells := 0, slots := 0, locals := 12 } [.ref (tv_ad c k)] N E N E 0 0 := by
  refine tg_met (by decide +kernel) rfl rfl rfl (Nat.le_of_ble_eq_true rfl) (fun X C hin2 hR => ?_)
  have hNN := C.2.2.2.2.2.2.2.1
  show tg_V c X 0 0 N E 0 [(0, .ref (tv_ad c k))] []
  refine tg_aload_n C dX0_init_0 rfl 0 rfl ?_
  refine tg_obj C wi_X0_init_ol wi_X0_init_oi wi_X0_init_oc (Nat.le_of_ble_eq_true rfl) (Nat.le_of_ble_eq_true rfl) dX0_init_1 ?_
  exact hR _ _ dX0_init_4
set_option maxHeartbeats 4000000 in
set_option maxRecDepth 100000 in
theorem kX1_init (c : tv_c) (E : Nat → va_E) (N k  : Nat) (hk : k < N) (he : E k = .inr (1, [.null, .int 0])) (h0 : E N = .inl (tv_kk c 0, 3, .inl (fun _ => 0))) : tg_M c yX1_init wsX1_init { frames := 1, cells := 1, slots := 3, locals := 12 } [.ref (tv_ad c k)] N E (N + 1) (va_up E k (.inr (1, [.ref (tv_ad c N), .int 0]))) 1 3 := by
  refine tg_met (by decide +kernel) rfl rfl rfl (Nat.le_of_ble_eq_true rfl) (fun X C hin2 hR => ?_)
  have hNN := C.2.2.2.2.2.2.2.1
  show tg_V c X 0 0 N E 0 [(0, .ref (tv_ad c k))] []
  refine tg_aload_n C dX1_init_0 rfl 0 rfl ?_
  refine tg_obj C wi_X1_init_ol wi_X1_init_oi wi_X1_init_oc (Nat.le_of_ble_eq_true rfl) (Nat.le_of_ble_eq_true rfl) dX1_init_1 ?_
  refine tg_aload_n C dX1_init_4 rfl 0 rfl ?_
  refine tg_iconst (v := 3) C dX1_init_5 (by decide) ?_
  refine tg_newi (M := 3) (f := fun _ => 0) C wi_X1_init_acint rfl (by decide) h0 (fun _ _ => rfl) (Nat.le_of_ble_eq_true rfl) (Nat.le_of_ble_eq_true rfl) dX1_init_6 ?_
  show tg_V c X 1 3 (N + 1) E 8 [(0, .ref (tv_ad c k))] [.ref (tv_ad c N), .ref (tv_ad c k)]
  refine tg_put (ci := 1) (fs := [.null, .int 0]) (Cn := RX1) (T := TX1) (Nf := 2) (ty := .array .int) (v := .ref (tv_ad c N)) (E' := (va_up E k (.inr (1, [.ref (tv_ad c N), .int 0])))) C hin2 k (by omega) he rfl in_X1_init_X1 tyX1 tyX1_ok nmX1 0 (by decide) lk_X1_init_9 rfl rfl (by decide +kernel) rfl rfl (Nat.le_of_ble_eq_true rfl) rfl dX1_init_8 ?_
  exact hR _ _ dX1_init_11
set_option maxHeartbeats 4000000 in
set_option maxRecDepth 100000 in
theorem kX2_init (c : tv_c) (E : Nat → va_E) (N k wa : Nat) (hk : k < N) (he : E k = .inr (2, [.null, .null, .null])) (h0 : E N = .inl (tv_kk c 0, 200, .inl (fun _ => 0))) (h1 : E (N + 1) = .inl (tv_kk c 0, 24, .inl (fun _ => 0))) : tg_M c yX2_init wsX2_init { frames := 1, cells := 2, slots := 224, locals := 12 } [.ref (tv_ad c k), .ref (tv_ad c wa)] N E (N + 2) (va_up E k (.inr (2, [.ref (tv_ad c wa), .ref (tv_ad c N), .ref (tv_ad c (N + 1))]))) 2 224 := by
  refine tg_met (by decide +kernel) rfl rfl rfl (Nat.le_of_ble_eq_true rfl) (fun X C hin2 hR => ?_)
  have hNN := C.2.2.2.2.2.2.2.1
  show tg_V c X 0 0 N E 0 [(0, .ref (tv_ad c k)), (1, .ref (tv_ad c wa))] []
  refine tg_aload_n C dX2_init_0 rfl 0 rfl ?_
  refine tg_obj C wi_X2_init_ol wi_X2_init_oi wi_X2_init_oc (Nat.le_of_ble_eq_true rfl) (Nat.le_of_ble_eq_true rfl) dX2_init_1 ?_
  refine tg_aload_n C dX2_init_4 rfl 0 rfl ?_
  refine tg_sipush (v := 200) C dX2_init_5 (by decide) ?_
  refine tg_newi (M := 200) (f := fun _ => 0) C wi_X2_init_acint rfl (by decide) h0 (fun _ _ => rfl) (Nat.le_of_ble_eq_true rfl) (Nat.le_of_ble_eq_true rfl) dX2_init_8 ?_
  show tg_V c X 1 200 (N + 1) E 10 [(0, .ref (tv_ad c k)), (1, .ref (tv_ad c wa))] [.ref (tv_ad c N), .ref (tv_ad c k)]
  refine tg_put (ci := 2) (fs := [.null, .null, .null]) (Cn := RX2) (T := TX2) (Nf := 3) (ty := .array .int) (v := .ref (tv_ad c N)) (E' := (va_up E k (.inr (2, [.null, .ref (tv_ad c N), .null])))) C hin2 k (by omega) he rfl in_X2_init_X2 tyX2 tyX2_ok nmX2 1 (by decide) lk_X2_init_9 rfl rfl (by decide +kernel) rfl rfl (Nat.le_of_ble_eq_true rfl) rfl dX2_init_10 ?_
  refine tg_aload_n C dX2_init_13 rfl 0 rfl ?_
  refine tg_bipush (v := 24) C dX2_init_14 (by decide) ?_
  refine tg_newi (M := 24) (f := fun _ => 0) C wi_X2_init_acint rfl (by decide) ((va_up_n (by omega)).trans h1) (fun _ _ => rfl) (Nat.le_of_ble_eq_true rfl) (Nat.le_of_ble_eq_true rfl) dX2_init_16 ?_
  show tg_V c X 2 224 (N + 2) (va_up E k (.inr (2, [.null, .ref (tv_ad c N), .null]))) 18 [(0, .ref (tv_ad c k)), (1, .ref (tv_ad c wa))] [.ref (tv_ad c (N + 1)), .ref (tv_ad c k)]
  refine tg_put (ci := 2) (fs := [.null, .ref (tv_ad c N), .null]) (Cn := RX2) (T := TX2) (Nf := 3) (ty := .array .int) (v := .ref (tv_ad c (N + 1))) (E' := (va_up E k (.inr (2, [.null, .ref (tv_ad c N), .ref (tv_ad c (N + 1))])))) C hin2 k (by omega) va_up_s rfl in_X2_init_X2 tyX2 tyX2_ok nmX2 2 (by decide) lk_X2_init_15 rfl rfl (by decide +kernel) rfl rfl (Nat.le_of_ble_eq_true rfl) va_up_up dX2_init_18 ?_
  refine tg_aload_n C dX2_init_21 rfl 0 rfl ?_
  refine tg_aload_n C dX2_init_22 rfl 1 rfl ?_
  refine tg_put (ci := 2) (fs := [.null, .ref (tv_ad c N), .ref (tv_ad c (N + 1))]) (Cn := RX2) (T := TX2) (Nf := 3) (ty := .object "TouchUp$Wall") (v := .ref (tv_ad c wa)) (E' := (va_up E k (.inr (2, [.ref (tv_ad c wa), .ref (tv_ad c N), .ref (tv_ad c (N + 1))])))) C hin2 k (by omega) va_up_s rfl in_X2_init_X2 tyX2 tyX2_ok nmX2 0 (by decide) lk_X2_init_18 rfl rfl (by decide +kernel) rfl rfl (Nat.le_of_ble_eq_true rfl) va_up_up dX2_init_23 ?_
  exact hR _ _ dX2_init_26
set_option maxHeartbeats 4000000 in
set_option maxRecDepth 100000 in
theorem kX3_init (c : tv_c) (E : Nat → va_E) (N k wa : Nat) (hk : k < N) (he : E k = .inr (3, [.null, .null, .null, .null, .null, .int 0, .int 0])) (h0 : E N = .inl (tv_kk c 0, 4, .inl (fun _ => 0))) (h1 : E (N + 1) = .inr (1, [.null, .int 0])) (h2 : E (N + 2) = .inl (tv_kk c 0, 3, .inl (fun _ => 0))) (h3 : E (N + 3) = .inl (tv_kk c 0, 8, .inl (fun _ => 0))) (h4 : E (N + 4) = .inl (tv_kk c 0, 4, .inl (fun _ => 0))) : tg_M c yX3_init wsX3_init { frames := 2, cells := 5, slots := 21, locals := 32 } [.ref (tv_ad c k), .ref (tv_ad c wa)] N E (N + 5) (va_up (va_up E (N + 1) (.inr (1, [.ref (tv_ad c (N + 2)), .int 0]))) k (.inr (3, [.ref (tv_ad c wa), .ref (tv_ad c N), .ref (tv_ad c (N + 1)), .ref (tv_ad c (N + 3)), .ref (tv_ad c (N + 4)), .int 0, .int 0]))) 5 21 := by
  refine tg_met (by decide +kernel) rfl rfl rfl (Nat.le_of_ble_eq_true rfl) (fun X C hin2 hR => ?_)
  have hNN := C.2.2.2.2.2.2.2.1
  show tg_V c X 0 0 N E 0 [(0, .ref (tv_ad c k)), (1, .ref (tv_ad c wa))] []
  refine tg_aload_n C dX3_init_0 rfl 0 rfl ?_
  refine tg_obj C wi_X3_init_ol wi_X3_init_oi wi_X3_init_oc (Nat.le_of_ble_eq_true rfl) (Nat.le_of_ble_eq_true rfl) dX3_init_1 ?_
  refine tg_aload_n C dX3_init_4 rfl 0 rfl ?_
  refine tg_iconst (v := 4) C dX3_init_5 (by decide) ?_
  refine tg_newi (M := 4) (f := fun _ => 0) C wi_X3_init_acint rfl (by decide) h0 (fun _ _ => rfl) (Nat.le_of_ble_eq_true rfl) (Nat.le_of_ble_eq_true rfl) dX3_init_6 ?_
  show tg_V c X 1 4 (N + 1) E 8 [(0, .ref (tv_ad c k)), (1, .ref (tv_ad c wa))] [.ref (tv_ad c N), .ref (tv_ad c k)]
  refine tg_put (ci := 3) (fs := [.null, .null, .null, .null, .null, .int 0, .int 0]) (Cn := RX3) (T := TX3) (Nf := 7) (ty := .array .int) (v := .ref (tv_ad c N)) (E' := (va_up E k (.inr (3, [.null, .ref (tv_ad c N), .null, .null, .null, .int 0, .int 0])))) C hin2 k (by omega) he rfl in_X3_init_X3 tyX3 tyX3_ok nmX3 1 (by decide) lk_X3_init_9 rfl rfl (by decide +kernel) rfl rfl (Nat.le_of_ble_eq_true rfl) rfl dX3_init_8 ?_
  refine tg_aload_n C dX3_init_11 rfl 0 rfl ?_
  refine tg_new (ci := 1) (fs := [.null, .int 0]) (Cn := RX1) (T := TX1) (Nf := 2) C rfl in_X3_init_X1 tyX1 tyX1_ok wi_X3_init_cl15 wi_X3_init_insX1 wi_X3_init_iniX1 dfX1 ((va_up_n (by omega)).trans h1) (Nat.le_of_ble_eq_true rfl) (Nat.le_of_ble_eq_true rfl) dX3_init_12 ?_
  show tg_V c X 2 6 (N + 2) (va_up E k (.inr (3, [.null, .ref (tv_ad c N), .null, .null, .null, .int 0, .int 0]))) 15 [(0, .ref (tv_ad c k)), (1, .ref (tv_ad c wa))] [.ref (tv_ad c (N + 1)), .ref (tv_ad c k)]
  refine tg_dup C dX3_init_15 rfl ?_
  refine tg_callN (host := RX7) (As := []) (rest := [.ref (tv_ad c (N + 1)), .ref (tv_ad c k)]) C (kX1_init c (va_up E k (.inr (3, [.null, .ref (tv_ad c N), .null, .null, .null, .int 0, .int 0]))) (N + 2) (N + 1)  (by omega) ((va_up_n (by omega)).trans h1) ((va_up_n (by omega)).trans h2)) ggX3_init_X1_init rfl wi_X3_init_ini_X1_init (fun q => q.2.2.2.1) wi_X3_init_im_X1_init rfl yi_X1_init ⟨rfl, rfl⟩ ⟨(Nat.le_of_ble_eq_true rfl), (Nat.le_of_ble_eq_true rfl)⟩ ⟨(Nat.le_of_ble_eq_true rfl), (Nat.le_of_ble_eq_true rfl)⟩ rfl rfl (Nat.le_of_ble_eq_true rfl) dX3_init_16 ?_
  show tg_V c X 3 9 (N + 3) (va_up (va_up E k (.inr (3, [.null, .ref (tv_ad c N), .null, .null, .null, .int 0, .int 0]))) (N + 1) (.inr (1, [.ref (tv_ad c (N + 2)), .int 0]))) 19 [(0, .ref (tv_ad c k)), (1, .ref (tv_ad c wa))] [.ref (tv_ad c (N + 1)), .ref (tv_ad c k)]
  refine tg_put (ci := 3) (fs := [.null, .ref (tv_ad c N), .null, .null, .null, .int 0, .int 0]) (Cn := RX3) (T := TX3) (Nf := 7) (ty := .object "TouchUp$Coat") (v := .ref (tv_ad c (N + 1))) (E' := (va_up (va_up E (N + 1) (.inr (1, [.ref (tv_ad c (N + 2)), .int 0]))) k (.inr (3, [.null, .ref (tv_ad c N), .ref (tv_ad c (N + 1)), .null, .null, .int 0, .int 0])))) C hin2 k (by omega) ((va_up_n (by omega)).trans va_up_s) rfl in_X3_init_X3 tyX3 tyX3_ok nmX3 2 (by decide) lk_X3_init_18 rfl rfl (by decide +kernel) rfl rfl (Nat.le_of_ble_eq_true rfl) va_up_ov dX3_init_19 ?_
  refine tg_aload_n C dX3_init_22 rfl 0 rfl ?_
  refine tg_bipush (v := 8) C dX3_init_23 (by decide) ?_
  refine tg_newi (M := 8) (f := fun _ => 0) C wi_X3_init_acint rfl (by decide) ((va_up_n (by omega)).trans ((va_up_n (by omega)).trans h3)) (fun _ _ => rfl) (Nat.le_of_ble_eq_true rfl) (Nat.le_of_ble_eq_true rfl) dX3_init_25 ?_
  show tg_V c X 4 17 (N + 4) (va_up (va_up E (N + 1) (.inr (1, [.ref (tv_ad c (N + 2)), .int 0]))) k (.inr (3, [.null, .ref (tv_ad c N), .ref (tv_ad c (N + 1)), .null, .null, .int 0, .int 0]))) 27 [(0, .ref (tv_ad c k)), (1, .ref (tv_ad c wa))] [.ref (tv_ad c (N + 3)), .ref (tv_ad c k)]
  refine tg_put (ci := 3) (fs := [.null, .ref (tv_ad c N), .ref (tv_ad c (N + 1)), .null, .null, .int 0, .int 0]) (Cn := RX3) (T := TX3) (Nf := 7) (ty := .array .int) (v := .ref (tv_ad c (N + 3))) (E' := (va_up (va_up E (N + 1) (.inr (1, [.ref (tv_ad c (N + 2)), .int 0]))) k (.inr (3, [.null, .ref (tv_ad c N), .ref (tv_ad c (N + 1)), .ref (tv_ad c (N + 3)), .null, .int 0, .int 0])))) C hin2 k (by omega) va_up_s rfl in_X3_init_X3 tyX3 tyX3_ok nmX3 3 (by decide) lk_X3_init_22 rfl rfl (by decide +kernel) rfl rfl (Nat.le_of_ble_eq_true rfl) va_up_up dX3_init_27 ?_
  refine tg_aload_n C dX3_init_30 rfl 0 rfl ?_
  refine tg_iconst (v := 4) C dX3_init_31 (by decide) ?_
  refine tg_newi (M := 4) (f := fun _ => 0) C wi_X3_init_acint rfl (by decide) ((va_up_n (by omega)).trans ((va_up_n (by omega)).trans h4)) (fun _ _ => rfl) (Nat.le_of_ble_eq_true rfl) (Nat.le_of_ble_eq_true rfl) dX3_init_32 ?_
  show tg_V c X 5 21 (N + 5) (va_up (va_up E (N + 1) (.inr (1, [.ref (tv_ad c (N + 2)), .int 0]))) k (.inr (3, [.null, .ref (tv_ad c N), .ref (tv_ad c (N + 1)), .ref (tv_ad c (N + 3)), .null, .int 0, .int 0]))) 34 [(0, .ref (tv_ad c k)), (1, .ref (tv_ad c wa))] [.ref (tv_ad c (N + 4)), .ref (tv_ad c k)]
  refine tg_put (ci := 3) (fs := [.null, .ref (tv_ad c N), .ref (tv_ad c (N + 1)), .ref (tv_ad c (N + 3)), .null, .int 0, .int 0]) (Cn := RX3) (T := TX3) (Nf := 7) (ty := .array .int) (v := .ref (tv_ad c (N + 4))) (E' := (va_up (va_up E (N + 1) (.inr (1, [.ref (tv_ad c (N + 2)), .int 0]))) k (.inr (3, [.null, .ref (tv_ad c N), .ref (tv_ad c (N + 1)), .ref (tv_ad c (N + 3)), .ref (tv_ad c (N + 4)), .int 0, .int 0])))) C hin2 k (by omega) va_up_s rfl in_X3_init_X3 tyX3 tyX3_ok nmX3 4 (by decide) lk_X3_init_25 rfl rfl (by decide +kernel) rfl rfl (Nat.le_of_ble_eq_true rfl) va_up_up dX3_init_34 ?_
  refine tg_aload_n C dX3_init_37 rfl 0 rfl ?_
  refine tg_aload_n C dX3_init_38 rfl 1 rfl ?_
  refine tg_put (ci := 3) (fs := [.null, .ref (tv_ad c N), .ref (tv_ad c (N + 1)), .ref (tv_ad c (N + 3)), .ref (tv_ad c (N + 4)), .int 0, .int 0]) (Cn := RX3) (T := TX3) (Nf := 7) (ty := .object "TouchUp$Wall") (v := .ref (tv_ad c wa)) (E' := (va_up (va_up E (N + 1) (.inr (1, [.ref (tv_ad c (N + 2)), .int 0]))) k (.inr (3, [.ref (tv_ad c wa), .ref (tv_ad c N), .ref (tv_ad c (N + 1)), .ref (tv_ad c (N + 3)), .ref (tv_ad c (N + 4)), .int 0, .int 0])))) C hin2 k (by omega) va_up_s rfl in_X3_init_X3 tyX3 tyX3_ok nmX3 0 (by decide) lk_X3_init_28 rfl rfl (by decide +kernel) rfl rfl (Nat.le_of_ble_eq_true rfl) va_up_up dX3_init_39 ?_
  exact hR _ _ dX3_init_42
set_option maxHeartbeats 4000000 in
set_option maxRecDepth 100000 in
theorem kX4_init (c : tv_c) (E : Nat → va_E) (N k wa ed : Nat) (hk : k < N) (he : E k = .inr (4, [.null, .null, .int 0, .int 0, .int 0]))  : tg_M c yX4_init wsX4_init { frames := 1, cells := 0, slots := 0, locals := 12 } [.ref (tv_ad c k), .ref (tv_ad c wa), .ref (tv_ad c ed)] N E N (va_up E k (.inr (4, [.ref (tv_ad c wa), .ref (tv_ad c ed), .int 0, .int 0, .int 0]))) 0 0 := by
  refine tg_met (by decide +kernel) rfl rfl rfl (Nat.le_of_ble_eq_true rfl) (fun X C hin2 hR => ?_)
  have hNN := C.2.2.2.2.2.2.2.1
  show tg_V c X 0 0 N E 0 [(0, .ref (tv_ad c k)), (1, .ref (tv_ad c wa)), (2, .ref (tv_ad c ed))] []
  refine tg_aload_n C dX4_init_0 rfl 0 rfl ?_
  refine tg_obj C wi_X4_init_ol wi_X4_init_oi wi_X4_init_oc (Nat.le_of_ble_eq_true rfl) (Nat.le_of_ble_eq_true rfl) dX4_init_1 ?_
  refine tg_aload_n C dX4_init_4 rfl 0 rfl ?_
  refine tg_aload_n C dX4_init_5 rfl 1 rfl ?_
  refine tg_put (ci := 4) (fs := [.null, .null, .int 0, .int 0, .int 0]) (Cn := RX4) (T := TX4) (Nf := 5) (ty := .object "TouchUp$Wall") (v := .ref (tv_ad c wa)) (E' := (va_up E k (.inr (4, [.ref (tv_ad c wa), .null, .int 0, .int 0, .int 0])))) C hin2 k (by omega) he rfl in_X4_init_X4 tyX4 tyX4_ok nmX4 0 (by decide) lk_X4_init_7 rfl rfl (by decide +kernel) rfl rfl (Nat.le_of_ble_eq_true rfl) rfl dX4_init_6 ?_
  refine tg_aload_n C dX4_init_9 rfl 0 rfl ?_
  refine tg_aload_n C dX4_init_10 rfl 2 rfl ?_
  refine tg_put (ci := 4) (fs := [.ref (tv_ad c wa), .null, .int 0, .int 0, .int 0]) (Cn := RX4) (T := TX4) (Nf := 5) (ty := .object "TouchUp$Edges") (v := .ref (tv_ad c ed)) (E' := (va_up E k (.inr (4, [.ref (tv_ad c wa), .ref (tv_ad c ed), .int 0, .int 0, .int 0])))) C hin2 k (by omega) va_up_s rfl in_X4_init_X4 tyX4 tyX4_ok nmX4 1 (by decide) lk_X4_init_13 rfl rfl (by decide +kernel) rfl rfl (Nat.le_of_ble_eq_true rfl) va_up_up dX4_init_11 ?_
  exact hR _ _ dX4_init_14
set_option maxHeartbeats 4000000 in
set_option maxRecDepth 100000 in
theorem kX5_init (c : tv_c) (E : Nat → va_E) (N k  : Nat) (hk : k < N) (he : E k = .inr (5, [.null, .int 0, .int 0, .int 0])) (h0 : E N = .inl (tv_kk c 0, 40, .inl (fun _ => 0))) : tg_M c yX5_init wsX5_init { frames := 1, cells := 1, slots := 40, locals := 12 } [.ref (tv_ad c k)] N E (N + 1) (va_up E k (.inr (5, [.ref (tv_ad c N), .int 0, .int 0, .int 0]))) 1 40 := by
  refine tg_met (by decide +kernel) rfl rfl rfl (Nat.le_of_ble_eq_true rfl) (fun X C hin2 hR => ?_)
  have hNN := C.2.2.2.2.2.2.2.1
  show tg_V c X 0 0 N E 0 [(0, .ref (tv_ad c k))] []
  refine tg_aload_n C dX5_init_0 rfl 0 rfl ?_
  refine tg_obj C wi_X5_init_ol wi_X5_init_oi wi_X5_init_oc (Nat.le_of_ble_eq_true rfl) (Nat.le_of_ble_eq_true rfl) dX5_init_1 ?_
  refine tg_aload_n C dX5_init_4 rfl 0 rfl ?_
  refine tg_bipush (v := 40) C dX5_init_5 (by decide) ?_
  refine tg_newi (M := 40) (f := fun _ => 0) C wi_X5_init_acint rfl (by decide) h0 (fun _ _ => rfl) (Nat.le_of_ble_eq_true rfl) (Nat.le_of_ble_eq_true rfl) dX5_init_7 ?_
  show tg_V c X 1 40 (N + 1) E 9 [(0, .ref (tv_ad c k))] [.ref (tv_ad c N), .ref (tv_ad c k)]
  refine tg_put (ci := 5) (fs := [.null, .int 0, .int 0, .int 0]) (Cn := RX5) (T := TX5) (Nf := 4) (ty := .array .int) (v := .ref (tv_ad c N)) (E' := (va_up E k (.inr (5, [.ref (tv_ad c N), .int 0, .int 0, .int 0])))) C hin2 k (by omega) he rfl in_X5_init_X5 tyX5 tyX5_ok nmX5 0 (by decide) lk_X5_init_9 rfl rfl (by decide +kernel) rfl rfl (Nat.le_of_ble_eq_true rfl) rfl dX5_init_9 ?_
  exact hR _ _ dX5_init_12
set_option maxHeartbeats 4000000 in
set_option maxRecDepth 100000 in
theorem kX8_init (c : tv_c) (E : Nat → va_E) (N k  : Nat) (hk : k < N) (he : E k = .inr (8, [.int 0, .int 0, .null, .null, .null, .int 0, .int 0, .int 0, .int 0, .int 0, .null, .null, .null, .null, .null, .int 0, .int 0, .int 0, .null, .int 0, .null, .null, .int 0, .null, .null, .int 0, .null, .int 0, .null, .null, .null, .null, .int 0, .int 0, .int 0])) (h0 : E N = .inl (tv_kk c 0, 4, .inl (sb0))) (h1 : E (N + 1) = .inl (tv_kk c 0, 4, .inl (fun _ => 0))) (h2 : E (N + 2) = .inl (tv_kk c 0, 160, .inl (fun _ => 0))) (h3 : E (N + 3) = .inl (tv_kk c 0, 24, .inl (fun _ => 0))) (h4 : E (N + 4) = .inl (tv_kk c 0, 24, .inl (fun _ => 0))) (h5 : E (N + 5) = .inl (tv_kk c 0, 24, .inl (fun _ => 0))) (h6 : E (N + 6) = .inl (tv_kk c 0, 24, .inl (fun _ => 0))) (h7 : E (N + 7) = .inl (tv_kk c 1, 24, .inl (fun _ => 0))) (h8 : E (N + 8) = .inl (tv_kk c 0, 24, .inl (fun _ => 0))) (h9 : E (N + 9) = .inl (tv_kk c 0, 6, .inl (fun _ => 0))) (h10 : E (N + 10) = .inl (tv_kk c 0, 18, .inl (fun _ => 0))) (h11 : E (N + 11) = .inl (tv_kk c 0, 12, .inl (fun _ => 0))) (h12 : E (N + 12) = .inl (tv_kk c 0, 4, .inl (fun _ => 0))) (h13 : E (N + 13) = .inl (tv_kk c 0, 3, .inl (fun _ => 0))) (h14 : E (N + 14) = .inl (tv_kk c 0, 4, .inl (fun _ => 0))) (h15 : E (N + 15) = .inl (tv_kk c 0, 24, .inl (fun _ => 0))) (h16 : E (N + 16) = .inl (tv_kk c 0, 24, .inl (fun _ => 0))) (h17 : E (N + 17) = .inl (tv_kk c 0, 24, .inl (fun _ => 0))) : tg_M c yX8_init wsX8_init { frames := 1, cells := 18, slots := 431, locals := 12 } [.ref (tv_ad c k)] N E (N + 18) (va_up (va_up E N (.inl (tv_kk c 0, 4, .inl (upd (upd (upd (upd sb0 0 (-9)) 1 (-9)) 2 (-9)) 3 (-9))))) k (.inr (8, [.int 0, .int 0, .ref (tv_ad c N), .ref (tv_ad c (N + 1)), .ref (tv_ad c (N + 2)), .int 0, .int 0, .int 0, .int 0, .int 0, .ref (tv_ad c (N + 3)), .ref (tv_ad c (N + 4)), .ref (tv_ad c (N + 5)), .ref (tv_ad c (N + 6)), .ref (tv_ad c (N + 7)), .int 0, .int 0, .int 0, .ref (tv_ad c (N + 8)), .int 0, .ref (tv_ad c (N + 9)), .ref (tv_ad c (N + 10)), .int 0, .ref (tv_ad c (N + 11)), .ref (tv_ad c (N + 12)), .int 0, .ref (tv_ad c (N + 13)), .int 0, .ref (tv_ad c (N + 14)), .ref (tv_ad c (N + 15)), .ref (tv_ad c (N + 16)), .ref (tv_ad c (N + 17)), .int 0, .int 0, .int 0]))) 18 431 := by
  refine tg_met (by decide +kernel) rfl rfl rfl (Nat.le_of_ble_eq_true rfl) (fun X C hin2 hR => ?_)
  have hNN := C.2.2.2.2.2.2.2.1
  show tg_V c X 0 0 N E 0 [(0, .ref (tv_ad c k))] []
  refine tg_aload_n C dX8_init_0 rfl 0 rfl ?_
  refine tg_obj C wi_X8_init_ol wi_X8_init_oi wi_X8_init_oc (Nat.le_of_ble_eq_true rfl) (Nat.le_of_ble_eq_true rfl) dX8_init_1 ?_
  refine tg_aload_n C dX8_init_4 rfl 0 rfl ?_
  refine tg_iconst (v := 4) C dX8_init_5 (by decide) ?_
  refine tg_newi (M := 4) (f := sb0) C wi_X8_init_acint rfl (by decide) h0 (fun _ h => if_pos h) (Nat.le_of_ble_eq_true rfl) (Nat.le_of_ble_eq_true rfl) dX8_init_6 ?_
  show tg_V c X 1 4 (N + 1) E 8 [(0, .ref (tv_ad c k))] [.ref (tv_ad c N), .ref (tv_ad c k)]
  refine tg_dup C dX8_init_8 rfl ?_
  refine tg_iconst (v := 0) C dX8_init_9 (by decide) ?_
  refine tg_bipush (v := (-9)) C dX8_init_10 (by decide) ?_
  refine tg_iast (f := sb0) (E' := (va_up E N (.inl (tv_kk c 0, 4, .inl (upd sb0 0 (-9)))))) C N (by omega) h0 0 rfl (by decide) (by decide) rfl dX8_init_12 ?_
  refine tg_dup C dX8_init_13 rfl ?_
  refine tg_iconst (v := 1) C dX8_init_14 (by decide) ?_
  refine tg_bipush (v := (-9)) C dX8_init_15 (by decide) ?_
  refine tg_iast (f := upd sb0 0 (-9)) (E' := (va_up E N (.inl (tv_kk c 0, 4, .inl (upd (upd sb0 0 (-9)) 1 (-9)))))) C N (by omega) va_up_s 1 rfl (by decide) (by decide) va_up_up dX8_init_17 ?_
  refine tg_dup C dX8_init_18 rfl ?_
  refine tg_iconst (v := 2) C dX8_init_19 (by decide) ?_
  refine tg_bipush (v := (-9)) C dX8_init_20 (by decide) ?_
  refine tg_iast (f := upd (upd sb0 0 (-9)) 1 (-9)) (E' := (va_up E N (.inl (tv_kk c 0, 4, .inl (upd (upd (upd sb0 0 (-9)) 1 (-9)) 2 (-9)))))) C N (by omega) va_up_s 2 rfl (by decide) (by decide) va_up_up dX8_init_22 ?_
  refine tg_dup C dX8_init_23 rfl ?_
  refine tg_iconst (v := 3) C dX8_init_24 (by decide) ?_
  refine tg_bipush (v := (-9)) C dX8_init_25 (by decide) ?_
  refine tg_iast (f := upd (upd (upd sb0 0 (-9)) 1 (-9)) 2 (-9)) (E' := (va_up E N (.inl (tv_kk c 0, 4, .inl (upd (upd (upd (upd sb0 0 (-9)) 1 (-9)) 2 (-9)) 3 (-9)))))) C N (by omega) va_up_s 3 rfl (by decide) (by decide) va_up_up dX8_init_27 ?_
  refine tg_put (ci := 8) (fs := [.int 0, .int 0, .null, .null, .null, .int 0, .int 0, .int 0, .int 0, .int 0, .null, .null, .null, .null, .null, .int 0, .int 0, .int 0, .null, .int 0, .null, .null, .int 0, .null, .null, .int 0, .null, .int 0, .null, .null, .null, .null, .int 0, .int 0, .int 0]) (Cn := RX8) (T := TX8) (Nf := 35) (ty := .array .int) (v := .ref (tv_ad c N)) (E' := (va_up (va_up E N (.inl (tv_kk c 0, 4, .inl (upd (upd (upd (upd sb0 0 (-9)) 1 (-9)) 2 (-9)) 3 (-9))))) k (.inr (8, [.int 0, .int 0, .ref (tv_ad c N), .null, .null, .int 0, .int 0, .int 0, .int 0, .int 0, .null, .null, .null, .null, .null, .int 0, .int 0, .int 0, .null, .int 0, .null, .null, .int 0, .null, .null, .int 0, .null, .int 0, .null, .null, .null, .null, .int 0, .int 0, .int 0])))) C hin2 k (by omega) ((va_up_n (by omega)).trans he) rfl in_X8_init_X8 tyX8 tyX8_ok nmX8 2 (by decide) lk_X8_init_9 rfl rfl (by decide +kernel) rfl rfl (Nat.le_of_ble_eq_true rfl) rfl dX8_init_28 ?_
  refine tg_aload_n C dX8_init_31 rfl 0 rfl ?_
  refine tg_iconst (v := 4) C dX8_init_32 (by decide) ?_
  refine tg_newi (M := 4) (f := fun _ => 0) C wi_X8_init_acint rfl (by decide) ((va_up_n (by omega)).trans ((va_up_n (by omega)).trans h1)) (fun _ _ => rfl) (Nat.le_of_ble_eq_true rfl) (Nat.le_of_ble_eq_true rfl) dX8_init_33 ?_
  show tg_V c X 2 8 (N + 2) (va_up (va_up E N (.inl (tv_kk c 0, 4, .inl (upd (upd (upd (upd sb0 0 (-9)) 1 (-9)) 2 (-9)) 3 (-9))))) k (.inr (8, [.int 0, .int 0, .ref (tv_ad c N), .null, .null, .int 0, .int 0, .int 0, .int 0, .int 0, .null, .null, .null, .null, .null, .int 0, .int 0, .int 0, .null, .int 0, .null, .null, .int 0, .null, .null, .int 0, .null, .int 0, .null, .null, .null, .null, .int 0, .int 0, .int 0]))) 35 [(0, .ref (tv_ad c k))] [.ref (tv_ad c (N + 1)), .ref (tv_ad c k)]
  refine tg_put (ci := 8) (fs := [.int 0, .int 0, .ref (tv_ad c N), .null, .null, .int 0, .int 0, .int 0, .int 0, .int 0, .null, .null, .null, .null, .null, .int 0, .int 0, .int 0, .null, .int 0, .null, .null, .int 0, .null, .null, .int 0, .null, .int 0, .null, .null, .null, .null, .int 0, .int 0, .int 0]) (Cn := RX8) (T := TX8) (Nf := 35) (ty := .array .int) (v := .ref (tv_ad c (N + 1))) (E' := (va_up (va_up E N (.inl (tv_kk c 0, 4, .inl (upd (upd (upd (upd sb0 0 (-9)) 1 (-9)) 2 (-9)) 3 (-9))))) k (.inr (8, [.int 0, .int 0, .ref (tv_ad c N), .ref (tv_ad c (N + 1)), .null, .int 0, .int 0, .int 0, .int 0, .int 0, .null, .null, .null, .null, .null, .int 0, .int 0, .int 0, .null, .int 0, .null, .null, .int 0, .null, .null, .int 0, .null, .int 0, .null, .null, .null, .null, .int 0, .int 0, .int 0])))) C hin2 k (by omega) va_up_s rfl in_X8_init_X8 tyX8 tyX8_ok nmX8 3 (by decide) lk_X8_init_13 rfl rfl (by decide +kernel) rfl rfl (Nat.le_of_ble_eq_true rfl) va_up_up dX8_init_35 ?_
  refine tg_aload_n C dX8_init_38 rfl 0 rfl ?_
  refine tg_sipush (v := 160) C dX8_init_39 (by decide) ?_
  refine tg_newi (M := 160) (f := fun _ => 0) C wi_X8_init_acint rfl (by decide) ((va_up_n (by omega)).trans ((va_up_n (by omega)).trans h2)) (fun _ _ => rfl) (Nat.le_of_ble_eq_true rfl) (Nat.le_of_ble_eq_true rfl) dX8_init_42 ?_
  show tg_V c X 3 168 (N + 3) (va_up (va_up E N (.inl (tv_kk c 0, 4, .inl (upd (upd (upd (upd sb0 0 (-9)) 1 (-9)) 2 (-9)) 3 (-9))))) k (.inr (8, [.int 0, .int 0, .ref (tv_ad c N), .ref (tv_ad c (N + 1)), .null, .int 0, .int 0, .int 0, .int 0, .int 0, .null, .null, .null, .null, .null, .int 0, .int 0, .int 0, .null, .int 0, .null, .null, .int 0, .null, .null, .int 0, .null, .int 0, .null, .null, .null, .null, .int 0, .int 0, .int 0]))) 44 [(0, .ref (tv_ad c k))] [.ref (tv_ad c (N + 2)), .ref (tv_ad c k)]
  refine tg_put (ci := 8) (fs := [.int 0, .int 0, .ref (tv_ad c N), .ref (tv_ad c (N + 1)), .null, .int 0, .int 0, .int 0, .int 0, .int 0, .null, .null, .null, .null, .null, .int 0, .int 0, .int 0, .null, .int 0, .null, .null, .int 0, .null, .null, .int 0, .null, .int 0, .null, .null, .null, .null, .int 0, .int 0, .int 0]) (Cn := RX8) (T := TX8) (Nf := 35) (ty := .array .int) (v := .ref (tv_ad c (N + 2))) (E' := (va_up (va_up E N (.inl (tv_kk c 0, 4, .inl (upd (upd (upd (upd sb0 0 (-9)) 1 (-9)) 2 (-9)) 3 (-9))))) k (.inr (8, [.int 0, .int 0, .ref (tv_ad c N), .ref (tv_ad c (N + 1)), .ref (tv_ad c (N + 2)), .int 0, .int 0, .int 0, .int 0, .int 0, .null, .null, .null, .null, .null, .int 0, .int 0, .int 0, .null, .int 0, .null, .null, .int 0, .null, .null, .int 0, .null, .int 0, .null, .null, .null, .null, .int 0, .int 0, .int 0])))) C hin2 k (by omega) va_up_s rfl in_X8_init_X8 tyX8 tyX8_ok nmX8 4 (by decide) lk_X8_init_16 rfl rfl (by decide +kernel) rfl rfl (Nat.le_of_ble_eq_true rfl) va_up_up dX8_init_44 ?_
  refine tg_aload_n C dX8_init_47 rfl 0 rfl ?_
  refine tg_bipush (v := 24) C dX8_init_48 (by decide) ?_
  refine tg_newi (M := 24) (f := fun _ => 0) C wi_X8_init_acint rfl (by decide) ((va_up_n (by omega)).trans ((va_up_n (by omega)).trans h3)) (fun _ _ => rfl) (Nat.le_of_ble_eq_true rfl) (Nat.le_of_ble_eq_true rfl) dX8_init_50 ?_
  show tg_V c X 4 192 (N + 4) (va_up (va_up E N (.inl (tv_kk c 0, 4, .inl (upd (upd (upd (upd sb0 0 (-9)) 1 (-9)) 2 (-9)) 3 (-9))))) k (.inr (8, [.int 0, .int 0, .ref (tv_ad c N), .ref (tv_ad c (N + 1)), .ref (tv_ad c (N + 2)), .int 0, .int 0, .int 0, .int 0, .int 0, .null, .null, .null, .null, .null, .int 0, .int 0, .int 0, .null, .int 0, .null, .null, .int 0, .null, .null, .int 0, .null, .int 0, .null, .null, .null, .null, .int 0, .int 0, .int 0]))) 52 [(0, .ref (tv_ad c k))] [.ref (tv_ad c (N + 3)), .ref (tv_ad c k)]
  refine tg_put (ci := 8) (fs := [.int 0, .int 0, .ref (tv_ad c N), .ref (tv_ad c (N + 1)), .ref (tv_ad c (N + 2)), .int 0, .int 0, .int 0, .int 0, .int 0, .null, .null, .null, .null, .null, .int 0, .int 0, .int 0, .null, .int 0, .null, .null, .int 0, .null, .null, .int 0, .null, .int 0, .null, .null, .null, .null, .int 0, .int 0, .int 0]) (Cn := RX8) (T := TX8) (Nf := 35) (ty := .array .int) (v := .ref (tv_ad c (N + 3))) (E' := (va_up (va_up E N (.inl (tv_kk c 0, 4, .inl (upd (upd (upd (upd sb0 0 (-9)) 1 (-9)) 2 (-9)) 3 (-9))))) k (.inr (8, [.int 0, .int 0, .ref (tv_ad c N), .ref (tv_ad c (N + 1)), .ref (tv_ad c (N + 2)), .int 0, .int 0, .int 0, .int 0, .int 0, .ref (tv_ad c (N + 3)), .null, .null, .null, .null, .int 0, .int 0, .int 0, .null, .int 0, .null, .null, .int 0, .null, .null, .int 0, .null, .int 0, .null, .null, .null, .null, .int 0, .int 0, .int 0])))) C hin2 k (by omega) va_up_s rfl in_X8_init_X8 tyX8 tyX8_ok nmX8 10 (by decide) lk_X8_init_19 rfl rfl (by decide +kernel) rfl rfl (Nat.le_of_ble_eq_true rfl) va_up_up dX8_init_52 ?_
  refine tg_aload_n C dX8_init_55 rfl 0 rfl ?_
  refine tg_bipush (v := 24) C dX8_init_56 (by decide) ?_
  refine tg_newi (M := 24) (f := fun _ => 0) C wi_X8_init_acint rfl (by decide) ((va_up_n (by omega)).trans ((va_up_n (by omega)).trans h4)) (fun _ _ => rfl) (Nat.le_of_ble_eq_true rfl) (Nat.le_of_ble_eq_true rfl) dX8_init_58 ?_
  show tg_V c X 5 216 (N + 5) (va_up (va_up E N (.inl (tv_kk c 0, 4, .inl (upd (upd (upd (upd sb0 0 (-9)) 1 (-9)) 2 (-9)) 3 (-9))))) k (.inr (8, [.int 0, .int 0, .ref (tv_ad c N), .ref (tv_ad c (N + 1)), .ref (tv_ad c (N + 2)), .int 0, .int 0, .int 0, .int 0, .int 0, .ref (tv_ad c (N + 3)), .null, .null, .null, .null, .int 0, .int 0, .int 0, .null, .int 0, .null, .null, .int 0, .null, .null, .int 0, .null, .int 0, .null, .null, .null, .null, .int 0, .int 0, .int 0]))) 60 [(0, .ref (tv_ad c k))] [.ref (tv_ad c (N + 4)), .ref (tv_ad c k)]
  refine tg_put (ci := 8) (fs := [.int 0, .int 0, .ref (tv_ad c N), .ref (tv_ad c (N + 1)), .ref (tv_ad c (N + 2)), .int 0, .int 0, .int 0, .int 0, .int 0, .ref (tv_ad c (N + 3)), .null, .null, .null, .null, .int 0, .int 0, .int 0, .null, .int 0, .null, .null, .int 0, .null, .null, .int 0, .null, .int 0, .null, .null, .null, .null, .int 0, .int 0, .int 0]) (Cn := RX8) (T := TX8) (Nf := 35) (ty := .array .int) (v := .ref (tv_ad c (N + 4))) (E' := (va_up (va_up E N (.inl (tv_kk c 0, 4, .inl (upd (upd (upd (upd sb0 0 (-9)) 1 (-9)) 2 (-9)) 3 (-9))))) k (.inr (8, [.int 0, .int 0, .ref (tv_ad c N), .ref (tv_ad c (N + 1)), .ref (tv_ad c (N + 2)), .int 0, .int 0, .int 0, .int 0, .int 0, .ref (tv_ad c (N + 3)), .ref (tv_ad c (N + 4)), .null, .null, .null, .int 0, .int 0, .int 0, .null, .int 0, .null, .null, .int 0, .null, .null, .int 0, .null, .int 0, .null, .null, .null, .null, .int 0, .int 0, .int 0])))) C hin2 k (by omega) va_up_s rfl in_X8_init_X8 tyX8 tyX8_ok nmX8 11 (by decide) lk_X8_init_22 rfl rfl (by decide +kernel) rfl rfl (Nat.le_of_ble_eq_true rfl) va_up_up dX8_init_60 ?_
  refine tg_aload_n C dX8_init_63 rfl 0 rfl ?_
  refine tg_bipush (v := 24) C dX8_init_64 (by decide) ?_
  refine tg_newi (M := 24) (f := fun _ => 0) C wi_X8_init_acint rfl (by decide) ((va_up_n (by omega)).trans ((va_up_n (by omega)).trans h5)) (fun _ _ => rfl) (Nat.le_of_ble_eq_true rfl) (Nat.le_of_ble_eq_true rfl) dX8_init_66 ?_
  show tg_V c X 6 240 (N + 6) (va_up (va_up E N (.inl (tv_kk c 0, 4, .inl (upd (upd (upd (upd sb0 0 (-9)) 1 (-9)) 2 (-9)) 3 (-9))))) k (.inr (8, [.int 0, .int 0, .ref (tv_ad c N), .ref (tv_ad c (N + 1)), .ref (tv_ad c (N + 2)), .int 0, .int 0, .int 0, .int 0, .int 0, .ref (tv_ad c (N + 3)), .ref (tv_ad c (N + 4)), .null, .null, .null, .int 0, .int 0, .int 0, .null, .int 0, .null, .null, .int 0, .null, .null, .int 0, .null, .int 0, .null, .null, .null, .null, .int 0, .int 0, .int 0]))) 68 [(0, .ref (tv_ad c k))] [.ref (tv_ad c (N + 5)), .ref (tv_ad c k)]
  refine tg_put (ci := 8) (fs := [.int 0, .int 0, .ref (tv_ad c N), .ref (tv_ad c (N + 1)), .ref (tv_ad c (N + 2)), .int 0, .int 0, .int 0, .int 0, .int 0, .ref (tv_ad c (N + 3)), .ref (tv_ad c (N + 4)), .null, .null, .null, .int 0, .int 0, .int 0, .null, .int 0, .null, .null, .int 0, .null, .null, .int 0, .null, .int 0, .null, .null, .null, .null, .int 0, .int 0, .int 0]) (Cn := RX8) (T := TX8) (Nf := 35) (ty := .array .int) (v := .ref (tv_ad c (N + 5))) (E' := (va_up (va_up E N (.inl (tv_kk c 0, 4, .inl (upd (upd (upd (upd sb0 0 (-9)) 1 (-9)) 2 (-9)) 3 (-9))))) k (.inr (8, [.int 0, .int 0, .ref (tv_ad c N), .ref (tv_ad c (N + 1)), .ref (tv_ad c (N + 2)), .int 0, .int 0, .int 0, .int 0, .int 0, .ref (tv_ad c (N + 3)), .ref (tv_ad c (N + 4)), .ref (tv_ad c (N + 5)), .null, .null, .int 0, .int 0, .int 0, .null, .int 0, .null, .null, .int 0, .null, .null, .int 0, .null, .int 0, .null, .null, .null, .null, .int 0, .int 0, .int 0])))) C hin2 k (by omega) va_up_s rfl in_X8_init_X8 tyX8 tyX8_ok nmX8 12 (by decide) lk_X8_init_25 rfl rfl (by decide +kernel) rfl rfl (Nat.le_of_ble_eq_true rfl) va_up_up dX8_init_68 ?_
  refine tg_aload_n C dX8_init_71 rfl 0 rfl ?_
  refine tg_bipush (v := 24) C dX8_init_72 (by decide) ?_
  refine tg_newi (M := 24) (f := fun _ => 0) C wi_X8_init_acint rfl (by decide) ((va_up_n (by omega)).trans ((va_up_n (by omega)).trans h6)) (fun _ _ => rfl) (Nat.le_of_ble_eq_true rfl) (Nat.le_of_ble_eq_true rfl) dX8_init_74 ?_
  show tg_V c X 7 264 (N + 7) (va_up (va_up E N (.inl (tv_kk c 0, 4, .inl (upd (upd (upd (upd sb0 0 (-9)) 1 (-9)) 2 (-9)) 3 (-9))))) k (.inr (8, [.int 0, .int 0, .ref (tv_ad c N), .ref (tv_ad c (N + 1)), .ref (tv_ad c (N + 2)), .int 0, .int 0, .int 0, .int 0, .int 0, .ref (tv_ad c (N + 3)), .ref (tv_ad c (N + 4)), .ref (tv_ad c (N + 5)), .null, .null, .int 0, .int 0, .int 0, .null, .int 0, .null, .null, .int 0, .null, .null, .int 0, .null, .int 0, .null, .null, .null, .null, .int 0, .int 0, .int 0]))) 76 [(0, .ref (tv_ad c k))] [.ref (tv_ad c (N + 6)), .ref (tv_ad c k)]
  refine tg_put (ci := 8) (fs := [.int 0, .int 0, .ref (tv_ad c N), .ref (tv_ad c (N + 1)), .ref (tv_ad c (N + 2)), .int 0, .int 0, .int 0, .int 0, .int 0, .ref (tv_ad c (N + 3)), .ref (tv_ad c (N + 4)), .ref (tv_ad c (N + 5)), .null, .null, .int 0, .int 0, .int 0, .null, .int 0, .null, .null, .int 0, .null, .null, .int 0, .null, .int 0, .null, .null, .null, .null, .int 0, .int 0, .int 0]) (Cn := RX8) (T := TX8) (Nf := 35) (ty := .array .int) (v := .ref (tv_ad c (N + 6))) (E' := (va_up (va_up E N (.inl (tv_kk c 0, 4, .inl (upd (upd (upd (upd sb0 0 (-9)) 1 (-9)) 2 (-9)) 3 (-9))))) k (.inr (8, [.int 0, .int 0, .ref (tv_ad c N), .ref (tv_ad c (N + 1)), .ref (tv_ad c (N + 2)), .int 0, .int 0, .int 0, .int 0, .int 0, .ref (tv_ad c (N + 3)), .ref (tv_ad c (N + 4)), .ref (tv_ad c (N + 5)), .ref (tv_ad c (N + 6)), .null, .int 0, .int 0, .int 0, .null, .int 0, .null, .null, .int 0, .null, .null, .int 0, .null, .int 0, .null, .null, .null, .null, .int 0, .int 0, .int 0])))) C hin2 k (by omega) va_up_s rfl in_X8_init_X8 tyX8 tyX8_ok nmX8 13 (by decide) lk_X8_init_28 rfl rfl (by decide +kernel) rfl rfl (Nat.le_of_ble_eq_true rfl) va_up_up dX8_init_76 ?_
  refine tg_aload_n C dX8_init_79 rfl 0 rfl ?_
  refine tg_bipush (v := 24) C dX8_init_80 (by decide) ?_
  refine tg_newz (M := 24) (f := fun _ => 0) C wi_X8_init_acboolean rfl (by decide) ((va_up_n (by omega)).trans ((va_up_n (by omega)).trans h7)) (fun _ _ => rfl) (Nat.le_of_ble_eq_true rfl) (Nat.le_of_ble_eq_true rfl) dX8_init_82 ?_
  show tg_V c X 8 288 (N + 8) (va_up (va_up E N (.inl (tv_kk c 0, 4, .inl (upd (upd (upd (upd sb0 0 (-9)) 1 (-9)) 2 (-9)) 3 (-9))))) k (.inr (8, [.int 0, .int 0, .ref (tv_ad c N), .ref (tv_ad c (N + 1)), .ref (tv_ad c (N + 2)), .int 0, .int 0, .int 0, .int 0, .int 0, .ref (tv_ad c (N + 3)), .ref (tv_ad c (N + 4)), .ref (tv_ad c (N + 5)), .ref (tv_ad c (N + 6)), .null, .int 0, .int 0, .int 0, .null, .int 0, .null, .null, .int 0, .null, .null, .int 0, .null, .int 0, .null, .null, .null, .null, .int 0, .int 0, .int 0]))) 84 [(0, .ref (tv_ad c k))] [.ref (tv_ad c (N + 7)), .ref (tv_ad c k)]
  refine tg_put (ci := 8) (fs := [.int 0, .int 0, .ref (tv_ad c N), .ref (tv_ad c (N + 1)), .ref (tv_ad c (N + 2)), .int 0, .int 0, .int 0, .int 0, .int 0, .ref (tv_ad c (N + 3)), .ref (tv_ad c (N + 4)), .ref (tv_ad c (N + 5)), .ref (tv_ad c (N + 6)), .null, .int 0, .int 0, .int 0, .null, .int 0, .null, .null, .int 0, .null, .null, .int 0, .null, .int 0, .null, .null, .null, .null, .int 0, .int 0, .int 0]) (Cn := RX8) (T := TX8) (Nf := 35) (ty := .array .boolean) (v := .ref (tv_ad c (N + 7))) (E' := (va_up (va_up E N (.inl (tv_kk c 0, 4, .inl (upd (upd (upd (upd sb0 0 (-9)) 1 (-9)) 2 (-9)) 3 (-9))))) k (.inr (8, [.int 0, .int 0, .ref (tv_ad c N), .ref (tv_ad c (N + 1)), .ref (tv_ad c (N + 2)), .int 0, .int 0, .int 0, .int 0, .int 0, .ref (tv_ad c (N + 3)), .ref (tv_ad c (N + 4)), .ref (tv_ad c (N + 5)), .ref (tv_ad c (N + 6)), .ref (tv_ad c (N + 7)), .int 0, .int 0, .int 0, .null, .int 0, .null, .null, .int 0, .null, .null, .int 0, .null, .int 0, .null, .null, .null, .null, .int 0, .int 0, .int 0])))) C hin2 k (by omega) va_up_s rfl in_X8_init_X8 tyX8 tyX8_ok nmX8 14 (by decide) lk_X8_init_31 rfl rfl (by decide +kernel) rfl rfl (Nat.le_of_ble_eq_true rfl) va_up_up dX8_init_84 ?_
  refine tg_aload_n C dX8_init_87 rfl 0 rfl ?_
  refine tg_bipush (v := 24) C dX8_init_88 (by decide) ?_
  refine tg_newi (M := 24) (f := fun _ => 0) C wi_X8_init_acint rfl (by decide) ((va_up_n (by omega)).trans ((va_up_n (by omega)).trans h8)) (fun _ _ => rfl) (Nat.le_of_ble_eq_true rfl) (Nat.le_of_ble_eq_true rfl) dX8_init_90 ?_
  show tg_V c X 9 312 (N + 9) (va_up (va_up E N (.inl (tv_kk c 0, 4, .inl (upd (upd (upd (upd sb0 0 (-9)) 1 (-9)) 2 (-9)) 3 (-9))))) k (.inr (8, [.int 0, .int 0, .ref (tv_ad c N), .ref (tv_ad c (N + 1)), .ref (tv_ad c (N + 2)), .int 0, .int 0, .int 0, .int 0, .int 0, .ref (tv_ad c (N + 3)), .ref (tv_ad c (N + 4)), .ref (tv_ad c (N + 5)), .ref (tv_ad c (N + 6)), .ref (tv_ad c (N + 7)), .int 0, .int 0, .int 0, .null, .int 0, .null, .null, .int 0, .null, .null, .int 0, .null, .int 0, .null, .null, .null, .null, .int 0, .int 0, .int 0]))) 92 [(0, .ref (tv_ad c k))] [.ref (tv_ad c (N + 8)), .ref (tv_ad c k)]
  refine tg_put (ci := 8) (fs := [.int 0, .int 0, .ref (tv_ad c N), .ref (tv_ad c (N + 1)), .ref (tv_ad c (N + 2)), .int 0, .int 0, .int 0, .int 0, .int 0, .ref (tv_ad c (N + 3)), .ref (tv_ad c (N + 4)), .ref (tv_ad c (N + 5)), .ref (tv_ad c (N + 6)), .ref (tv_ad c (N + 7)), .int 0, .int 0, .int 0, .null, .int 0, .null, .null, .int 0, .null, .null, .int 0, .null, .int 0, .null, .null, .null, .null, .int 0, .int 0, .int 0]) (Cn := RX8) (T := TX8) (Nf := 35) (ty := .array .int) (v := .ref (tv_ad c (N + 8))) (E' := (va_up (va_up E N (.inl (tv_kk c 0, 4, .inl (upd (upd (upd (upd sb0 0 (-9)) 1 (-9)) 2 (-9)) 3 (-9))))) k (.inr (8, [.int 0, .int 0, .ref (tv_ad c N), .ref (tv_ad c (N + 1)), .ref (tv_ad c (N + 2)), .int 0, .int 0, .int 0, .int 0, .int 0, .ref (tv_ad c (N + 3)), .ref (tv_ad c (N + 4)), .ref (tv_ad c (N + 5)), .ref (tv_ad c (N + 6)), .ref (tv_ad c (N + 7)), .int 0, .int 0, .int 0, .ref (tv_ad c (N + 8)), .int 0, .null, .null, .int 0, .null, .null, .int 0, .null, .int 0, .null, .null, .null, .null, .int 0, .int 0, .int 0])))) C hin2 k (by omega) va_up_s rfl in_X8_init_X8 tyX8 tyX8_ok nmX8 18 (by decide) lk_X8_init_35 rfl rfl (by decide +kernel) rfl rfl (Nat.le_of_ble_eq_true rfl) va_up_up dX8_init_92 ?_
  refine tg_aload_n C dX8_init_95 rfl 0 rfl ?_
  refine tg_bipush (v := 6) C dX8_init_96 (by decide) ?_
  refine tg_newi (M := 6) (f := fun _ => 0) C wi_X8_init_acint rfl (by decide) ((va_up_n (by omega)).trans ((va_up_n (by omega)).trans h9)) (fun _ _ => rfl) (Nat.le_of_ble_eq_true rfl) (Nat.le_of_ble_eq_true rfl) dX8_init_98 ?_
  show tg_V c X 10 318 (N + 10) (va_up (va_up E N (.inl (tv_kk c 0, 4, .inl (upd (upd (upd (upd sb0 0 (-9)) 1 (-9)) 2 (-9)) 3 (-9))))) k (.inr (8, [.int 0, .int 0, .ref (tv_ad c N), .ref (tv_ad c (N + 1)), .ref (tv_ad c (N + 2)), .int 0, .int 0, .int 0, .int 0, .int 0, .ref (tv_ad c (N + 3)), .ref (tv_ad c (N + 4)), .ref (tv_ad c (N + 5)), .ref (tv_ad c (N + 6)), .ref (tv_ad c (N + 7)), .int 0, .int 0, .int 0, .ref (tv_ad c (N + 8)), .int 0, .null, .null, .int 0, .null, .null, .int 0, .null, .int 0, .null, .null, .null, .null, .int 0, .int 0, .int 0]))) 100 [(0, .ref (tv_ad c k))] [.ref (tv_ad c (N + 9)), .ref (tv_ad c k)]
  refine tg_put (ci := 8) (fs := [.int 0, .int 0, .ref (tv_ad c N), .ref (tv_ad c (N + 1)), .ref (tv_ad c (N + 2)), .int 0, .int 0, .int 0, .int 0, .int 0, .ref (tv_ad c (N + 3)), .ref (tv_ad c (N + 4)), .ref (tv_ad c (N + 5)), .ref (tv_ad c (N + 6)), .ref (tv_ad c (N + 7)), .int 0, .int 0, .int 0, .ref (tv_ad c (N + 8)), .int 0, .null, .null, .int 0, .null, .null, .int 0, .null, .int 0, .null, .null, .null, .null, .int 0, .int 0, .int 0]) (Cn := RX8) (T := TX8) (Nf := 35) (ty := .array .int) (v := .ref (tv_ad c (N + 9))) (E' := (va_up (va_up E N (.inl (tv_kk c 0, 4, .inl (upd (upd (upd (upd sb0 0 (-9)) 1 (-9)) 2 (-9)) 3 (-9))))) k (.inr (8, [.int 0, .int 0, .ref (tv_ad c N), .ref (tv_ad c (N + 1)), .ref (tv_ad c (N + 2)), .int 0, .int 0, .int 0, .int 0, .int 0, .ref (tv_ad c (N + 3)), .ref (tv_ad c (N + 4)), .ref (tv_ad c (N + 5)), .ref (tv_ad c (N + 6)), .ref (tv_ad c (N + 7)), .int 0, .int 0, .int 0, .ref (tv_ad c (N + 8)), .int 0, .ref (tv_ad c (N + 9)), .null, .int 0, .null, .null, .int 0, .null, .int 0, .null, .null, .null, .null, .int 0, .int 0, .int 0])))) C hin2 k (by omega) va_up_s rfl in_X8_init_X8 tyX8 tyX8_ok nmX8 20 (by decide) lk_X8_init_38 rfl rfl (by decide +kernel) rfl rfl (Nat.le_of_ble_eq_true rfl) va_up_up dX8_init_100 ?_
  refine tg_aload_n C dX8_init_103 rfl 0 rfl ?_
  refine tg_bipush (v := 18) C dX8_init_104 (by decide) ?_
  refine tg_newi (M := 18) (f := fun _ => 0) C wi_X8_init_acint rfl (by decide) ((va_up_n (by omega)).trans ((va_up_n (by omega)).trans h10)) (fun _ _ => rfl) (Nat.le_of_ble_eq_true rfl) (Nat.le_of_ble_eq_true rfl) dX8_init_106 ?_
  show tg_V c X 11 336 (N + 11) (va_up (va_up E N (.inl (tv_kk c 0, 4, .inl (upd (upd (upd (upd sb0 0 (-9)) 1 (-9)) 2 (-9)) 3 (-9))))) k (.inr (8, [.int 0, .int 0, .ref (tv_ad c N), .ref (tv_ad c (N + 1)), .ref (tv_ad c (N + 2)), .int 0, .int 0, .int 0, .int 0, .int 0, .ref (tv_ad c (N + 3)), .ref (tv_ad c (N + 4)), .ref (tv_ad c (N + 5)), .ref (tv_ad c (N + 6)), .ref (tv_ad c (N + 7)), .int 0, .int 0, .int 0, .ref (tv_ad c (N + 8)), .int 0, .ref (tv_ad c (N + 9)), .null, .int 0, .null, .null, .int 0, .null, .int 0, .null, .null, .null, .null, .int 0, .int 0, .int 0]))) 108 [(0, .ref (tv_ad c k))] [.ref (tv_ad c (N + 10)), .ref (tv_ad c k)]
  refine tg_put (ci := 8) (fs := [.int 0, .int 0, .ref (tv_ad c N), .ref (tv_ad c (N + 1)), .ref (tv_ad c (N + 2)), .int 0, .int 0, .int 0, .int 0, .int 0, .ref (tv_ad c (N + 3)), .ref (tv_ad c (N + 4)), .ref (tv_ad c (N + 5)), .ref (tv_ad c (N + 6)), .ref (tv_ad c (N + 7)), .int 0, .int 0, .int 0, .ref (tv_ad c (N + 8)), .int 0, .ref (tv_ad c (N + 9)), .null, .int 0, .null, .null, .int 0, .null, .int 0, .null, .null, .null, .null, .int 0, .int 0, .int 0]) (Cn := RX8) (T := TX8) (Nf := 35) (ty := .array .int) (v := .ref (tv_ad c (N + 10))) (E' := (va_up (va_up E N (.inl (tv_kk c 0, 4, .inl (upd (upd (upd (upd sb0 0 (-9)) 1 (-9)) 2 (-9)) 3 (-9))))) k (.inr (8, [.int 0, .int 0, .ref (tv_ad c N), .ref (tv_ad c (N + 1)), .ref (tv_ad c (N + 2)), .int 0, .int 0, .int 0, .int 0, .int 0, .ref (tv_ad c (N + 3)), .ref (tv_ad c (N + 4)), .ref (tv_ad c (N + 5)), .ref (tv_ad c (N + 6)), .ref (tv_ad c (N + 7)), .int 0, .int 0, .int 0, .ref (tv_ad c (N + 8)), .int 0, .ref (tv_ad c (N + 9)), .ref (tv_ad c (N + 10)), .int 0, .null, .null, .int 0, .null, .int 0, .null, .null, .null, .null, .int 0, .int 0, .int 0])))) C hin2 k (by omega) va_up_s rfl in_X8_init_X8 tyX8 tyX8_ok nmX8 21 (by decide) lk_X8_init_41 rfl rfl (by decide +kernel) rfl rfl (Nat.le_of_ble_eq_true rfl) va_up_up dX8_init_108 ?_
  refine tg_aload_n C dX8_init_111 rfl 0 rfl ?_
  refine tg_bipush (v := 12) C dX8_init_112 (by decide) ?_
  refine tg_newi (M := 12) (f := fun _ => 0) C wi_X8_init_acint rfl (by decide) ((va_up_n (by omega)).trans ((va_up_n (by omega)).trans h11)) (fun _ _ => rfl) (Nat.le_of_ble_eq_true rfl) (Nat.le_of_ble_eq_true rfl) dX8_init_114 ?_
  show tg_V c X 12 348 (N + 12) (va_up (va_up E N (.inl (tv_kk c 0, 4, .inl (upd (upd (upd (upd sb0 0 (-9)) 1 (-9)) 2 (-9)) 3 (-9))))) k (.inr (8, [.int 0, .int 0, .ref (tv_ad c N), .ref (tv_ad c (N + 1)), .ref (tv_ad c (N + 2)), .int 0, .int 0, .int 0, .int 0, .int 0, .ref (tv_ad c (N + 3)), .ref (tv_ad c (N + 4)), .ref (tv_ad c (N + 5)), .ref (tv_ad c (N + 6)), .ref (tv_ad c (N + 7)), .int 0, .int 0, .int 0, .ref (tv_ad c (N + 8)), .int 0, .ref (tv_ad c (N + 9)), .ref (tv_ad c (N + 10)), .int 0, .null, .null, .int 0, .null, .int 0, .null, .null, .null, .null, .int 0, .int 0, .int 0]))) 116 [(0, .ref (tv_ad c k))] [.ref (tv_ad c (N + 11)), .ref (tv_ad c k)]
  refine tg_put (ci := 8) (fs := [.int 0, .int 0, .ref (tv_ad c N), .ref (tv_ad c (N + 1)), .ref (tv_ad c (N + 2)), .int 0, .int 0, .int 0, .int 0, .int 0, .ref (tv_ad c (N + 3)), .ref (tv_ad c (N + 4)), .ref (tv_ad c (N + 5)), .ref (tv_ad c (N + 6)), .ref (tv_ad c (N + 7)), .int 0, .int 0, .int 0, .ref (tv_ad c (N + 8)), .int 0, .ref (tv_ad c (N + 9)), .ref (tv_ad c (N + 10)), .int 0, .null, .null, .int 0, .null, .int 0, .null, .null, .null, .null, .int 0, .int 0, .int 0]) (Cn := RX8) (T := TX8) (Nf := 35) (ty := .array .int) (v := .ref (tv_ad c (N + 11))) (E' := (va_up (va_up E N (.inl (tv_kk c 0, 4, .inl (upd (upd (upd (upd sb0 0 (-9)) 1 (-9)) 2 (-9)) 3 (-9))))) k (.inr (8, [.int 0, .int 0, .ref (tv_ad c N), .ref (tv_ad c (N + 1)), .ref (tv_ad c (N + 2)), .int 0, .int 0, .int 0, .int 0, .int 0, .ref (tv_ad c (N + 3)), .ref (tv_ad c (N + 4)), .ref (tv_ad c (N + 5)), .ref (tv_ad c (N + 6)), .ref (tv_ad c (N + 7)), .int 0, .int 0, .int 0, .ref (tv_ad c (N + 8)), .int 0, .ref (tv_ad c (N + 9)), .ref (tv_ad c (N + 10)), .int 0, .ref (tv_ad c (N + 11)), .null, .int 0, .null, .int 0, .null, .null, .null, .null, .int 0, .int 0, .int 0])))) C hin2 k (by omega) va_up_s rfl in_X8_init_X8 tyX8 tyX8_ok nmX8 23 (by decide) lk_X8_init_44 rfl rfl (by decide +kernel) rfl rfl (Nat.le_of_ble_eq_true rfl) va_up_up dX8_init_116 ?_
  refine tg_aload_n C dX8_init_119 rfl 0 rfl ?_
  refine tg_iconst (v := 4) C dX8_init_120 (by decide) ?_
  refine tg_newi (M := 4) (f := fun _ => 0) C wi_X8_init_acint rfl (by decide) ((va_up_n (by omega)).trans ((va_up_n (by omega)).trans h12)) (fun _ _ => rfl) (Nat.le_of_ble_eq_true rfl) (Nat.le_of_ble_eq_true rfl) dX8_init_121 ?_
  show tg_V c X 13 352 (N + 13) (va_up (va_up E N (.inl (tv_kk c 0, 4, .inl (upd (upd (upd (upd sb0 0 (-9)) 1 (-9)) 2 (-9)) 3 (-9))))) k (.inr (8, [.int 0, .int 0, .ref (tv_ad c N), .ref (tv_ad c (N + 1)), .ref (tv_ad c (N + 2)), .int 0, .int 0, .int 0, .int 0, .int 0, .ref (tv_ad c (N + 3)), .ref (tv_ad c (N + 4)), .ref (tv_ad c (N + 5)), .ref (tv_ad c (N + 6)), .ref (tv_ad c (N + 7)), .int 0, .int 0, .int 0, .ref (tv_ad c (N + 8)), .int 0, .ref (tv_ad c (N + 9)), .ref (tv_ad c (N + 10)), .int 0, .ref (tv_ad c (N + 11)), .null, .int 0, .null, .int 0, .null, .null, .null, .null, .int 0, .int 0, .int 0]))) 123 [(0, .ref (tv_ad c k))] [.ref (tv_ad c (N + 12)), .ref (tv_ad c k)]
  refine tg_put (ci := 8) (fs := [.int 0, .int 0, .ref (tv_ad c N), .ref (tv_ad c (N + 1)), .ref (tv_ad c (N + 2)), .int 0, .int 0, .int 0, .int 0, .int 0, .ref (tv_ad c (N + 3)), .ref (tv_ad c (N + 4)), .ref (tv_ad c (N + 5)), .ref (tv_ad c (N + 6)), .ref (tv_ad c (N + 7)), .int 0, .int 0, .int 0, .ref (tv_ad c (N + 8)), .int 0, .ref (tv_ad c (N + 9)), .ref (tv_ad c (N + 10)), .int 0, .ref (tv_ad c (N + 11)), .null, .int 0, .null, .int 0, .null, .null, .null, .null, .int 0, .int 0, .int 0]) (Cn := RX8) (T := TX8) (Nf := 35) (ty := .array .int) (v := .ref (tv_ad c (N + 12))) (E' := (va_up (va_up E N (.inl (tv_kk c 0, 4, .inl (upd (upd (upd (upd sb0 0 (-9)) 1 (-9)) 2 (-9)) 3 (-9))))) k (.inr (8, [.int 0, .int 0, .ref (tv_ad c N), .ref (tv_ad c (N + 1)), .ref (tv_ad c (N + 2)), .int 0, .int 0, .int 0, .int 0, .int 0, .ref (tv_ad c (N + 3)), .ref (tv_ad c (N + 4)), .ref (tv_ad c (N + 5)), .ref (tv_ad c (N + 6)), .ref (tv_ad c (N + 7)), .int 0, .int 0, .int 0, .ref (tv_ad c (N + 8)), .int 0, .ref (tv_ad c (N + 9)), .ref (tv_ad c (N + 10)), .int 0, .ref (tv_ad c (N + 11)), .ref (tv_ad c (N + 12)), .int 0, .null, .int 0, .null, .null, .null, .null, .int 0, .int 0, .int 0])))) C hin2 k (by omega) va_up_s rfl in_X8_init_X8 tyX8 tyX8_ok nmX8 24 (by decide) lk_X8_init_47 rfl rfl (by decide +kernel) rfl rfl (Nat.le_of_ble_eq_true rfl) va_up_up dX8_init_123 ?_
  refine tg_aload_n C dX8_init_126 rfl 0 rfl ?_
  refine tg_iconst (v := 3) C dX8_init_127 (by decide) ?_
  refine tg_newi (M := 3) (f := fun _ => 0) C wi_X8_init_acint rfl (by decide) ((va_up_n (by omega)).trans ((va_up_n (by omega)).trans h13)) (fun _ _ => rfl) (Nat.le_of_ble_eq_true rfl) (Nat.le_of_ble_eq_true rfl) dX8_init_128 ?_
  show tg_V c X 14 355 (N + 14) (va_up (va_up E N (.inl (tv_kk c 0, 4, .inl (upd (upd (upd (upd sb0 0 (-9)) 1 (-9)) 2 (-9)) 3 (-9))))) k (.inr (8, [.int 0, .int 0, .ref (tv_ad c N), .ref (tv_ad c (N + 1)), .ref (tv_ad c (N + 2)), .int 0, .int 0, .int 0, .int 0, .int 0, .ref (tv_ad c (N + 3)), .ref (tv_ad c (N + 4)), .ref (tv_ad c (N + 5)), .ref (tv_ad c (N + 6)), .ref (tv_ad c (N + 7)), .int 0, .int 0, .int 0, .ref (tv_ad c (N + 8)), .int 0, .ref (tv_ad c (N + 9)), .ref (tv_ad c (N + 10)), .int 0, .ref (tv_ad c (N + 11)), .ref (tv_ad c (N + 12)), .int 0, .null, .int 0, .null, .null, .null, .null, .int 0, .int 0, .int 0]))) 130 [(0, .ref (tv_ad c k))] [.ref (tv_ad c (N + 13)), .ref (tv_ad c k)]
  refine tg_put (ci := 8) (fs := [.int 0, .int 0, .ref (tv_ad c N), .ref (tv_ad c (N + 1)), .ref (tv_ad c (N + 2)), .int 0, .int 0, .int 0, .int 0, .int 0, .ref (tv_ad c (N + 3)), .ref (tv_ad c (N + 4)), .ref (tv_ad c (N + 5)), .ref (tv_ad c (N + 6)), .ref (tv_ad c (N + 7)), .int 0, .int 0, .int 0, .ref (tv_ad c (N + 8)), .int 0, .ref (tv_ad c (N + 9)), .ref (tv_ad c (N + 10)), .int 0, .ref (tv_ad c (N + 11)), .ref (tv_ad c (N + 12)), .int 0, .null, .int 0, .null, .null, .null, .null, .int 0, .int 0, .int 0]) (Cn := RX8) (T := TX8) (Nf := 35) (ty := .array .int) (v := .ref (tv_ad c (N + 13))) (E' := (va_up (va_up E N (.inl (tv_kk c 0, 4, .inl (upd (upd (upd (upd sb0 0 (-9)) 1 (-9)) 2 (-9)) 3 (-9))))) k (.inr (8, [.int 0, .int 0, .ref (tv_ad c N), .ref (tv_ad c (N + 1)), .ref (tv_ad c (N + 2)), .int 0, .int 0, .int 0, .int 0, .int 0, .ref (tv_ad c (N + 3)), .ref (tv_ad c (N + 4)), .ref (tv_ad c (N + 5)), .ref (tv_ad c (N + 6)), .ref (tv_ad c (N + 7)), .int 0, .int 0, .int 0, .ref (tv_ad c (N + 8)), .int 0, .ref (tv_ad c (N + 9)), .ref (tv_ad c (N + 10)), .int 0, .ref (tv_ad c (N + 11)), .ref (tv_ad c (N + 12)), .int 0, .ref (tv_ad c (N + 13)), .int 0, .null, .null, .null, .null, .int 0, .int 0, .int 0])))) C hin2 k (by omega) va_up_s rfl in_X8_init_X8 tyX8 tyX8_ok nmX8 26 (by decide) lk_X8_init_50 rfl rfl (by decide +kernel) rfl rfl (Nat.le_of_ble_eq_true rfl) va_up_up dX8_init_130 ?_
  refine tg_aload_n C dX8_init_133 rfl 0 rfl ?_
  refine tg_iconst (v := 4) C dX8_init_134 (by decide) ?_
  refine tg_newi (M := 4) (f := fun _ => 0) C wi_X8_init_acint rfl (by decide) ((va_up_n (by omega)).trans ((va_up_n (by omega)).trans h14)) (fun _ _ => rfl) (Nat.le_of_ble_eq_true rfl) (Nat.le_of_ble_eq_true rfl) dX8_init_135 ?_
  show tg_V c X 15 359 (N + 15) (va_up (va_up E N (.inl (tv_kk c 0, 4, .inl (upd (upd (upd (upd sb0 0 (-9)) 1 (-9)) 2 (-9)) 3 (-9))))) k (.inr (8, [.int 0, .int 0, .ref (tv_ad c N), .ref (tv_ad c (N + 1)), .ref (tv_ad c (N + 2)), .int 0, .int 0, .int 0, .int 0, .int 0, .ref (tv_ad c (N + 3)), .ref (tv_ad c (N + 4)), .ref (tv_ad c (N + 5)), .ref (tv_ad c (N + 6)), .ref (tv_ad c (N + 7)), .int 0, .int 0, .int 0, .ref (tv_ad c (N + 8)), .int 0, .ref (tv_ad c (N + 9)), .ref (tv_ad c (N + 10)), .int 0, .ref (tv_ad c (N + 11)), .ref (tv_ad c (N + 12)), .int 0, .ref (tv_ad c (N + 13)), .int 0, .null, .null, .null, .null, .int 0, .int 0, .int 0]))) 137 [(0, .ref (tv_ad c k))] [.ref (tv_ad c (N + 14)), .ref (tv_ad c k)]
  refine tg_put (ci := 8) (fs := [.int 0, .int 0, .ref (tv_ad c N), .ref (tv_ad c (N + 1)), .ref (tv_ad c (N + 2)), .int 0, .int 0, .int 0, .int 0, .int 0, .ref (tv_ad c (N + 3)), .ref (tv_ad c (N + 4)), .ref (tv_ad c (N + 5)), .ref (tv_ad c (N + 6)), .ref (tv_ad c (N + 7)), .int 0, .int 0, .int 0, .ref (tv_ad c (N + 8)), .int 0, .ref (tv_ad c (N + 9)), .ref (tv_ad c (N + 10)), .int 0, .ref (tv_ad c (N + 11)), .ref (tv_ad c (N + 12)), .int 0, .ref (tv_ad c (N + 13)), .int 0, .null, .null, .null, .null, .int 0, .int 0, .int 0]) (Cn := RX8) (T := TX8) (Nf := 35) (ty := .array .int) (v := .ref (tv_ad c (N + 14))) (E' := (va_up (va_up E N (.inl (tv_kk c 0, 4, .inl (upd (upd (upd (upd sb0 0 (-9)) 1 (-9)) 2 (-9)) 3 (-9))))) k (.inr (8, [.int 0, .int 0, .ref (tv_ad c N), .ref (tv_ad c (N + 1)), .ref (tv_ad c (N + 2)), .int 0, .int 0, .int 0, .int 0, .int 0, .ref (tv_ad c (N + 3)), .ref (tv_ad c (N + 4)), .ref (tv_ad c (N + 5)), .ref (tv_ad c (N + 6)), .ref (tv_ad c (N + 7)), .int 0, .int 0, .int 0, .ref (tv_ad c (N + 8)), .int 0, .ref (tv_ad c (N + 9)), .ref (tv_ad c (N + 10)), .int 0, .ref (tv_ad c (N + 11)), .ref (tv_ad c (N + 12)), .int 0, .ref (tv_ad c (N + 13)), .int 0, .ref (tv_ad c (N + 14)), .null, .null, .null, .int 0, .int 0, .int 0])))) C hin2 k (by omega) va_up_s rfl in_X8_init_X8 tyX8 tyX8_ok nmX8 28 (by decide) lk_X8_init_53 rfl rfl (by decide +kernel) rfl rfl (Nat.le_of_ble_eq_true rfl) va_up_up dX8_init_137 ?_
  refine tg_aload_n C dX8_init_140 rfl 0 rfl ?_
  refine tg_bipush (v := 24) C dX8_init_141 (by decide) ?_
  refine tg_newi (M := 24) (f := fun _ => 0) C wi_X8_init_acint rfl (by decide) ((va_up_n (by omega)).trans ((va_up_n (by omega)).trans h15)) (fun _ _ => rfl) (Nat.le_of_ble_eq_true rfl) (Nat.le_of_ble_eq_true rfl) dX8_init_143 ?_
  show tg_V c X 16 383 (N + 16) (va_up (va_up E N (.inl (tv_kk c 0, 4, .inl (upd (upd (upd (upd sb0 0 (-9)) 1 (-9)) 2 (-9)) 3 (-9))))) k (.inr (8, [.int 0, .int 0, .ref (tv_ad c N), .ref (tv_ad c (N + 1)), .ref (tv_ad c (N + 2)), .int 0, .int 0, .int 0, .int 0, .int 0, .ref (tv_ad c (N + 3)), .ref (tv_ad c (N + 4)), .ref (tv_ad c (N + 5)), .ref (tv_ad c (N + 6)), .ref (tv_ad c (N + 7)), .int 0, .int 0, .int 0, .ref (tv_ad c (N + 8)), .int 0, .ref (tv_ad c (N + 9)), .ref (tv_ad c (N + 10)), .int 0, .ref (tv_ad c (N + 11)), .ref (tv_ad c (N + 12)), .int 0, .ref (tv_ad c (N + 13)), .int 0, .ref (tv_ad c (N + 14)), .null, .null, .null, .int 0, .int 0, .int 0]))) 145 [(0, .ref (tv_ad c k))] [.ref (tv_ad c (N + 15)), .ref (tv_ad c k)]
  refine tg_put (ci := 8) (fs := [.int 0, .int 0, .ref (tv_ad c N), .ref (tv_ad c (N + 1)), .ref (tv_ad c (N + 2)), .int 0, .int 0, .int 0, .int 0, .int 0, .ref (tv_ad c (N + 3)), .ref (tv_ad c (N + 4)), .ref (tv_ad c (N + 5)), .ref (tv_ad c (N + 6)), .ref (tv_ad c (N + 7)), .int 0, .int 0, .int 0, .ref (tv_ad c (N + 8)), .int 0, .ref (tv_ad c (N + 9)), .ref (tv_ad c (N + 10)), .int 0, .ref (tv_ad c (N + 11)), .ref (tv_ad c (N + 12)), .int 0, .ref (tv_ad c (N + 13)), .int 0, .ref (tv_ad c (N + 14)), .null, .null, .null, .int 0, .int 0, .int 0]) (Cn := RX8) (T := TX8) (Nf := 35) (ty := .array .int) (v := .ref (tv_ad c (N + 15))) (E' := (va_up (va_up E N (.inl (tv_kk c 0, 4, .inl (upd (upd (upd (upd sb0 0 (-9)) 1 (-9)) 2 (-9)) 3 (-9))))) k (.inr (8, [.int 0, .int 0, .ref (tv_ad c N), .ref (tv_ad c (N + 1)), .ref (tv_ad c (N + 2)), .int 0, .int 0, .int 0, .int 0, .int 0, .ref (tv_ad c (N + 3)), .ref (tv_ad c (N + 4)), .ref (tv_ad c (N + 5)), .ref (tv_ad c (N + 6)), .ref (tv_ad c (N + 7)), .int 0, .int 0, .int 0, .ref (tv_ad c (N + 8)), .int 0, .ref (tv_ad c (N + 9)), .ref (tv_ad c (N + 10)), .int 0, .ref (tv_ad c (N + 11)), .ref (tv_ad c (N + 12)), .int 0, .ref (tv_ad c (N + 13)), .int 0, .ref (tv_ad c (N + 14)), .ref (tv_ad c (N + 15)), .null, .null, .int 0, .int 0, .int 0])))) C hin2 k (by omega) va_up_s rfl in_X8_init_X8 tyX8 tyX8_ok nmX8 29 (by decide) lk_X8_init_56 rfl rfl (by decide +kernel) rfl rfl (Nat.le_of_ble_eq_true rfl) va_up_up dX8_init_145 ?_
  refine tg_aload_n C dX8_init_148 rfl 0 rfl ?_
  refine tg_bipush (v := 24) C dX8_init_149 (by decide) ?_
  refine tg_newi (M := 24) (f := fun _ => 0) C wi_X8_init_acint rfl (by decide) ((va_up_n (by omega)).trans ((va_up_n (by omega)).trans h16)) (fun _ _ => rfl) (Nat.le_of_ble_eq_true rfl) (Nat.le_of_ble_eq_true rfl) dX8_init_151 ?_
  show tg_V c X 17 407 (N + 17) (va_up (va_up E N (.inl (tv_kk c 0, 4, .inl (upd (upd (upd (upd sb0 0 (-9)) 1 (-9)) 2 (-9)) 3 (-9))))) k (.inr (8, [.int 0, .int 0, .ref (tv_ad c N), .ref (tv_ad c (N + 1)), .ref (tv_ad c (N + 2)), .int 0, .int 0, .int 0, .int 0, .int 0, .ref (tv_ad c (N + 3)), .ref (tv_ad c (N + 4)), .ref (tv_ad c (N + 5)), .ref (tv_ad c (N + 6)), .ref (tv_ad c (N + 7)), .int 0, .int 0, .int 0, .ref (tv_ad c (N + 8)), .int 0, .ref (tv_ad c (N + 9)), .ref (tv_ad c (N + 10)), .int 0, .ref (tv_ad c (N + 11)), .ref (tv_ad c (N + 12)), .int 0, .ref (tv_ad c (N + 13)), .int 0, .ref (tv_ad c (N + 14)), .ref (tv_ad c (N + 15)), .null, .null, .int 0, .int 0, .int 0]))) 153 [(0, .ref (tv_ad c k))] [.ref (tv_ad c (N + 16)), .ref (tv_ad c k)]
  refine tg_put (ci := 8) (fs := [.int 0, .int 0, .ref (tv_ad c N), .ref (tv_ad c (N + 1)), .ref (tv_ad c (N + 2)), .int 0, .int 0, .int 0, .int 0, .int 0, .ref (tv_ad c (N + 3)), .ref (tv_ad c (N + 4)), .ref (tv_ad c (N + 5)), .ref (tv_ad c (N + 6)), .ref (tv_ad c (N + 7)), .int 0, .int 0, .int 0, .ref (tv_ad c (N + 8)), .int 0, .ref (tv_ad c (N + 9)), .ref (tv_ad c (N + 10)), .int 0, .ref (tv_ad c (N + 11)), .ref (tv_ad c (N + 12)), .int 0, .ref (tv_ad c (N + 13)), .int 0, .ref (tv_ad c (N + 14)), .ref (tv_ad c (N + 15)), .null, .null, .int 0, .int 0, .int 0]) (Cn := RX8) (T := TX8) (Nf := 35) (ty := .array .int) (v := .ref (tv_ad c (N + 16))) (E' := (va_up (va_up E N (.inl (tv_kk c 0, 4, .inl (upd (upd (upd (upd sb0 0 (-9)) 1 (-9)) 2 (-9)) 3 (-9))))) k (.inr (8, [.int 0, .int 0, .ref (tv_ad c N), .ref (tv_ad c (N + 1)), .ref (tv_ad c (N + 2)), .int 0, .int 0, .int 0, .int 0, .int 0, .ref (tv_ad c (N + 3)), .ref (tv_ad c (N + 4)), .ref (tv_ad c (N + 5)), .ref (tv_ad c (N + 6)), .ref (tv_ad c (N + 7)), .int 0, .int 0, .int 0, .ref (tv_ad c (N + 8)), .int 0, .ref (tv_ad c (N + 9)), .ref (tv_ad c (N + 10)), .int 0, .ref (tv_ad c (N + 11)), .ref (tv_ad c (N + 12)), .int 0, .ref (tv_ad c (N + 13)), .int 0, .ref (tv_ad c (N + 14)), .ref (tv_ad c (N + 15)), .ref (tv_ad c (N + 16)), .null, .int 0, .int 0, .int 0])))) C hin2 k (by omega) va_up_s rfl in_X8_init_X8 tyX8 tyX8_ok nmX8 30 (by decide) lk_X8_init_59 rfl rfl (by decide +kernel) rfl rfl (Nat.le_of_ble_eq_true rfl) va_up_up dX8_init_153 ?_
  refine tg_aload_n C dX8_init_156 rfl 0 rfl ?_
  refine tg_bipush (v := 24) C dX8_init_157 (by decide) ?_
  refine tg_newi (M := 24) (f := fun _ => 0) C wi_X8_init_acint rfl (by decide) ((va_up_n (by omega)).trans ((va_up_n (by omega)).trans h17)) (fun _ _ => rfl) (Nat.le_of_ble_eq_true rfl) (Nat.le_of_ble_eq_true rfl) dX8_init_159 ?_
  show tg_V c X 18 431 (N + 18) (va_up (va_up E N (.inl (tv_kk c 0, 4, .inl (upd (upd (upd (upd sb0 0 (-9)) 1 (-9)) 2 (-9)) 3 (-9))))) k (.inr (8, [.int 0, .int 0, .ref (tv_ad c N), .ref (tv_ad c (N + 1)), .ref (tv_ad c (N + 2)), .int 0, .int 0, .int 0, .int 0, .int 0, .ref (tv_ad c (N + 3)), .ref (tv_ad c (N + 4)), .ref (tv_ad c (N + 5)), .ref (tv_ad c (N + 6)), .ref (tv_ad c (N + 7)), .int 0, .int 0, .int 0, .ref (tv_ad c (N + 8)), .int 0, .ref (tv_ad c (N + 9)), .ref (tv_ad c (N + 10)), .int 0, .ref (tv_ad c (N + 11)), .ref (tv_ad c (N + 12)), .int 0, .ref (tv_ad c (N + 13)), .int 0, .ref (tv_ad c (N + 14)), .ref (tv_ad c (N + 15)), .ref (tv_ad c (N + 16)), .null, .int 0, .int 0, .int 0]))) 161 [(0, .ref (tv_ad c k))] [.ref (tv_ad c (N + 17)), .ref (tv_ad c k)]
  refine tg_put (ci := 8) (fs := [.int 0, .int 0, .ref (tv_ad c N), .ref (tv_ad c (N + 1)), .ref (tv_ad c (N + 2)), .int 0, .int 0, .int 0, .int 0, .int 0, .ref (tv_ad c (N + 3)), .ref (tv_ad c (N + 4)), .ref (tv_ad c (N + 5)), .ref (tv_ad c (N + 6)), .ref (tv_ad c (N + 7)), .int 0, .int 0, .int 0, .ref (tv_ad c (N + 8)), .int 0, .ref (tv_ad c (N + 9)), .ref (tv_ad c (N + 10)), .int 0, .ref (tv_ad c (N + 11)), .ref (tv_ad c (N + 12)), .int 0, .ref (tv_ad c (N + 13)), .int 0, .ref (tv_ad c (N + 14)), .ref (tv_ad c (N + 15)), .ref (tv_ad c (N + 16)), .null, .int 0, .int 0, .int 0]) (Cn := RX8) (T := TX8) (Nf := 35) (ty := .array .int) (v := .ref (tv_ad c (N + 17))) (E' := (va_up (va_up E N (.inl (tv_kk c 0, 4, .inl (upd (upd (upd (upd sb0 0 (-9)) 1 (-9)) 2 (-9)) 3 (-9))))) k (.inr (8, [.int 0, .int 0, .ref (tv_ad c N), .ref (tv_ad c (N + 1)), .ref (tv_ad c (N + 2)), .int 0, .int 0, .int 0, .int 0, .int 0, .ref (tv_ad c (N + 3)), .ref (tv_ad c (N + 4)), .ref (tv_ad c (N + 5)), .ref (tv_ad c (N + 6)), .ref (tv_ad c (N + 7)), .int 0, .int 0, .int 0, .ref (tv_ad c (N + 8)), .int 0, .ref (tv_ad c (N + 9)), .ref (tv_ad c (N + 10)), .int 0, .ref (tv_ad c (N + 11)), .ref (tv_ad c (N + 12)), .int 0, .ref (tv_ad c (N + 13)), .int 0, .ref (tv_ad c (N + 14)), .ref (tv_ad c (N + 15)), .ref (tv_ad c (N + 16)), .ref (tv_ad c (N + 17)), .int 0, .int 0, .int 0])))) C hin2 k (by omega) va_up_s rfl in_X8_init_X8 tyX8 tyX8_ok nmX8 31 (by decide) lk_X8_init_62 rfl rfl (by decide +kernel) rfl rfl (Nat.le_of_ble_eq_true rfl) va_up_up dX8_init_161 ?_
  exact hR _ _ dX8_init_164
def eW (c : tv_c) (x : va_E) : Nat → va_E := (va_up (va_up (va_up (va_up (va_up (va_up (va_up (va_up (va_up (va_up (bE c) 0 x) 2 (.inr (6, [.ref (tv_ad c 3), .ref (tv_ad c 4), .ref (tv_ad c 5), .int 0, .int 0, .int 0, .int 0, .int 0, .int 0, .int 0, .int 0]))) 3 (.inl (tv_kk c 3, 24, .inr (.inr (.inr (.inr (fq c 6 24))))))) 30 (.inr (1, [.ref (tv_ad c 31), .int 0]))) 32 (.inr (1, [.ref (tv_ad c 33), .int 0]))) 34 (.inr (1, [.ref (tv_ad c 35), .int 0]))) 36 (.inr (1, [.ref (tv_ad c 37), .int 0]))) 38 (.inr (1, [.ref (tv_ad c 39), .int 0]))) 40 (.inr (1, [.ref (tv_ad c 41), .int 0]))) 4 (.inl (tv_kk c 4, 6, .inr (.inr (.inr (.inr (fr c 30 6)))))))
set_option maxHeartbeats 4000000 in
set_option maxRecDepth 100000 in
theorem kX6_init (c : tv_c) (x : va_E)  : tg_M c yX6_init wsX6_init { frames := 2, cells := 39, slots := 192, locals := 32 } [.ref (tv_ad c 2)] 3 (va_up (bE c) 0 x) 42 (eW c x) 39 192 := by
  refine tg_met (by decide +kernel) rfl rfl rfl (Nat.le_of_ble_eq_true rfl) (fun X C hin2 hR => ?_)
  have hNN := C.2.2.2.2.2.2.2.1
  show tg_V c X 0 0 3 (va_up (bE c) 0 x) 0 [(0, .ref (tv_ad c 2))] []
  refine tg_aload_n C dX6_init_0 rfl 0 rfl ?_
  refine tg_obj C wi_X6_init_ol wi_X6_init_oi wi_X6_init_oc (Nat.le_of_ble_eq_true rfl) (Nat.le_of_ble_eq_true rfl) dX6_init_1 ?_
  refine tg_aload_n C dX6_init_4 rfl 0 rfl ?_
  refine tg_bipush (v := 24) C dX6_init_5 (by decide) ?_
  refine tg_newq (M := 24) (f := fq c 6 0) (Cn := RX0) C 3 rfl ((fun q : tg_N (tv_xs X) => q.2.2.2.2.2.2.1) hNN) wi_X6_init_cl9 rfl (by decide) rfl (fun _ _ => if_neg (by omega)) (Nat.le_of_ble_eq_true rfl) (Nat.le_of_ble_eq_true rfl) dX6_init_7 ?_
  show tg_V c X 1 24 4 (va_up (bE c) 0 x) 10 [(0, .ref (tv_ad c 2))] [.ref (tv_ad c 3), .ref (tv_ad c 2)]
  refine tg_put (ci := 6) (fs := [.null, .null, .null, .int 0, .int 0, .int 0, .int 0, .int 0, .int 0, .int 0, .int 0]) (Cn := RX6) (T := TX6) (Nf := 11) (ty := .array (.object "TouchUp$Cell")) (v := .ref (tv_ad c 3)) (E' := (va_up (va_up (bE c) 0 x) 2 (.inr (6, [.ref (tv_ad c 3), .null, .null, .int 0, .int 0, .int 0, .int 0, .int 0, .int 0, .int 0, .int 0])))) C hin2 2 (by decide) rfl rfl in_X6_init_X6 tyX6 tyX6_ok nmX6 0 (by decide) lk_X6_init_11 rfl rfl (by decide +kernel) rfl rfl (Nat.le_of_ble_eq_true rfl) rfl dX6_init_10 ?_
  refine tg_aload_n C dX6_init_13 rfl 0 rfl ?_
  refine tg_bipush (v := 6) C dX6_init_14 (by decide) ?_
  refine tg_newq (M := 6) (f := fr c 30 0) (Cn := RX1) C 4 rfl ((fun q : tg_N (tv_xs X) => q.2.2.2.2.2.2.2) hNN) wi_X6_init_cl17 rfl (by decide) rfl (fun _ _ => if_neg (by omega)) (Nat.le_of_ble_eq_true rfl) (Nat.le_of_ble_eq_true rfl) dX6_init_16 ?_
  show tg_V c X 2 30 5 (va_up (va_up (bE c) 0 x) 2 (.inr (6, [.ref (tv_ad c 3), .null, .null, .int 0, .int 0, .int 0, .int 0, .int 0, .int 0, .int 0, .int 0]))) 19 [(0, .ref (tv_ad c 2))] [.ref (tv_ad c 4), .ref (tv_ad c 2)]
  refine tg_put (ci := 6) (fs := [.ref (tv_ad c 3), .null, .null, .int 0, .int 0, .int 0, .int 0, .int 0, .int 0, .int 0, .int 0]) (Cn := RX6) (T := TX6) (Nf := 11) (ty := .array (.object "TouchUp$Coat")) (v := .ref (tv_ad c 4)) (E' := (va_up (va_up (bE c) 0 x) 2 (.inr (6, [.ref (tv_ad c 3), .ref (tv_ad c 4), .null, .int 0, .int 0, .int 0, .int 0, .int 0, .int 0, .int 0, .int 0])))) C hin2 2 (by decide) rfl rfl in_X6_init_X6 tyX6 tyX6_ok nmX6 1 (by decide) lk_X6_init_19 rfl rfl (by decide +kernel) rfl rfl (Nat.le_of_ble_eq_true rfl) va_up_up dX6_init_19 ?_
  refine tg_aload_n C dX6_init_22 rfl 0 rfl ?_
  refine tg_bipush (v := 12) C dX6_init_23 (by decide) ?_
  refine tg_newi (M := 12) (f := fun _ => 0) C wi_X6_init_acint rfl (by decide) rfl (fun _ _ => rfl) (Nat.le_of_ble_eq_true rfl) (Nat.le_of_ble_eq_true rfl) dX6_init_25 ?_
  show tg_V c X 3 42 6 (va_up (va_up (bE c) 0 x) 2 (.inr (6, [.ref (tv_ad c 3), .ref (tv_ad c 4), .null, .int 0, .int 0, .int 0, .int 0, .int 0, .int 0, .int 0, .int 0]))) 27 [(0, .ref (tv_ad c 2))] [.ref (tv_ad c 5), .ref (tv_ad c 2)]
  refine tg_put (ci := 6) (fs := [.ref (tv_ad c 3), .ref (tv_ad c 4), .null, .int 0, .int 0, .int 0, .int 0, .int 0, .int 0, .int 0, .int 0]) (Cn := RX6) (T := TX6) (Nf := 11) (ty := .array .int) (v := .ref (tv_ad c 5)) (E' := (va_up (va_up (bE c) 0 x) 2 (.inr (6, [.ref (tv_ad c 3), .ref (tv_ad c 4), .ref (tv_ad c 5), .int 0, .int 0, .int 0, .int 0, .int 0, .int 0, .int 0, .int 0])))) C hin2 2 (by decide) rfl rfl in_X6_init_X6 tyX6 tyX6_ok nmX6 2 (by decide) lk_X6_init_23 rfl rfl (by decide +kernel) rfl rfl (Nat.le_of_ble_eq_true rfl) va_up_up dX6_init_27 ?_
  refine tg_iconst (v := 0) C dX6_init_30 (by decide) ?_
  refine tg_istore_n (lv' := [(1, .int 0), (0, .ref (tv_ad c 2))]) C dX6_init_31 rfl (by decide) rfl ?_
  refine tg_iload_n C dX6_init_32 rfl 0 rfl ?_
  refine tg_bipush (v := 24) C dX6_init_33 (by decide) ?_
  refine tg_icmp_ge C 57 dX6_init_35 (by decide) (fun q => absurd q (by decide)) (fun _ => ?_)
  refine tg_aload_n C dX6_init_38 rfl 1 rfl ?_
  refine tg_get (ci := 6) (fs := [.ref (tv_ad c 3), .ref (tv_ad c 4), .ref (tv_ad c 5), .int 0, .int 0, .int 0, .int 0, .int 0, .int 0, .int 0, .int 0]) (Cn := RX6) (T := TX6) (Nf := 11) (v := .ref (tv_ad c 3)) C 2 (by decide) rfl rfl in_X6_init_X6 0 (by decide) lk_X6_init_11 rfl dX6_init_39 ?_
  refine tg_iload_n C dX6_init_42 rfl 0 rfl ?_
  refine tg_new (ci := 0) (fs := [.int 0, .int 0, .int 0, .int 0, .int 0]) (Cn := RX0) (T := TX0) (Nf := 5) C rfl in_X6_init_X0 tyX0 tyX0_ok wi_X6_init_cl9 wi_X6_init_insX0 wi_X6_init_iniX0 dfX0 rfl (Nat.le_of_ble_eq_true rfl) (Nat.le_of_ble_eq_true rfl) dX6_init_43 ?_
  show tg_V c X 4 47 7 (va_up (va_up (bE c) 0 x) 2 (.inr (6, [.ref (tv_ad c 3), .ref (tv_ad c 4), .ref (tv_ad c 5), .int 0, .int 0, .int 0, .int 0, .int 0, .int 0, .int 0, .int 0]))) 46 [(1, .int 0), (0, .ref (tv_ad c 2))] [.ref (tv_ad c 6), .int 0, .ref (tv_ad c 3)]
  refine tg_dup C dX6_init_46 rfl ?_
  refine tg_callN (host := RX7) (As := []) (rest := [.ref (tv_ad c 6), .int 0, .ref (tv_ad c 3)]) C (kX0_init c (va_up (va_up (bE c) 0 x) 2 (.inr (6, [.ref (tv_ad c 3), .ref (tv_ad c 4), .ref (tv_ad c 5), .int 0, .int 0, .int 0, .int 0, .int 0, .int 0, .int 0, .int 0]))) 7 6) ggX6_init_X0_init rfl wi_X6_init_ini_X0_init (fun q => q.2.1) wi_X6_init_im_X0_init rfl yi_X0_init ⟨rfl, rfl⟩ ⟨(Nat.le_of_ble_eq_true rfl), (Nat.le_of_ble_eq_true rfl)⟩ ⟨(Nat.le_of_ble_eq_true rfl), (Nat.le_of_ble_eq_true rfl)⟩ rfl rfl (Nat.le_of_ble_eq_true rfl) dX6_init_47 ?_
  show tg_V c X 4 47 7 (va_up (va_up (bE c) 0 x) 2 (.inr (6, [.ref (tv_ad c 3), .ref (tv_ad c 4), .ref (tv_ad c 5), .int 0, .int 0, .int 0, .int 0, .int 0, .int 0, .int 0, .int 0]))) 50 [(1, .int 0), (0, .ref (tv_ad c 2))] [.ref (tv_ad c 6), .int 0, .ref (tv_ad c 3)]
  refine tg_aast (f := fq c 6 0) (r := (RX0, TX0, 5)) (vs := [.int 0, .int 0, .int 0, .int 0, .int 0]) (E' := (va_up (va_up (va_up (bE c) 0 x) 2 (.inr (6, [.ref (tv_ad c 3), .ref (tv_ad c 4), .ref (tv_ad c 5), .int 0, .int 0, .int 0, .int 0, .int 0, .int 0, .int 0, .int 0]))) 3 (.inl (tv_kk c 3, 24, .inr (.inr (.inr (.inr (fq c 6 1)))))))) C 3 (by decide) rfl 3 rfl (6 + 0) (by decide) rfl rfl 0 rfl (by decide) (by decide) (by rw [fq_s]) dX6_init_50 ?_
  refine tg_iinc (v := 1) (lv' := [(1, .int 1), (0, .ref (tv_ad c 2))]) C dX6_init_51 0 rfl (by decide) (by decide) rfl ?_
  refine tg_goto C 32 dX6_init_54 (by decide) ?_
  refine tg_iload_n C dX6_init_32 rfl 0 rfl ?_
  refine tg_bipush (v := 24) C dX6_init_33 (by decide) ?_
  refine tg_icmp_ge C 57 dX6_init_35 (by decide) (fun q => absurd q (by decide)) (fun _ => ?_)
  refine tg_aload_n C dX6_init_38 rfl 1 rfl ?_
  refine tg_get (ci := 6) (fs := [.ref (tv_ad c 3), .ref (tv_ad c 4), .ref (tv_ad c 5), .int 0, .int 0, .int 0, .int 0, .int 0, .int 0, .int 0, .int 0]) (Cn := RX6) (T := TX6) (Nf := 11) (v := .ref (tv_ad c 3)) C 2 (by decide) rfl rfl in_X6_init_X6 0 (by decide) lk_X6_init_11 rfl dX6_init_39 ?_
  refine tg_iload_n C dX6_init_42 rfl 0 rfl ?_
  refine tg_new (ci := 0) (fs := [.int 0, .int 0, .int 0, .int 0, .int 0]) (Cn := RX0) (T := TX0) (Nf := 5) C rfl in_X6_init_X0 tyX0 tyX0_ok wi_X6_init_cl9 wi_X6_init_insX0 wi_X6_init_iniX0 dfX0 rfl (Nat.le_of_ble_eq_true rfl) (Nat.le_of_ble_eq_true rfl) dX6_init_43 ?_
  show tg_V c X 5 52 8 (va_up (va_up (va_up (bE c) 0 x) 2 (.inr (6, [.ref (tv_ad c 3), .ref (tv_ad c 4), .ref (tv_ad c 5), .int 0, .int 0, .int 0, .int 0, .int 0, .int 0, .int 0, .int 0]))) 3 (.inl (tv_kk c 3, 24, .inr (.inr (.inr (.inr (fq c 6 1))))))) 46 [(1, .int 1), (0, .ref (tv_ad c 2))] [.ref (tv_ad c 7), .int 1, .ref (tv_ad c 3)]
  refine tg_dup C dX6_init_46 rfl ?_
  refine tg_callN (host := RX7) (As := []) (rest := [.ref (tv_ad c 7), .int 1, .ref (tv_ad c 3)]) C (kX0_init c (va_up (va_up (va_up (bE c) 0 x) 2 (.inr (6, [.ref (tv_ad c 3), .ref (tv_ad c 4), .ref (tv_ad c 5), .int 0, .int 0, .int 0, .int 0, .int 0, .int 0, .int 0, .int 0]))) 3 (.inl (tv_kk c 3, 24, .inr (.inr (.inr (.inr (fq c 6 1))))))) 8 7) ggX6_init_X0_init rfl wi_X6_init_ini_X0_init (fun q => q.2.1) wi_X6_init_im_X0_init rfl yi_X0_init ⟨rfl, rfl⟩ ⟨(Nat.le_of_ble_eq_true rfl), (Nat.le_of_ble_eq_true rfl)⟩ ⟨(Nat.le_of_ble_eq_true rfl), (Nat.le_of_ble_eq_true rfl)⟩ rfl rfl (Nat.le_of_ble_eq_true rfl) dX6_init_47 ?_
  show tg_V c X 5 52 8 (va_up (va_up (va_up (bE c) 0 x) 2 (.inr (6, [.ref (tv_ad c 3), .ref (tv_ad c 4), .ref (tv_ad c 5), .int 0, .int 0, .int 0, .int 0, .int 0, .int 0, .int 0, .int 0]))) 3 (.inl (tv_kk c 3, 24, .inr (.inr (.inr (.inr (fq c 6 1))))))) 50 [(1, .int 1), (0, .ref (tv_ad c 2))] [.ref (tv_ad c 7), .int 1, .ref (tv_ad c 3)]
  refine tg_aast (f := fq c 6 1) (r := (RX0, TX0, 5)) (vs := [.int 0, .int 0, .int 0, .int 0, .int 0]) (E' := (va_up (va_up (va_up (bE c) 0 x) 2 (.inr (6, [.ref (tv_ad c 3), .ref (tv_ad c 4), .ref (tv_ad c 5), .int 0, .int 0, .int 0, .int 0, .int 0, .int 0, .int 0, .int 0]))) 3 (.inl (tv_kk c 3, 24, .inr (.inr (.inr (.inr (fq c 6 2)))))))) C 3 (by decide) rfl 3 rfl (6 + 1) (by decide) rfl rfl 1 rfl (by decide) (by decide) (by rw [fq_s]; exact va_up_up) dX6_init_50 ?_
  refine tg_iinc (v := 2) (lv' := [(1, .int 2), (0, .ref (tv_ad c 2))]) C dX6_init_51 0 rfl (by decide) (by decide) rfl ?_
  refine tg_goto C 32 dX6_init_54 (by decide) ?_
  refine tg_iload_n C dX6_init_32 rfl 0 rfl ?_
  refine tg_bipush (v := 24) C dX6_init_33 (by decide) ?_
  refine tg_icmp_ge C 57 dX6_init_35 (by decide) (fun q => absurd q (by decide)) (fun _ => ?_)
  refine tg_aload_n C dX6_init_38 rfl 1 rfl ?_
  refine tg_get (ci := 6) (fs := [.ref (tv_ad c 3), .ref (tv_ad c 4), .ref (tv_ad c 5), .int 0, .int 0, .int 0, .int 0, .int 0, .int 0, .int 0, .int 0]) (Cn := RX6) (T := TX6) (Nf := 11) (v := .ref (tv_ad c 3)) C 2 (by decide) rfl rfl in_X6_init_X6 0 (by decide) lk_X6_init_11 rfl dX6_init_39 ?_
  refine tg_iload_n C dX6_init_42 rfl 0 rfl ?_
  refine tg_new (ci := 0) (fs := [.int 0, .int 0, .int 0, .int 0, .int 0]) (Cn := RX0) (T := TX0) (Nf := 5) C rfl in_X6_init_X0 tyX0 tyX0_ok wi_X6_init_cl9 wi_X6_init_insX0 wi_X6_init_iniX0 dfX0 rfl (Nat.le_of_ble_eq_true rfl) (Nat.le_of_ble_eq_true rfl) dX6_init_43 ?_
  show tg_V c X 6 57 9 (va_up (va_up (va_up (bE c) 0 x) 2 (.inr (6, [.ref (tv_ad c 3), .ref (tv_ad c 4), .ref (tv_ad c 5), .int 0, .int 0, .int 0, .int 0, .int 0, .int 0, .int 0, .int 0]))) 3 (.inl (tv_kk c 3, 24, .inr (.inr (.inr (.inr (fq c 6 2))))))) 46 [(1, .int 2), (0, .ref (tv_ad c 2))] [.ref (tv_ad c 8), .int 2, .ref (tv_ad c 3)]
  refine tg_dup C dX6_init_46 rfl ?_
  refine tg_callN (host := RX7) (As := []) (rest := [.ref (tv_ad c 8), .int 2, .ref (tv_ad c 3)]) C (kX0_init c (va_up (va_up (va_up (bE c) 0 x) 2 (.inr (6, [.ref (tv_ad c 3), .ref (tv_ad c 4), .ref (tv_ad c 5), .int 0, .int 0, .int 0, .int 0, .int 0, .int 0, .int 0, .int 0]))) 3 (.inl (tv_kk c 3, 24, .inr (.inr (.inr (.inr (fq c 6 2))))))) 9 8) ggX6_init_X0_init rfl wi_X6_init_ini_X0_init (fun q => q.2.1) wi_X6_init_im_X0_init rfl yi_X0_init ⟨rfl, rfl⟩ ⟨(Nat.le_of_ble_eq_true rfl), (Nat.le_of_ble_eq_true rfl)⟩ ⟨(Nat.le_of_ble_eq_true rfl), (Nat.le_of_ble_eq_true rfl)⟩ rfl rfl (Nat.le_of_ble_eq_true rfl) dX6_init_47 ?_
  show tg_V c X 6 57 9 (va_up (va_up (va_up (bE c) 0 x) 2 (.inr (6, [.ref (tv_ad c 3), .ref (tv_ad c 4), .ref (tv_ad c 5), .int 0, .int 0, .int 0, .int 0, .int 0, .int 0, .int 0, .int 0]))) 3 (.inl (tv_kk c 3, 24, .inr (.inr (.inr (.inr (fq c 6 2))))))) 50 [(1, .int 2), (0, .ref (tv_ad c 2))] [.ref (tv_ad c 8), .int 2, .ref (tv_ad c 3)]
  refine tg_aast (f := fq c 6 2) (r := (RX0, TX0, 5)) (vs := [.int 0, .int 0, .int 0, .int 0, .int 0]) (E' := (va_up (va_up (va_up (bE c) 0 x) 2 (.inr (6, [.ref (tv_ad c 3), .ref (tv_ad c 4), .ref (tv_ad c 5), .int 0, .int 0, .int 0, .int 0, .int 0, .int 0, .int 0, .int 0]))) 3 (.inl (tv_kk c 3, 24, .inr (.inr (.inr (.inr (fq c 6 3)))))))) C 3 (by decide) rfl 3 rfl (6 + 2) (by decide) rfl rfl 2 rfl (by decide) (by decide) (by rw [fq_s]; exact va_up_up) dX6_init_50 ?_
  refine tg_iinc (v := 3) (lv' := [(1, .int 3), (0, .ref (tv_ad c 2))]) C dX6_init_51 0 rfl (by decide) (by decide) rfl ?_
  refine tg_goto C 32 dX6_init_54 (by decide) ?_
  refine tg_iload_n C dX6_init_32 rfl 0 rfl ?_
  refine tg_bipush (v := 24) C dX6_init_33 (by decide) ?_
  refine tg_icmp_ge C 57 dX6_init_35 (by decide) (fun q => absurd q (by decide)) (fun _ => ?_)
  refine tg_aload_n C dX6_init_38 rfl 1 rfl ?_
  refine tg_get (ci := 6) (fs := [.ref (tv_ad c 3), .ref (tv_ad c 4), .ref (tv_ad c 5), .int 0, .int 0, .int 0, .int 0, .int 0, .int 0, .int 0, .int 0]) (Cn := RX6) (T := TX6) (Nf := 11) (v := .ref (tv_ad c 3)) C 2 (by decide) rfl rfl in_X6_init_X6 0 (by decide) lk_X6_init_11 rfl dX6_init_39 ?_
  refine tg_iload_n C dX6_init_42 rfl 0 rfl ?_
  refine tg_new (ci := 0) (fs := [.int 0, .int 0, .int 0, .int 0, .int 0]) (Cn := RX0) (T := TX0) (Nf := 5) C rfl in_X6_init_X0 tyX0 tyX0_ok wi_X6_init_cl9 wi_X6_init_insX0 wi_X6_init_iniX0 dfX0 rfl (Nat.le_of_ble_eq_true rfl) (Nat.le_of_ble_eq_true rfl) dX6_init_43 ?_
  show tg_V c X 7 62 10 (va_up (va_up (va_up (bE c) 0 x) 2 (.inr (6, [.ref (tv_ad c 3), .ref (tv_ad c 4), .ref (tv_ad c 5), .int 0, .int 0, .int 0, .int 0, .int 0, .int 0, .int 0, .int 0]))) 3 (.inl (tv_kk c 3, 24, .inr (.inr (.inr (.inr (fq c 6 3))))))) 46 [(1, .int 3), (0, .ref (tv_ad c 2))] [.ref (tv_ad c 9), .int 3, .ref (tv_ad c 3)]
  refine tg_dup C dX6_init_46 rfl ?_
  refine tg_callN (host := RX7) (As := []) (rest := [.ref (tv_ad c 9), .int 3, .ref (tv_ad c 3)]) C (kX0_init c (va_up (va_up (va_up (bE c) 0 x) 2 (.inr (6, [.ref (tv_ad c 3), .ref (tv_ad c 4), .ref (tv_ad c 5), .int 0, .int 0, .int 0, .int 0, .int 0, .int 0, .int 0, .int 0]))) 3 (.inl (tv_kk c 3, 24, .inr (.inr (.inr (.inr (fq c 6 3))))))) 10 9) ggX6_init_X0_init rfl wi_X6_init_ini_X0_init (fun q => q.2.1) wi_X6_init_im_X0_init rfl yi_X0_init ⟨rfl, rfl⟩ ⟨(Nat.le_of_ble_eq_true rfl), (Nat.le_of_ble_eq_true rfl)⟩ ⟨(Nat.le_of_ble_eq_true rfl), (Nat.le_of_ble_eq_true rfl)⟩ rfl rfl (Nat.le_of_ble_eq_true rfl) dX6_init_47 ?_
  show tg_V c X 7 62 10 (va_up (va_up (va_up (bE c) 0 x) 2 (.inr (6, [.ref (tv_ad c 3), .ref (tv_ad c 4), .ref (tv_ad c 5), .int 0, .int 0, .int 0, .int 0, .int 0, .int 0, .int 0, .int 0]))) 3 (.inl (tv_kk c 3, 24, .inr (.inr (.inr (.inr (fq c 6 3))))))) 50 [(1, .int 3), (0, .ref (tv_ad c 2))] [.ref (tv_ad c 9), .int 3, .ref (tv_ad c 3)]
  refine tg_aast (f := fq c 6 3) (r := (RX0, TX0, 5)) (vs := [.int 0, .int 0, .int 0, .int 0, .int 0]) (E' := (va_up (va_up (va_up (bE c) 0 x) 2 (.inr (6, [.ref (tv_ad c 3), .ref (tv_ad c 4), .ref (tv_ad c 5), .int 0, .int 0, .int 0, .int 0, .int 0, .int 0, .int 0, .int 0]))) 3 (.inl (tv_kk c 3, 24, .inr (.inr (.inr (.inr (fq c 6 4)))))))) C 3 (by decide) rfl 3 rfl (6 + 3) (by decide) rfl rfl 3 rfl (by decide) (by decide) (by rw [fq_s]; exact va_up_up) dX6_init_50 ?_
  refine tg_iinc (v := 4) (lv' := [(1, .int 4), (0, .ref (tv_ad c 2))]) C dX6_init_51 0 rfl (by decide) (by decide) rfl ?_
  refine tg_goto C 32 dX6_init_54 (by decide) ?_
  refine tg_iload_n C dX6_init_32 rfl 0 rfl ?_
  refine tg_bipush (v := 24) C dX6_init_33 (by decide) ?_
  refine tg_icmp_ge C 57 dX6_init_35 (by decide) (fun q => absurd q (by decide)) (fun _ => ?_)
  refine tg_aload_n C dX6_init_38 rfl 1 rfl ?_
  refine tg_get (ci := 6) (fs := [.ref (tv_ad c 3), .ref (tv_ad c 4), .ref (tv_ad c 5), .int 0, .int 0, .int 0, .int 0, .int 0, .int 0, .int 0, .int 0]) (Cn := RX6) (T := TX6) (Nf := 11) (v := .ref (tv_ad c 3)) C 2 (by decide) rfl rfl in_X6_init_X6 0 (by decide) lk_X6_init_11 rfl dX6_init_39 ?_
  refine tg_iload_n C dX6_init_42 rfl 0 rfl ?_
  refine tg_new (ci := 0) (fs := [.int 0, .int 0, .int 0, .int 0, .int 0]) (Cn := RX0) (T := TX0) (Nf := 5) C rfl in_X6_init_X0 tyX0 tyX0_ok wi_X6_init_cl9 wi_X6_init_insX0 wi_X6_init_iniX0 dfX0 rfl (Nat.le_of_ble_eq_true rfl) (Nat.le_of_ble_eq_true rfl) dX6_init_43 ?_
  show tg_V c X 8 67 11 (va_up (va_up (va_up (bE c) 0 x) 2 (.inr (6, [.ref (tv_ad c 3), .ref (tv_ad c 4), .ref (tv_ad c 5), .int 0, .int 0, .int 0, .int 0, .int 0, .int 0, .int 0, .int 0]))) 3 (.inl (tv_kk c 3, 24, .inr (.inr (.inr (.inr (fq c 6 4))))))) 46 [(1, .int 4), (0, .ref (tv_ad c 2))] [.ref (tv_ad c 10), .int 4, .ref (tv_ad c 3)]
  refine tg_dup C dX6_init_46 rfl ?_
  refine tg_callN (host := RX7) (As := []) (rest := [.ref (tv_ad c 10), .int 4, .ref (tv_ad c 3)]) C (kX0_init c (va_up (va_up (va_up (bE c) 0 x) 2 (.inr (6, [.ref (tv_ad c 3), .ref (tv_ad c 4), .ref (tv_ad c 5), .int 0, .int 0, .int 0, .int 0, .int 0, .int 0, .int 0, .int 0]))) 3 (.inl (tv_kk c 3, 24, .inr (.inr (.inr (.inr (fq c 6 4))))))) 11 10) ggX6_init_X0_init rfl wi_X6_init_ini_X0_init (fun q => q.2.1) wi_X6_init_im_X0_init rfl yi_X0_init ⟨rfl, rfl⟩ ⟨(Nat.le_of_ble_eq_true rfl), (Nat.le_of_ble_eq_true rfl)⟩ ⟨(Nat.le_of_ble_eq_true rfl), (Nat.le_of_ble_eq_true rfl)⟩ rfl rfl (Nat.le_of_ble_eq_true rfl) dX6_init_47 ?_
  show tg_V c X 8 67 11 (va_up (va_up (va_up (bE c) 0 x) 2 (.inr (6, [.ref (tv_ad c 3), .ref (tv_ad c 4), .ref (tv_ad c 5), .int 0, .int 0, .int 0, .int 0, .int 0, .int 0, .int 0, .int 0]))) 3 (.inl (tv_kk c 3, 24, .inr (.inr (.inr (.inr (fq c 6 4))))))) 50 [(1, .int 4), (0, .ref (tv_ad c 2))] [.ref (tv_ad c 10), .int 4, .ref (tv_ad c 3)]
  refine tg_aast (f := fq c 6 4) (r := (RX0, TX0, 5)) (vs := [.int 0, .int 0, .int 0, .int 0, .int 0]) (E' := (va_up (va_up (va_up (bE c) 0 x) 2 (.inr (6, [.ref (tv_ad c 3), .ref (tv_ad c 4), .ref (tv_ad c 5), .int 0, .int 0, .int 0, .int 0, .int 0, .int 0, .int 0, .int 0]))) 3 (.inl (tv_kk c 3, 24, .inr (.inr (.inr (.inr (fq c 6 5)))))))) C 3 (by decide) rfl 3 rfl (6 + 4) (by decide) rfl rfl 4 rfl (by decide) (by decide) (by rw [fq_s]; exact va_up_up) dX6_init_50 ?_
  refine tg_iinc (v := 5) (lv' := [(1, .int 5), (0, .ref (tv_ad c 2))]) C dX6_init_51 0 rfl (by decide) (by decide) rfl ?_
  refine tg_goto C 32 dX6_init_54 (by decide) ?_
  refine tg_iload_n C dX6_init_32 rfl 0 rfl ?_
  refine tg_bipush (v := 24) C dX6_init_33 (by decide) ?_
  refine tg_icmp_ge C 57 dX6_init_35 (by decide) (fun q => absurd q (by decide)) (fun _ => ?_)
  refine tg_aload_n C dX6_init_38 rfl 1 rfl ?_
  refine tg_get (ci := 6) (fs := [.ref (tv_ad c 3), .ref (tv_ad c 4), .ref (tv_ad c 5), .int 0, .int 0, .int 0, .int 0, .int 0, .int 0, .int 0, .int 0]) (Cn := RX6) (T := TX6) (Nf := 11) (v := .ref (tv_ad c 3)) C 2 (by decide) rfl rfl in_X6_init_X6 0 (by decide) lk_X6_init_11 rfl dX6_init_39 ?_
  refine tg_iload_n C dX6_init_42 rfl 0 rfl ?_
  refine tg_new (ci := 0) (fs := [.int 0, .int 0, .int 0, .int 0, .int 0]) (Cn := RX0) (T := TX0) (Nf := 5) C rfl in_X6_init_X0 tyX0 tyX0_ok wi_X6_init_cl9 wi_X6_init_insX0 wi_X6_init_iniX0 dfX0 rfl (Nat.le_of_ble_eq_true rfl) (Nat.le_of_ble_eq_true rfl) dX6_init_43 ?_
  show tg_V c X 9 72 12 (va_up (va_up (va_up (bE c) 0 x) 2 (.inr (6, [.ref (tv_ad c 3), .ref (tv_ad c 4), .ref (tv_ad c 5), .int 0, .int 0, .int 0, .int 0, .int 0, .int 0, .int 0, .int 0]))) 3 (.inl (tv_kk c 3, 24, .inr (.inr (.inr (.inr (fq c 6 5))))))) 46 [(1, .int 5), (0, .ref (tv_ad c 2))] [.ref (tv_ad c 11), .int 5, .ref (tv_ad c 3)]
  refine tg_dup C dX6_init_46 rfl ?_
  refine tg_callN (host := RX7) (As := []) (rest := [.ref (tv_ad c 11), .int 5, .ref (tv_ad c 3)]) C (kX0_init c (va_up (va_up (va_up (bE c) 0 x) 2 (.inr (6, [.ref (tv_ad c 3), .ref (tv_ad c 4), .ref (tv_ad c 5), .int 0, .int 0, .int 0, .int 0, .int 0, .int 0, .int 0, .int 0]))) 3 (.inl (tv_kk c 3, 24, .inr (.inr (.inr (.inr (fq c 6 5))))))) 12 11) ggX6_init_X0_init rfl wi_X6_init_ini_X0_init (fun q => q.2.1) wi_X6_init_im_X0_init rfl yi_X0_init ⟨rfl, rfl⟩ ⟨(Nat.le_of_ble_eq_true rfl), (Nat.le_of_ble_eq_true rfl)⟩ ⟨(Nat.le_of_ble_eq_true rfl), (Nat.le_of_ble_eq_true rfl)⟩ rfl rfl (Nat.le_of_ble_eq_true rfl) dX6_init_47 ?_
  show tg_V c X 9 72 12 (va_up (va_up (va_up (bE c) 0 x) 2 (.inr (6, [.ref (tv_ad c 3), .ref (tv_ad c 4), .ref (tv_ad c 5), .int 0, .int 0, .int 0, .int 0, .int 0, .int 0, .int 0, .int 0]))) 3 (.inl (tv_kk c 3, 24, .inr (.inr (.inr (.inr (fq c 6 5))))))) 50 [(1, .int 5), (0, .ref (tv_ad c 2))] [.ref (tv_ad c 11), .int 5, .ref (tv_ad c 3)]
  refine tg_aast (f := fq c 6 5) (r := (RX0, TX0, 5)) (vs := [.int 0, .int 0, .int 0, .int 0, .int 0]) (E' := (va_up (va_up (va_up (bE c) 0 x) 2 (.inr (6, [.ref (tv_ad c 3), .ref (tv_ad c 4), .ref (tv_ad c 5), .int 0, .int 0, .int 0, .int 0, .int 0, .int 0, .int 0, .int 0]))) 3 (.inl (tv_kk c 3, 24, .inr (.inr (.inr (.inr (fq c 6 6)))))))) C 3 (by decide) rfl 3 rfl (6 + 5) (by decide) rfl rfl 5 rfl (by decide) (by decide) (by rw [fq_s]; exact va_up_up) dX6_init_50 ?_
  refine tg_iinc (v := 6) (lv' := [(1, .int 6), (0, .ref (tv_ad c 2))]) C dX6_init_51 0 rfl (by decide) (by decide) rfl ?_
  refine tg_goto C 32 dX6_init_54 (by decide) ?_
  refine tg_iload_n C dX6_init_32 rfl 0 rfl ?_
  refine tg_bipush (v := 24) C dX6_init_33 (by decide) ?_
  refine tg_icmp_ge C 57 dX6_init_35 (by decide) (fun q => absurd q (by decide)) (fun _ => ?_)
  refine tg_aload_n C dX6_init_38 rfl 1 rfl ?_
  refine tg_get (ci := 6) (fs := [.ref (tv_ad c 3), .ref (tv_ad c 4), .ref (tv_ad c 5), .int 0, .int 0, .int 0, .int 0, .int 0, .int 0, .int 0, .int 0]) (Cn := RX6) (T := TX6) (Nf := 11) (v := .ref (tv_ad c 3)) C 2 (by decide) rfl rfl in_X6_init_X6 0 (by decide) lk_X6_init_11 rfl dX6_init_39 ?_
  refine tg_iload_n C dX6_init_42 rfl 0 rfl ?_
  refine tg_new (ci := 0) (fs := [.int 0, .int 0, .int 0, .int 0, .int 0]) (Cn := RX0) (T := TX0) (Nf := 5) C rfl in_X6_init_X0 tyX0 tyX0_ok wi_X6_init_cl9 wi_X6_init_insX0 wi_X6_init_iniX0 dfX0 rfl (Nat.le_of_ble_eq_true rfl) (Nat.le_of_ble_eq_true rfl) dX6_init_43 ?_
  show tg_V c X 10 77 13 (va_up (va_up (va_up (bE c) 0 x) 2 (.inr (6, [.ref (tv_ad c 3), .ref (tv_ad c 4), .ref (tv_ad c 5), .int 0, .int 0, .int 0, .int 0, .int 0, .int 0, .int 0, .int 0]))) 3 (.inl (tv_kk c 3, 24, .inr (.inr (.inr (.inr (fq c 6 6))))))) 46 [(1, .int 6), (0, .ref (tv_ad c 2))] [.ref (tv_ad c 12), .int 6, .ref (tv_ad c 3)]
  refine tg_dup C dX6_init_46 rfl ?_
  refine tg_callN (host := RX7) (As := []) (rest := [.ref (tv_ad c 12), .int 6, .ref (tv_ad c 3)]) C (kX0_init c (va_up (va_up (va_up (bE c) 0 x) 2 (.inr (6, [.ref (tv_ad c 3), .ref (tv_ad c 4), .ref (tv_ad c 5), .int 0, .int 0, .int 0, .int 0, .int 0, .int 0, .int 0, .int 0]))) 3 (.inl (tv_kk c 3, 24, .inr (.inr (.inr (.inr (fq c 6 6))))))) 13 12) ggX6_init_X0_init rfl wi_X6_init_ini_X0_init (fun q => q.2.1) wi_X6_init_im_X0_init rfl yi_X0_init ⟨rfl, rfl⟩ ⟨(Nat.le_of_ble_eq_true rfl), (Nat.le_of_ble_eq_true rfl)⟩ ⟨(Nat.le_of_ble_eq_true rfl), (Nat.le_of_ble_eq_true rfl)⟩ rfl rfl (Nat.le_of_ble_eq_true rfl) dX6_init_47 ?_
  show tg_V c X 10 77 13 (va_up (va_up (va_up (bE c) 0 x) 2 (.inr (6, [.ref (tv_ad c 3), .ref (tv_ad c 4), .ref (tv_ad c 5), .int 0, .int 0, .int 0, .int 0, .int 0, .int 0, .int 0, .int 0]))) 3 (.inl (tv_kk c 3, 24, .inr (.inr (.inr (.inr (fq c 6 6))))))) 50 [(1, .int 6), (0, .ref (tv_ad c 2))] [.ref (tv_ad c 12), .int 6, .ref (tv_ad c 3)]
  refine tg_aast (f := fq c 6 6) (r := (RX0, TX0, 5)) (vs := [.int 0, .int 0, .int 0, .int 0, .int 0]) (E' := (va_up (va_up (va_up (bE c) 0 x) 2 (.inr (6, [.ref (tv_ad c 3), .ref (tv_ad c 4), .ref (tv_ad c 5), .int 0, .int 0, .int 0, .int 0, .int 0, .int 0, .int 0, .int 0]))) 3 (.inl (tv_kk c 3, 24, .inr (.inr (.inr (.inr (fq c 6 7)))))))) C 3 (by decide) rfl 3 rfl (6 + 6) (by decide) rfl rfl 6 rfl (by decide) (by decide) (by rw [fq_s]; exact va_up_up) dX6_init_50 ?_
  refine tg_iinc (v := 7) (lv' := [(1, .int 7), (0, .ref (tv_ad c 2))]) C dX6_init_51 0 rfl (by decide) (by decide) rfl ?_
  refine tg_goto C 32 dX6_init_54 (by decide) ?_
  refine tg_iload_n C dX6_init_32 rfl 0 rfl ?_
  refine tg_bipush (v := 24) C dX6_init_33 (by decide) ?_
  refine tg_icmp_ge C 57 dX6_init_35 (by decide) (fun q => absurd q (by decide)) (fun _ => ?_)
  refine tg_aload_n C dX6_init_38 rfl 1 rfl ?_
  refine tg_get (ci := 6) (fs := [.ref (tv_ad c 3), .ref (tv_ad c 4), .ref (tv_ad c 5), .int 0, .int 0, .int 0, .int 0, .int 0, .int 0, .int 0, .int 0]) (Cn := RX6) (T := TX6) (Nf := 11) (v := .ref (tv_ad c 3)) C 2 (by decide) rfl rfl in_X6_init_X6 0 (by decide) lk_X6_init_11 rfl dX6_init_39 ?_
  refine tg_iload_n C dX6_init_42 rfl 0 rfl ?_
  refine tg_new (ci := 0) (fs := [.int 0, .int 0, .int 0, .int 0, .int 0]) (Cn := RX0) (T := TX0) (Nf := 5) C rfl in_X6_init_X0 tyX0 tyX0_ok wi_X6_init_cl9 wi_X6_init_insX0 wi_X6_init_iniX0 dfX0 rfl (Nat.le_of_ble_eq_true rfl) (Nat.le_of_ble_eq_true rfl) dX6_init_43 ?_
  show tg_V c X 11 82 14 (va_up (va_up (va_up (bE c) 0 x) 2 (.inr (6, [.ref (tv_ad c 3), .ref (tv_ad c 4), .ref (tv_ad c 5), .int 0, .int 0, .int 0, .int 0, .int 0, .int 0, .int 0, .int 0]))) 3 (.inl (tv_kk c 3, 24, .inr (.inr (.inr (.inr (fq c 6 7))))))) 46 [(1, .int 7), (0, .ref (tv_ad c 2))] [.ref (tv_ad c 13), .int 7, .ref (tv_ad c 3)]
  refine tg_dup C dX6_init_46 rfl ?_
  refine tg_callN (host := RX7) (As := []) (rest := [.ref (tv_ad c 13), .int 7, .ref (tv_ad c 3)]) C (kX0_init c (va_up (va_up (va_up (bE c) 0 x) 2 (.inr (6, [.ref (tv_ad c 3), .ref (tv_ad c 4), .ref (tv_ad c 5), .int 0, .int 0, .int 0, .int 0, .int 0, .int 0, .int 0, .int 0]))) 3 (.inl (tv_kk c 3, 24, .inr (.inr (.inr (.inr (fq c 6 7))))))) 14 13) ggX6_init_X0_init rfl wi_X6_init_ini_X0_init (fun q => q.2.1) wi_X6_init_im_X0_init rfl yi_X0_init ⟨rfl, rfl⟩ ⟨(Nat.le_of_ble_eq_true rfl), (Nat.le_of_ble_eq_true rfl)⟩ ⟨(Nat.le_of_ble_eq_true rfl), (Nat.le_of_ble_eq_true rfl)⟩ rfl rfl (Nat.le_of_ble_eq_true rfl) dX6_init_47 ?_
  show tg_V c X 11 82 14 (va_up (va_up (va_up (bE c) 0 x) 2 (.inr (6, [.ref (tv_ad c 3), .ref (tv_ad c 4), .ref (tv_ad c 5), .int 0, .int 0, .int 0, .int 0, .int 0, .int 0, .int 0, .int 0]))) 3 (.inl (tv_kk c 3, 24, .inr (.inr (.inr (.inr (fq c 6 7))))))) 50 [(1, .int 7), (0, .ref (tv_ad c 2))] [.ref (tv_ad c 13), .int 7, .ref (tv_ad c 3)]
  refine tg_aast (f := fq c 6 7) (r := (RX0, TX0, 5)) (vs := [.int 0, .int 0, .int 0, .int 0, .int 0]) (E' := (va_up (va_up (va_up (bE c) 0 x) 2 (.inr (6, [.ref (tv_ad c 3), .ref (tv_ad c 4), .ref (tv_ad c 5), .int 0, .int 0, .int 0, .int 0, .int 0, .int 0, .int 0, .int 0]))) 3 (.inl (tv_kk c 3, 24, .inr (.inr (.inr (.inr (fq c 6 8)))))))) C 3 (by decide) rfl 3 rfl (6 + 7) (by decide) rfl rfl 7 rfl (by decide) (by decide) (by rw [fq_s]; exact va_up_up) dX6_init_50 ?_
  refine tg_iinc (v := 8) (lv' := [(1, .int 8), (0, .ref (tv_ad c 2))]) C dX6_init_51 0 rfl (by decide) (by decide) rfl ?_
  refine tg_goto C 32 dX6_init_54 (by decide) ?_
  refine tg_iload_n C dX6_init_32 rfl 0 rfl ?_
  refine tg_bipush (v := 24) C dX6_init_33 (by decide) ?_
  refine tg_icmp_ge C 57 dX6_init_35 (by decide) (fun q => absurd q (by decide)) (fun _ => ?_)
  refine tg_aload_n C dX6_init_38 rfl 1 rfl ?_
  refine tg_get (ci := 6) (fs := [.ref (tv_ad c 3), .ref (tv_ad c 4), .ref (tv_ad c 5), .int 0, .int 0, .int 0, .int 0, .int 0, .int 0, .int 0, .int 0]) (Cn := RX6) (T := TX6) (Nf := 11) (v := .ref (tv_ad c 3)) C 2 (by decide) rfl rfl in_X6_init_X6 0 (by decide) lk_X6_init_11 rfl dX6_init_39 ?_
  refine tg_iload_n C dX6_init_42 rfl 0 rfl ?_
  refine tg_new (ci := 0) (fs := [.int 0, .int 0, .int 0, .int 0, .int 0]) (Cn := RX0) (T := TX0) (Nf := 5) C rfl in_X6_init_X0 tyX0 tyX0_ok wi_X6_init_cl9 wi_X6_init_insX0 wi_X6_init_iniX0 dfX0 rfl (Nat.le_of_ble_eq_true rfl) (Nat.le_of_ble_eq_true rfl) dX6_init_43 ?_
  show tg_V c X 12 87 15 (va_up (va_up (va_up (bE c) 0 x) 2 (.inr (6, [.ref (tv_ad c 3), .ref (tv_ad c 4), .ref (tv_ad c 5), .int 0, .int 0, .int 0, .int 0, .int 0, .int 0, .int 0, .int 0]))) 3 (.inl (tv_kk c 3, 24, .inr (.inr (.inr (.inr (fq c 6 8))))))) 46 [(1, .int 8), (0, .ref (tv_ad c 2))] [.ref (tv_ad c 14), .int 8, .ref (tv_ad c 3)]
  refine tg_dup C dX6_init_46 rfl ?_
  refine tg_callN (host := RX7) (As := []) (rest := [.ref (tv_ad c 14), .int 8, .ref (tv_ad c 3)]) C (kX0_init c (va_up (va_up (va_up (bE c) 0 x) 2 (.inr (6, [.ref (tv_ad c 3), .ref (tv_ad c 4), .ref (tv_ad c 5), .int 0, .int 0, .int 0, .int 0, .int 0, .int 0, .int 0, .int 0]))) 3 (.inl (tv_kk c 3, 24, .inr (.inr (.inr (.inr (fq c 6 8))))))) 15 14) ggX6_init_X0_init rfl wi_X6_init_ini_X0_init (fun q => q.2.1) wi_X6_init_im_X0_init rfl yi_X0_init ⟨rfl, rfl⟩ ⟨(Nat.le_of_ble_eq_true rfl), (Nat.le_of_ble_eq_true rfl)⟩ ⟨(Nat.le_of_ble_eq_true rfl), (Nat.le_of_ble_eq_true rfl)⟩ rfl rfl (Nat.le_of_ble_eq_true rfl) dX6_init_47 ?_
  show tg_V c X 12 87 15 (va_up (va_up (va_up (bE c) 0 x) 2 (.inr (6, [.ref (tv_ad c 3), .ref (tv_ad c 4), .ref (tv_ad c 5), .int 0, .int 0, .int 0, .int 0, .int 0, .int 0, .int 0, .int 0]))) 3 (.inl (tv_kk c 3, 24, .inr (.inr (.inr (.inr (fq c 6 8))))))) 50 [(1, .int 8), (0, .ref (tv_ad c 2))] [.ref (tv_ad c 14), .int 8, .ref (tv_ad c 3)]
  refine tg_aast (f := fq c 6 8) (r := (RX0, TX0, 5)) (vs := [.int 0, .int 0, .int 0, .int 0, .int 0]) (E' := (va_up (va_up (va_up (bE c) 0 x) 2 (.inr (6, [.ref (tv_ad c 3), .ref (tv_ad c 4), .ref (tv_ad c 5), .int 0, .int 0, .int 0, .int 0, .int 0, .int 0, .int 0, .int 0]))) 3 (.inl (tv_kk c 3, 24, .inr (.inr (.inr (.inr (fq c 6 9)))))))) C 3 (by decide) rfl 3 rfl (6 + 8) (by decide) rfl rfl 8 rfl (by decide) (by decide) (by rw [fq_s]; exact va_up_up) dX6_init_50 ?_
  refine tg_iinc (v := 9) (lv' := [(1, .int 9), (0, .ref (tv_ad c 2))]) C dX6_init_51 0 rfl (by decide) (by decide) rfl ?_
  refine tg_goto C 32 dX6_init_54 (by decide) ?_
  refine tg_iload_n C dX6_init_32 rfl 0 rfl ?_
  refine tg_bipush (v := 24) C dX6_init_33 (by decide) ?_
  refine tg_icmp_ge C 57 dX6_init_35 (by decide) (fun q => absurd q (by decide)) (fun _ => ?_)
  refine tg_aload_n C dX6_init_38 rfl 1 rfl ?_
  refine tg_get (ci := 6) (fs := [.ref (tv_ad c 3), .ref (tv_ad c 4), .ref (tv_ad c 5), .int 0, .int 0, .int 0, .int 0, .int 0, .int 0, .int 0, .int 0]) (Cn := RX6) (T := TX6) (Nf := 11) (v := .ref (tv_ad c 3)) C 2 (by decide) rfl rfl in_X6_init_X6 0 (by decide) lk_X6_init_11 rfl dX6_init_39 ?_
  refine tg_iload_n C dX6_init_42 rfl 0 rfl ?_
  refine tg_new (ci := 0) (fs := [.int 0, .int 0, .int 0, .int 0, .int 0]) (Cn := RX0) (T := TX0) (Nf := 5) C rfl in_X6_init_X0 tyX0 tyX0_ok wi_X6_init_cl9 wi_X6_init_insX0 wi_X6_init_iniX0 dfX0 rfl (Nat.le_of_ble_eq_true rfl) (Nat.le_of_ble_eq_true rfl) dX6_init_43 ?_
  show tg_V c X 13 92 16 (va_up (va_up (va_up (bE c) 0 x) 2 (.inr (6, [.ref (tv_ad c 3), .ref (tv_ad c 4), .ref (tv_ad c 5), .int 0, .int 0, .int 0, .int 0, .int 0, .int 0, .int 0, .int 0]))) 3 (.inl (tv_kk c 3, 24, .inr (.inr (.inr (.inr (fq c 6 9))))))) 46 [(1, .int 9), (0, .ref (tv_ad c 2))] [.ref (tv_ad c 15), .int 9, .ref (tv_ad c 3)]
  refine tg_dup C dX6_init_46 rfl ?_
  refine tg_callN (host := RX7) (As := []) (rest := [.ref (tv_ad c 15), .int 9, .ref (tv_ad c 3)]) C (kX0_init c (va_up (va_up (va_up (bE c) 0 x) 2 (.inr (6, [.ref (tv_ad c 3), .ref (tv_ad c 4), .ref (tv_ad c 5), .int 0, .int 0, .int 0, .int 0, .int 0, .int 0, .int 0, .int 0]))) 3 (.inl (tv_kk c 3, 24, .inr (.inr (.inr (.inr (fq c 6 9))))))) 16 15) ggX6_init_X0_init rfl wi_X6_init_ini_X0_init (fun q => q.2.1) wi_X6_init_im_X0_init rfl yi_X0_init ⟨rfl, rfl⟩ ⟨(Nat.le_of_ble_eq_true rfl), (Nat.le_of_ble_eq_true rfl)⟩ ⟨(Nat.le_of_ble_eq_true rfl), (Nat.le_of_ble_eq_true rfl)⟩ rfl rfl (Nat.le_of_ble_eq_true rfl) dX6_init_47 ?_
  show tg_V c X 13 92 16 (va_up (va_up (va_up (bE c) 0 x) 2 (.inr (6, [.ref (tv_ad c 3), .ref (tv_ad c 4), .ref (tv_ad c 5), .int 0, .int 0, .int 0, .int 0, .int 0, .int 0, .int 0, .int 0]))) 3 (.inl (tv_kk c 3, 24, .inr (.inr (.inr (.inr (fq c 6 9))))))) 50 [(1, .int 9), (0, .ref (tv_ad c 2))] [.ref (tv_ad c 15), .int 9, .ref (tv_ad c 3)]
  refine tg_aast (f := fq c 6 9) (r := (RX0, TX0, 5)) (vs := [.int 0, .int 0, .int 0, .int 0, .int 0]) (E' := (va_up (va_up (va_up (bE c) 0 x) 2 (.inr (6, [.ref (tv_ad c 3), .ref (tv_ad c 4), .ref (tv_ad c 5), .int 0, .int 0, .int 0, .int 0, .int 0, .int 0, .int 0, .int 0]))) 3 (.inl (tv_kk c 3, 24, .inr (.inr (.inr (.inr (fq c 6 10)))))))) C 3 (by decide) rfl 3 rfl (6 + 9) (by decide) rfl rfl 9 rfl (by decide) (by decide) (by rw [fq_s]; exact va_up_up) dX6_init_50 ?_
  refine tg_iinc (v := 10) (lv' := [(1, .int 10), (0, .ref (tv_ad c 2))]) C dX6_init_51 0 rfl (by decide) (by decide) rfl ?_
  refine tg_goto C 32 dX6_init_54 (by decide) ?_
  refine tg_iload_n C dX6_init_32 rfl 0 rfl ?_
  refine tg_bipush (v := 24) C dX6_init_33 (by decide) ?_
  refine tg_icmp_ge C 57 dX6_init_35 (by decide) (fun q => absurd q (by decide)) (fun _ => ?_)
  refine tg_aload_n C dX6_init_38 rfl 1 rfl ?_
  refine tg_get (ci := 6) (fs := [.ref (tv_ad c 3), .ref (tv_ad c 4), .ref (tv_ad c 5), .int 0, .int 0, .int 0, .int 0, .int 0, .int 0, .int 0, .int 0]) (Cn := RX6) (T := TX6) (Nf := 11) (v := .ref (tv_ad c 3)) C 2 (by decide) rfl rfl in_X6_init_X6 0 (by decide) lk_X6_init_11 rfl dX6_init_39 ?_
  refine tg_iload_n C dX6_init_42 rfl 0 rfl ?_
  refine tg_new (ci := 0) (fs := [.int 0, .int 0, .int 0, .int 0, .int 0]) (Cn := RX0) (T := TX0) (Nf := 5) C rfl in_X6_init_X0 tyX0 tyX0_ok wi_X6_init_cl9 wi_X6_init_insX0 wi_X6_init_iniX0 dfX0 rfl (Nat.le_of_ble_eq_true rfl) (Nat.le_of_ble_eq_true rfl) dX6_init_43 ?_
  show tg_V c X 14 97 17 (va_up (va_up (va_up (bE c) 0 x) 2 (.inr (6, [.ref (tv_ad c 3), .ref (tv_ad c 4), .ref (tv_ad c 5), .int 0, .int 0, .int 0, .int 0, .int 0, .int 0, .int 0, .int 0]))) 3 (.inl (tv_kk c 3, 24, .inr (.inr (.inr (.inr (fq c 6 10))))))) 46 [(1, .int 10), (0, .ref (tv_ad c 2))] [.ref (tv_ad c 16), .int 10, .ref (tv_ad c 3)]
  refine tg_dup C dX6_init_46 rfl ?_
  refine tg_callN (host := RX7) (As := []) (rest := [.ref (tv_ad c 16), .int 10, .ref (tv_ad c 3)]) C (kX0_init c (va_up (va_up (va_up (bE c) 0 x) 2 (.inr (6, [.ref (tv_ad c 3), .ref (tv_ad c 4), .ref (tv_ad c 5), .int 0, .int 0, .int 0, .int 0, .int 0, .int 0, .int 0, .int 0]))) 3 (.inl (tv_kk c 3, 24, .inr (.inr (.inr (.inr (fq c 6 10))))))) 17 16) ggX6_init_X0_init rfl wi_X6_init_ini_X0_init (fun q => q.2.1) wi_X6_init_im_X0_init rfl yi_X0_init ⟨rfl, rfl⟩ ⟨(Nat.le_of_ble_eq_true rfl), (Nat.le_of_ble_eq_true rfl)⟩ ⟨(Nat.le_of_ble_eq_true rfl), (Nat.le_of_ble_eq_true rfl)⟩ rfl rfl (Nat.le_of_ble_eq_true rfl) dX6_init_47 ?_
  show tg_V c X 14 97 17 (va_up (va_up (va_up (bE c) 0 x) 2 (.inr (6, [.ref (tv_ad c 3), .ref (tv_ad c 4), .ref (tv_ad c 5), .int 0, .int 0, .int 0, .int 0, .int 0, .int 0, .int 0, .int 0]))) 3 (.inl (tv_kk c 3, 24, .inr (.inr (.inr (.inr (fq c 6 10))))))) 50 [(1, .int 10), (0, .ref (tv_ad c 2))] [.ref (tv_ad c 16), .int 10, .ref (tv_ad c 3)]
  refine tg_aast (f := fq c 6 10) (r := (RX0, TX0, 5)) (vs := [.int 0, .int 0, .int 0, .int 0, .int 0]) (E' := (va_up (va_up (va_up (bE c) 0 x) 2 (.inr (6, [.ref (tv_ad c 3), .ref (tv_ad c 4), .ref (tv_ad c 5), .int 0, .int 0, .int 0, .int 0, .int 0, .int 0, .int 0, .int 0]))) 3 (.inl (tv_kk c 3, 24, .inr (.inr (.inr (.inr (fq c 6 11)))))))) C 3 (by decide) rfl 3 rfl (6 + 10) (by decide) rfl rfl 10 rfl (by decide) (by decide) (by rw [fq_s]; exact va_up_up) dX6_init_50 ?_
  refine tg_iinc (v := 11) (lv' := [(1, .int 11), (0, .ref (tv_ad c 2))]) C dX6_init_51 0 rfl (by decide) (by decide) rfl ?_
  refine tg_goto C 32 dX6_init_54 (by decide) ?_
  refine tg_iload_n C dX6_init_32 rfl 0 rfl ?_
  refine tg_bipush (v := 24) C dX6_init_33 (by decide) ?_
  refine tg_icmp_ge C 57 dX6_init_35 (by decide) (fun q => absurd q (by decide)) (fun _ => ?_)
  refine tg_aload_n C dX6_init_38 rfl 1 rfl ?_
  refine tg_get (ci := 6) (fs := [.ref (tv_ad c 3), .ref (tv_ad c 4), .ref (tv_ad c 5), .int 0, .int 0, .int 0, .int 0, .int 0, .int 0, .int 0, .int 0]) (Cn := RX6) (T := TX6) (Nf := 11) (v := .ref (tv_ad c 3)) C 2 (by decide) rfl rfl in_X6_init_X6 0 (by decide) lk_X6_init_11 rfl dX6_init_39 ?_
  refine tg_iload_n C dX6_init_42 rfl 0 rfl ?_
  refine tg_new (ci := 0) (fs := [.int 0, .int 0, .int 0, .int 0, .int 0]) (Cn := RX0) (T := TX0) (Nf := 5) C rfl in_X6_init_X0 tyX0 tyX0_ok wi_X6_init_cl9 wi_X6_init_insX0 wi_X6_init_iniX0 dfX0 rfl (Nat.le_of_ble_eq_true rfl) (Nat.le_of_ble_eq_true rfl) dX6_init_43 ?_
  show tg_V c X 15 102 18 (va_up (va_up (va_up (bE c) 0 x) 2 (.inr (6, [.ref (tv_ad c 3), .ref (tv_ad c 4), .ref (tv_ad c 5), .int 0, .int 0, .int 0, .int 0, .int 0, .int 0, .int 0, .int 0]))) 3 (.inl (tv_kk c 3, 24, .inr (.inr (.inr (.inr (fq c 6 11))))))) 46 [(1, .int 11), (0, .ref (tv_ad c 2))] [.ref (tv_ad c 17), .int 11, .ref (tv_ad c 3)]
  refine tg_dup C dX6_init_46 rfl ?_
  refine tg_callN (host := RX7) (As := []) (rest := [.ref (tv_ad c 17), .int 11, .ref (tv_ad c 3)]) C (kX0_init c (va_up (va_up (va_up (bE c) 0 x) 2 (.inr (6, [.ref (tv_ad c 3), .ref (tv_ad c 4), .ref (tv_ad c 5), .int 0, .int 0, .int 0, .int 0, .int 0, .int 0, .int 0, .int 0]))) 3 (.inl (tv_kk c 3, 24, .inr (.inr (.inr (.inr (fq c 6 11))))))) 18 17) ggX6_init_X0_init rfl wi_X6_init_ini_X0_init (fun q => q.2.1) wi_X6_init_im_X0_init rfl yi_X0_init ⟨rfl, rfl⟩ ⟨(Nat.le_of_ble_eq_true rfl), (Nat.le_of_ble_eq_true rfl)⟩ ⟨(Nat.le_of_ble_eq_true rfl), (Nat.le_of_ble_eq_true rfl)⟩ rfl rfl (Nat.le_of_ble_eq_true rfl) dX6_init_47 ?_
  show tg_V c X 15 102 18 (va_up (va_up (va_up (bE c) 0 x) 2 (.inr (6, [.ref (tv_ad c 3), .ref (tv_ad c 4), .ref (tv_ad c 5), .int 0, .int 0, .int 0, .int 0, .int 0, .int 0, .int 0, .int 0]))) 3 (.inl (tv_kk c 3, 24, .inr (.inr (.inr (.inr (fq c 6 11))))))) 50 [(1, .int 11), (0, .ref (tv_ad c 2))] [.ref (tv_ad c 17), .int 11, .ref (tv_ad c 3)]
  refine tg_aast (f := fq c 6 11) (r := (RX0, TX0, 5)) (vs := [.int 0, .int 0, .int 0, .int 0, .int 0]) (E' := (va_up (va_up (va_up (bE c) 0 x) 2 (.inr (6, [.ref (tv_ad c 3), .ref (tv_ad c 4), .ref (tv_ad c 5), .int 0, .int 0, .int 0, .int 0, .int 0, .int 0, .int 0, .int 0]))) 3 (.inl (tv_kk c 3, 24, .inr (.inr (.inr (.inr (fq c 6 12)))))))) C 3 (by decide) rfl 3 rfl (6 + 11) (by decide) rfl rfl 11 rfl (by decide) (by decide) (by rw [fq_s]; exact va_up_up) dX6_init_50 ?_
  refine tg_iinc (v := 12) (lv' := [(1, .int 12), (0, .ref (tv_ad c 2))]) C dX6_init_51 0 rfl (by decide) (by decide) rfl ?_
  refine tg_goto C 32 dX6_init_54 (by decide) ?_
  refine tg_iload_n C dX6_init_32 rfl 0 rfl ?_
  refine tg_bipush (v := 24) C dX6_init_33 (by decide) ?_
  refine tg_icmp_ge C 57 dX6_init_35 (by decide) (fun q => absurd q (by decide)) (fun _ => ?_)
  refine tg_aload_n C dX6_init_38 rfl 1 rfl ?_
  refine tg_get (ci := 6) (fs := [.ref (tv_ad c 3), .ref (tv_ad c 4), .ref (tv_ad c 5), .int 0, .int 0, .int 0, .int 0, .int 0, .int 0, .int 0, .int 0]) (Cn := RX6) (T := TX6) (Nf := 11) (v := .ref (tv_ad c 3)) C 2 (by decide) rfl rfl in_X6_init_X6 0 (by decide) lk_X6_init_11 rfl dX6_init_39 ?_
  refine tg_iload_n C dX6_init_42 rfl 0 rfl ?_
  refine tg_new (ci := 0) (fs := [.int 0, .int 0, .int 0, .int 0, .int 0]) (Cn := RX0) (T := TX0) (Nf := 5) C rfl in_X6_init_X0 tyX0 tyX0_ok wi_X6_init_cl9 wi_X6_init_insX0 wi_X6_init_iniX0 dfX0 rfl (Nat.le_of_ble_eq_true rfl) (Nat.le_of_ble_eq_true rfl) dX6_init_43 ?_
  show tg_V c X 16 107 19 (va_up (va_up (va_up (bE c) 0 x) 2 (.inr (6, [.ref (tv_ad c 3), .ref (tv_ad c 4), .ref (tv_ad c 5), .int 0, .int 0, .int 0, .int 0, .int 0, .int 0, .int 0, .int 0]))) 3 (.inl (tv_kk c 3, 24, .inr (.inr (.inr (.inr (fq c 6 12))))))) 46 [(1, .int 12), (0, .ref (tv_ad c 2))] [.ref (tv_ad c 18), .int 12, .ref (tv_ad c 3)]
  refine tg_dup C dX6_init_46 rfl ?_
  refine tg_callN (host := RX7) (As := []) (rest := [.ref (tv_ad c 18), .int 12, .ref (tv_ad c 3)]) C (kX0_init c (va_up (va_up (va_up (bE c) 0 x) 2 (.inr (6, [.ref (tv_ad c 3), .ref (tv_ad c 4), .ref (tv_ad c 5), .int 0, .int 0, .int 0, .int 0, .int 0, .int 0, .int 0, .int 0]))) 3 (.inl (tv_kk c 3, 24, .inr (.inr (.inr (.inr (fq c 6 12))))))) 19 18) ggX6_init_X0_init rfl wi_X6_init_ini_X0_init (fun q => q.2.1) wi_X6_init_im_X0_init rfl yi_X0_init ⟨rfl, rfl⟩ ⟨(Nat.le_of_ble_eq_true rfl), (Nat.le_of_ble_eq_true rfl)⟩ ⟨(Nat.le_of_ble_eq_true rfl), (Nat.le_of_ble_eq_true rfl)⟩ rfl rfl (Nat.le_of_ble_eq_true rfl) dX6_init_47 ?_
  show tg_V c X 16 107 19 (va_up (va_up (va_up (bE c) 0 x) 2 (.inr (6, [.ref (tv_ad c 3), .ref (tv_ad c 4), .ref (tv_ad c 5), .int 0, .int 0, .int 0, .int 0, .int 0, .int 0, .int 0, .int 0]))) 3 (.inl (tv_kk c 3, 24, .inr (.inr (.inr (.inr (fq c 6 12))))))) 50 [(1, .int 12), (0, .ref (tv_ad c 2))] [.ref (tv_ad c 18), .int 12, .ref (tv_ad c 3)]
  refine tg_aast (f := fq c 6 12) (r := (RX0, TX0, 5)) (vs := [.int 0, .int 0, .int 0, .int 0, .int 0]) (E' := (va_up (va_up (va_up (bE c) 0 x) 2 (.inr (6, [.ref (tv_ad c 3), .ref (tv_ad c 4), .ref (tv_ad c 5), .int 0, .int 0, .int 0, .int 0, .int 0, .int 0, .int 0, .int 0]))) 3 (.inl (tv_kk c 3, 24, .inr (.inr (.inr (.inr (fq c 6 13)))))))) C 3 (by decide) rfl 3 rfl (6 + 12) (by decide) rfl rfl 12 rfl (by decide) (by decide) (by rw [fq_s]; exact va_up_up) dX6_init_50 ?_
  refine tg_iinc (v := 13) (lv' := [(1, .int 13), (0, .ref (tv_ad c 2))]) C dX6_init_51 0 rfl (by decide) (by decide) rfl ?_
  refine tg_goto C 32 dX6_init_54 (by decide) ?_
  refine tg_iload_n C dX6_init_32 rfl 0 rfl ?_
  refine tg_bipush (v := 24) C dX6_init_33 (by decide) ?_
  refine tg_icmp_ge C 57 dX6_init_35 (by decide) (fun q => absurd q (by decide)) (fun _ => ?_)
  refine tg_aload_n C dX6_init_38 rfl 1 rfl ?_
  refine tg_get (ci := 6) (fs := [.ref (tv_ad c 3), .ref (tv_ad c 4), .ref (tv_ad c 5), .int 0, .int 0, .int 0, .int 0, .int 0, .int 0, .int 0, .int 0]) (Cn := RX6) (T := TX6) (Nf := 11) (v := .ref (tv_ad c 3)) C 2 (by decide) rfl rfl in_X6_init_X6 0 (by decide) lk_X6_init_11 rfl dX6_init_39 ?_
  refine tg_iload_n C dX6_init_42 rfl 0 rfl ?_
  refine tg_new (ci := 0) (fs := [.int 0, .int 0, .int 0, .int 0, .int 0]) (Cn := RX0) (T := TX0) (Nf := 5) C rfl in_X6_init_X0 tyX0 tyX0_ok wi_X6_init_cl9 wi_X6_init_insX0 wi_X6_init_iniX0 dfX0 rfl (Nat.le_of_ble_eq_true rfl) (Nat.le_of_ble_eq_true rfl) dX6_init_43 ?_
  show tg_V c X 17 112 20 (va_up (va_up (va_up (bE c) 0 x) 2 (.inr (6, [.ref (tv_ad c 3), .ref (tv_ad c 4), .ref (tv_ad c 5), .int 0, .int 0, .int 0, .int 0, .int 0, .int 0, .int 0, .int 0]))) 3 (.inl (tv_kk c 3, 24, .inr (.inr (.inr (.inr (fq c 6 13))))))) 46 [(1, .int 13), (0, .ref (tv_ad c 2))] [.ref (tv_ad c 19), .int 13, .ref (tv_ad c 3)]
  refine tg_dup C dX6_init_46 rfl ?_
  refine tg_callN (host := RX7) (As := []) (rest := [.ref (tv_ad c 19), .int 13, .ref (tv_ad c 3)]) C (kX0_init c (va_up (va_up (va_up (bE c) 0 x) 2 (.inr (6, [.ref (tv_ad c 3), .ref (tv_ad c 4), .ref (tv_ad c 5), .int 0, .int 0, .int 0, .int 0, .int 0, .int 0, .int 0, .int 0]))) 3 (.inl (tv_kk c 3, 24, .inr (.inr (.inr (.inr (fq c 6 13))))))) 20 19) ggX6_init_X0_init rfl wi_X6_init_ini_X0_init (fun q => q.2.1) wi_X6_init_im_X0_init rfl yi_X0_init ⟨rfl, rfl⟩ ⟨(Nat.le_of_ble_eq_true rfl), (Nat.le_of_ble_eq_true rfl)⟩ ⟨(Nat.le_of_ble_eq_true rfl), (Nat.le_of_ble_eq_true rfl)⟩ rfl rfl (Nat.le_of_ble_eq_true rfl) dX6_init_47 ?_
  show tg_V c X 17 112 20 (va_up (va_up (va_up (bE c) 0 x) 2 (.inr (6, [.ref (tv_ad c 3), .ref (tv_ad c 4), .ref (tv_ad c 5), .int 0, .int 0, .int 0, .int 0, .int 0, .int 0, .int 0, .int 0]))) 3 (.inl (tv_kk c 3, 24, .inr (.inr (.inr (.inr (fq c 6 13))))))) 50 [(1, .int 13), (0, .ref (tv_ad c 2))] [.ref (tv_ad c 19), .int 13, .ref (tv_ad c 3)]
  refine tg_aast (f := fq c 6 13) (r := (RX0, TX0, 5)) (vs := [.int 0, .int 0, .int 0, .int 0, .int 0]) (E' := (va_up (va_up (va_up (bE c) 0 x) 2 (.inr (6, [.ref (tv_ad c 3), .ref (tv_ad c 4), .ref (tv_ad c 5), .int 0, .int 0, .int 0, .int 0, .int 0, .int 0, .int 0, .int 0]))) 3 (.inl (tv_kk c 3, 24, .inr (.inr (.inr (.inr (fq c 6 14)))))))) C 3 (by decide) rfl 3 rfl (6 + 13) (by decide) rfl rfl 13 rfl (by decide) (by decide) (by rw [fq_s]; exact va_up_up) dX6_init_50 ?_
  refine tg_iinc (v := 14) (lv' := [(1, .int 14), (0, .ref (tv_ad c 2))]) C dX6_init_51 0 rfl (by decide) (by decide) rfl ?_
  refine tg_goto C 32 dX6_init_54 (by decide) ?_
  refine tg_iload_n C dX6_init_32 rfl 0 rfl ?_
  refine tg_bipush (v := 24) C dX6_init_33 (by decide) ?_
  refine tg_icmp_ge C 57 dX6_init_35 (by decide) (fun q => absurd q (by decide)) (fun _ => ?_)
  refine tg_aload_n C dX6_init_38 rfl 1 rfl ?_
  refine tg_get (ci := 6) (fs := [.ref (tv_ad c 3), .ref (tv_ad c 4), .ref (tv_ad c 5), .int 0, .int 0, .int 0, .int 0, .int 0, .int 0, .int 0, .int 0]) (Cn := RX6) (T := TX6) (Nf := 11) (v := .ref (tv_ad c 3)) C 2 (by decide) rfl rfl in_X6_init_X6 0 (by decide) lk_X6_init_11 rfl dX6_init_39 ?_
  refine tg_iload_n C dX6_init_42 rfl 0 rfl ?_
  refine tg_new (ci := 0) (fs := [.int 0, .int 0, .int 0, .int 0, .int 0]) (Cn := RX0) (T := TX0) (Nf := 5) C rfl in_X6_init_X0 tyX0 tyX0_ok wi_X6_init_cl9 wi_X6_init_insX0 wi_X6_init_iniX0 dfX0 rfl (Nat.le_of_ble_eq_true rfl) (Nat.le_of_ble_eq_true rfl) dX6_init_43 ?_
  show tg_V c X 18 117 21 (va_up (va_up (va_up (bE c) 0 x) 2 (.inr (6, [.ref (tv_ad c 3), .ref (tv_ad c 4), .ref (tv_ad c 5), .int 0, .int 0, .int 0, .int 0, .int 0, .int 0, .int 0, .int 0]))) 3 (.inl (tv_kk c 3, 24, .inr (.inr (.inr (.inr (fq c 6 14))))))) 46 [(1, .int 14), (0, .ref (tv_ad c 2))] [.ref (tv_ad c 20), .int 14, .ref (tv_ad c 3)]
  refine tg_dup C dX6_init_46 rfl ?_
  refine tg_callN (host := RX7) (As := []) (rest := [.ref (tv_ad c 20), .int 14, .ref (tv_ad c 3)]) C (kX0_init c (va_up (va_up (va_up (bE c) 0 x) 2 (.inr (6, [.ref (tv_ad c 3), .ref (tv_ad c 4), .ref (tv_ad c 5), .int 0, .int 0, .int 0, .int 0, .int 0, .int 0, .int 0, .int 0]))) 3 (.inl (tv_kk c 3, 24, .inr (.inr (.inr (.inr (fq c 6 14))))))) 21 20) ggX6_init_X0_init rfl wi_X6_init_ini_X0_init (fun q => q.2.1) wi_X6_init_im_X0_init rfl yi_X0_init ⟨rfl, rfl⟩ ⟨(Nat.le_of_ble_eq_true rfl), (Nat.le_of_ble_eq_true rfl)⟩ ⟨(Nat.le_of_ble_eq_true rfl), (Nat.le_of_ble_eq_true rfl)⟩ rfl rfl (Nat.le_of_ble_eq_true rfl) dX6_init_47 ?_
  show tg_V c X 18 117 21 (va_up (va_up (va_up (bE c) 0 x) 2 (.inr (6, [.ref (tv_ad c 3), .ref (tv_ad c 4), .ref (tv_ad c 5), .int 0, .int 0, .int 0, .int 0, .int 0, .int 0, .int 0, .int 0]))) 3 (.inl (tv_kk c 3, 24, .inr (.inr (.inr (.inr (fq c 6 14))))))) 50 [(1, .int 14), (0, .ref (tv_ad c 2))] [.ref (tv_ad c 20), .int 14, .ref (tv_ad c 3)]
  refine tg_aast (f := fq c 6 14) (r := (RX0, TX0, 5)) (vs := [.int 0, .int 0, .int 0, .int 0, .int 0]) (E' := (va_up (va_up (va_up (bE c) 0 x) 2 (.inr (6, [.ref (tv_ad c 3), .ref (tv_ad c 4), .ref (tv_ad c 5), .int 0, .int 0, .int 0, .int 0, .int 0, .int 0, .int 0, .int 0]))) 3 (.inl (tv_kk c 3, 24, .inr (.inr (.inr (.inr (fq c 6 15)))))))) C 3 (by decide) rfl 3 rfl (6 + 14) (by decide) rfl rfl 14 rfl (by decide) (by decide) (by rw [fq_s]; exact va_up_up) dX6_init_50 ?_
  refine tg_iinc (v := 15) (lv' := [(1, .int 15), (0, .ref (tv_ad c 2))]) C dX6_init_51 0 rfl (by decide) (by decide) rfl ?_
  refine tg_goto C 32 dX6_init_54 (by decide) ?_
  refine tg_iload_n C dX6_init_32 rfl 0 rfl ?_
  refine tg_bipush (v := 24) C dX6_init_33 (by decide) ?_
  refine tg_icmp_ge C 57 dX6_init_35 (by decide) (fun q => absurd q (by decide)) (fun _ => ?_)
  refine tg_aload_n C dX6_init_38 rfl 1 rfl ?_
  refine tg_get (ci := 6) (fs := [.ref (tv_ad c 3), .ref (tv_ad c 4), .ref (tv_ad c 5), .int 0, .int 0, .int 0, .int 0, .int 0, .int 0, .int 0, .int 0]) (Cn := RX6) (T := TX6) (Nf := 11) (v := .ref (tv_ad c 3)) C 2 (by decide) rfl rfl in_X6_init_X6 0 (by decide) lk_X6_init_11 rfl dX6_init_39 ?_
  refine tg_iload_n C dX6_init_42 rfl 0 rfl ?_
  refine tg_new (ci := 0) (fs := [.int 0, .int 0, .int 0, .int 0, .int 0]) (Cn := RX0) (T := TX0) (Nf := 5) C rfl in_X6_init_X0 tyX0 tyX0_ok wi_X6_init_cl9 wi_X6_init_insX0 wi_X6_init_iniX0 dfX0 rfl (Nat.le_of_ble_eq_true rfl) (Nat.le_of_ble_eq_true rfl) dX6_init_43 ?_
  show tg_V c X 19 122 22 (va_up (va_up (va_up (bE c) 0 x) 2 (.inr (6, [.ref (tv_ad c 3), .ref (tv_ad c 4), .ref (tv_ad c 5), .int 0, .int 0, .int 0, .int 0, .int 0, .int 0, .int 0, .int 0]))) 3 (.inl (tv_kk c 3, 24, .inr (.inr (.inr (.inr (fq c 6 15))))))) 46 [(1, .int 15), (0, .ref (tv_ad c 2))] [.ref (tv_ad c 21), .int 15, .ref (tv_ad c 3)]
  refine tg_dup C dX6_init_46 rfl ?_
  refine tg_callN (host := RX7) (As := []) (rest := [.ref (tv_ad c 21), .int 15, .ref (tv_ad c 3)]) C (kX0_init c (va_up (va_up (va_up (bE c) 0 x) 2 (.inr (6, [.ref (tv_ad c 3), .ref (tv_ad c 4), .ref (tv_ad c 5), .int 0, .int 0, .int 0, .int 0, .int 0, .int 0, .int 0, .int 0]))) 3 (.inl (tv_kk c 3, 24, .inr (.inr (.inr (.inr (fq c 6 15))))))) 22 21) ggX6_init_X0_init rfl wi_X6_init_ini_X0_init (fun q => q.2.1) wi_X6_init_im_X0_init rfl yi_X0_init ⟨rfl, rfl⟩ ⟨(Nat.le_of_ble_eq_true rfl), (Nat.le_of_ble_eq_true rfl)⟩ ⟨(Nat.le_of_ble_eq_true rfl), (Nat.le_of_ble_eq_true rfl)⟩ rfl rfl (Nat.le_of_ble_eq_true rfl) dX6_init_47 ?_
  show tg_V c X 19 122 22 (va_up (va_up (va_up (bE c) 0 x) 2 (.inr (6, [.ref (tv_ad c 3), .ref (tv_ad c 4), .ref (tv_ad c 5), .int 0, .int 0, .int 0, .int 0, .int 0, .int 0, .int 0, .int 0]))) 3 (.inl (tv_kk c 3, 24, .inr (.inr (.inr (.inr (fq c 6 15))))))) 50 [(1, .int 15), (0, .ref (tv_ad c 2))] [.ref (tv_ad c 21), .int 15, .ref (tv_ad c 3)]
  refine tg_aast (f := fq c 6 15) (r := (RX0, TX0, 5)) (vs := [.int 0, .int 0, .int 0, .int 0, .int 0]) (E' := (va_up (va_up (va_up (bE c) 0 x) 2 (.inr (6, [.ref (tv_ad c 3), .ref (tv_ad c 4), .ref (tv_ad c 5), .int 0, .int 0, .int 0, .int 0, .int 0, .int 0, .int 0, .int 0]))) 3 (.inl (tv_kk c 3, 24, .inr (.inr (.inr (.inr (fq c 6 16)))))))) C 3 (by decide) rfl 3 rfl (6 + 15) (by decide) rfl rfl 15 rfl (by decide) (by decide) (by rw [fq_s]; exact va_up_up) dX6_init_50 ?_
  refine tg_iinc (v := 16) (lv' := [(1, .int 16), (0, .ref (tv_ad c 2))]) C dX6_init_51 0 rfl (by decide) (by decide) rfl ?_
  refine tg_goto C 32 dX6_init_54 (by decide) ?_
  refine tg_iload_n C dX6_init_32 rfl 0 rfl ?_
  refine tg_bipush (v := 24) C dX6_init_33 (by decide) ?_
  refine tg_icmp_ge C 57 dX6_init_35 (by decide) (fun q => absurd q (by decide)) (fun _ => ?_)
  refine tg_aload_n C dX6_init_38 rfl 1 rfl ?_
  refine tg_get (ci := 6) (fs := [.ref (tv_ad c 3), .ref (tv_ad c 4), .ref (tv_ad c 5), .int 0, .int 0, .int 0, .int 0, .int 0, .int 0, .int 0, .int 0]) (Cn := RX6) (T := TX6) (Nf := 11) (v := .ref (tv_ad c 3)) C 2 (by decide) rfl rfl in_X6_init_X6 0 (by decide) lk_X6_init_11 rfl dX6_init_39 ?_
  refine tg_iload_n C dX6_init_42 rfl 0 rfl ?_
  refine tg_new (ci := 0) (fs := [.int 0, .int 0, .int 0, .int 0, .int 0]) (Cn := RX0) (T := TX0) (Nf := 5) C rfl in_X6_init_X0 tyX0 tyX0_ok wi_X6_init_cl9 wi_X6_init_insX0 wi_X6_init_iniX0 dfX0 rfl (Nat.le_of_ble_eq_true rfl) (Nat.le_of_ble_eq_true rfl) dX6_init_43 ?_
  show tg_V c X 20 127 23 (va_up (va_up (va_up (bE c) 0 x) 2 (.inr (6, [.ref (tv_ad c 3), .ref (tv_ad c 4), .ref (tv_ad c 5), .int 0, .int 0, .int 0, .int 0, .int 0, .int 0, .int 0, .int 0]))) 3 (.inl (tv_kk c 3, 24, .inr (.inr (.inr (.inr (fq c 6 16))))))) 46 [(1, .int 16), (0, .ref (tv_ad c 2))] [.ref (tv_ad c 22), .int 16, .ref (tv_ad c 3)]
  refine tg_dup C dX6_init_46 rfl ?_
  refine tg_callN (host := RX7) (As := []) (rest := [.ref (tv_ad c 22), .int 16, .ref (tv_ad c 3)]) C (kX0_init c (va_up (va_up (va_up (bE c) 0 x) 2 (.inr (6, [.ref (tv_ad c 3), .ref (tv_ad c 4), .ref (tv_ad c 5), .int 0, .int 0, .int 0, .int 0, .int 0, .int 0, .int 0, .int 0]))) 3 (.inl (tv_kk c 3, 24, .inr (.inr (.inr (.inr (fq c 6 16))))))) 23 22) ggX6_init_X0_init rfl wi_X6_init_ini_X0_init (fun q => q.2.1) wi_X6_init_im_X0_init rfl yi_X0_init ⟨rfl, rfl⟩ ⟨(Nat.le_of_ble_eq_true rfl), (Nat.le_of_ble_eq_true rfl)⟩ ⟨(Nat.le_of_ble_eq_true rfl), (Nat.le_of_ble_eq_true rfl)⟩ rfl rfl (Nat.le_of_ble_eq_true rfl) dX6_init_47 ?_
  show tg_V c X 20 127 23 (va_up (va_up (va_up (bE c) 0 x) 2 (.inr (6, [.ref (tv_ad c 3), .ref (tv_ad c 4), .ref (tv_ad c 5), .int 0, .int 0, .int 0, .int 0, .int 0, .int 0, .int 0, .int 0]))) 3 (.inl (tv_kk c 3, 24, .inr (.inr (.inr (.inr (fq c 6 16))))))) 50 [(1, .int 16), (0, .ref (tv_ad c 2))] [.ref (tv_ad c 22), .int 16, .ref (tv_ad c 3)]
  refine tg_aast (f := fq c 6 16) (r := (RX0, TX0, 5)) (vs := [.int 0, .int 0, .int 0, .int 0, .int 0]) (E' := (va_up (va_up (va_up (bE c) 0 x) 2 (.inr (6, [.ref (tv_ad c 3), .ref (tv_ad c 4), .ref (tv_ad c 5), .int 0, .int 0, .int 0, .int 0, .int 0, .int 0, .int 0, .int 0]))) 3 (.inl (tv_kk c 3, 24, .inr (.inr (.inr (.inr (fq c 6 17)))))))) C 3 (by decide) rfl 3 rfl (6 + 16) (by decide) rfl rfl 16 rfl (by decide) (by decide) (by rw [fq_s]; exact va_up_up) dX6_init_50 ?_
  refine tg_iinc (v := 17) (lv' := [(1, .int 17), (0, .ref (tv_ad c 2))]) C dX6_init_51 0 rfl (by decide) (by decide) rfl ?_
  refine tg_goto C 32 dX6_init_54 (by decide) ?_
  refine tg_iload_n C dX6_init_32 rfl 0 rfl ?_
  refine tg_bipush (v := 24) C dX6_init_33 (by decide) ?_
  refine tg_icmp_ge C 57 dX6_init_35 (by decide) (fun q => absurd q (by decide)) (fun _ => ?_)
  refine tg_aload_n C dX6_init_38 rfl 1 rfl ?_
  refine tg_get (ci := 6) (fs := [.ref (tv_ad c 3), .ref (tv_ad c 4), .ref (tv_ad c 5), .int 0, .int 0, .int 0, .int 0, .int 0, .int 0, .int 0, .int 0]) (Cn := RX6) (T := TX6) (Nf := 11) (v := .ref (tv_ad c 3)) C 2 (by decide) rfl rfl in_X6_init_X6 0 (by decide) lk_X6_init_11 rfl dX6_init_39 ?_
  refine tg_iload_n C dX6_init_42 rfl 0 rfl ?_
  refine tg_new (ci := 0) (fs := [.int 0, .int 0, .int 0, .int 0, .int 0]) (Cn := RX0) (T := TX0) (Nf := 5) C rfl in_X6_init_X0 tyX0 tyX0_ok wi_X6_init_cl9 wi_X6_init_insX0 wi_X6_init_iniX0 dfX0 rfl (Nat.le_of_ble_eq_true rfl) (Nat.le_of_ble_eq_true rfl) dX6_init_43 ?_
  show tg_V c X 21 132 24 (va_up (va_up (va_up (bE c) 0 x) 2 (.inr (6, [.ref (tv_ad c 3), .ref (tv_ad c 4), .ref (tv_ad c 5), .int 0, .int 0, .int 0, .int 0, .int 0, .int 0, .int 0, .int 0]))) 3 (.inl (tv_kk c 3, 24, .inr (.inr (.inr (.inr (fq c 6 17))))))) 46 [(1, .int 17), (0, .ref (tv_ad c 2))] [.ref (tv_ad c 23), .int 17, .ref (tv_ad c 3)]
  refine tg_dup C dX6_init_46 rfl ?_
  refine tg_callN (host := RX7) (As := []) (rest := [.ref (tv_ad c 23), .int 17, .ref (tv_ad c 3)]) C (kX0_init c (va_up (va_up (va_up (bE c) 0 x) 2 (.inr (6, [.ref (tv_ad c 3), .ref (tv_ad c 4), .ref (tv_ad c 5), .int 0, .int 0, .int 0, .int 0, .int 0, .int 0, .int 0, .int 0]))) 3 (.inl (tv_kk c 3, 24, .inr (.inr (.inr (.inr (fq c 6 17))))))) 24 23) ggX6_init_X0_init rfl wi_X6_init_ini_X0_init (fun q => q.2.1) wi_X6_init_im_X0_init rfl yi_X0_init ⟨rfl, rfl⟩ ⟨(Nat.le_of_ble_eq_true rfl), (Nat.le_of_ble_eq_true rfl)⟩ ⟨(Nat.le_of_ble_eq_true rfl), (Nat.le_of_ble_eq_true rfl)⟩ rfl rfl (Nat.le_of_ble_eq_true rfl) dX6_init_47 ?_
  show tg_V c X 21 132 24 (va_up (va_up (va_up (bE c) 0 x) 2 (.inr (6, [.ref (tv_ad c 3), .ref (tv_ad c 4), .ref (tv_ad c 5), .int 0, .int 0, .int 0, .int 0, .int 0, .int 0, .int 0, .int 0]))) 3 (.inl (tv_kk c 3, 24, .inr (.inr (.inr (.inr (fq c 6 17))))))) 50 [(1, .int 17), (0, .ref (tv_ad c 2))] [.ref (tv_ad c 23), .int 17, .ref (tv_ad c 3)]
  refine tg_aast (f := fq c 6 17) (r := (RX0, TX0, 5)) (vs := [.int 0, .int 0, .int 0, .int 0, .int 0]) (E' := (va_up (va_up (va_up (bE c) 0 x) 2 (.inr (6, [.ref (tv_ad c 3), .ref (tv_ad c 4), .ref (tv_ad c 5), .int 0, .int 0, .int 0, .int 0, .int 0, .int 0, .int 0, .int 0]))) 3 (.inl (tv_kk c 3, 24, .inr (.inr (.inr (.inr (fq c 6 18)))))))) C 3 (by decide) rfl 3 rfl (6 + 17) (by decide) rfl rfl 17 rfl (by decide) (by decide) (by rw [fq_s]; exact va_up_up) dX6_init_50 ?_
  refine tg_iinc (v := 18) (lv' := [(1, .int 18), (0, .ref (tv_ad c 2))]) C dX6_init_51 0 rfl (by decide) (by decide) rfl ?_
  refine tg_goto C 32 dX6_init_54 (by decide) ?_
  refine tg_iload_n C dX6_init_32 rfl 0 rfl ?_
  refine tg_bipush (v := 24) C dX6_init_33 (by decide) ?_
  refine tg_icmp_ge C 57 dX6_init_35 (by decide) (fun q => absurd q (by decide)) (fun _ => ?_)
  refine tg_aload_n C dX6_init_38 rfl 1 rfl ?_
  refine tg_get (ci := 6) (fs := [.ref (tv_ad c 3), .ref (tv_ad c 4), .ref (tv_ad c 5), .int 0, .int 0, .int 0, .int 0, .int 0, .int 0, .int 0, .int 0]) (Cn := RX6) (T := TX6) (Nf := 11) (v := .ref (tv_ad c 3)) C 2 (by decide) rfl rfl in_X6_init_X6 0 (by decide) lk_X6_init_11 rfl dX6_init_39 ?_
  refine tg_iload_n C dX6_init_42 rfl 0 rfl ?_
  refine tg_new (ci := 0) (fs := [.int 0, .int 0, .int 0, .int 0, .int 0]) (Cn := RX0) (T := TX0) (Nf := 5) C rfl in_X6_init_X0 tyX0 tyX0_ok wi_X6_init_cl9 wi_X6_init_insX0 wi_X6_init_iniX0 dfX0 rfl (Nat.le_of_ble_eq_true rfl) (Nat.le_of_ble_eq_true rfl) dX6_init_43 ?_
  show tg_V c X 22 137 25 (va_up (va_up (va_up (bE c) 0 x) 2 (.inr (6, [.ref (tv_ad c 3), .ref (tv_ad c 4), .ref (tv_ad c 5), .int 0, .int 0, .int 0, .int 0, .int 0, .int 0, .int 0, .int 0]))) 3 (.inl (tv_kk c 3, 24, .inr (.inr (.inr (.inr (fq c 6 18))))))) 46 [(1, .int 18), (0, .ref (tv_ad c 2))] [.ref (tv_ad c 24), .int 18, .ref (tv_ad c 3)]
  refine tg_dup C dX6_init_46 rfl ?_
  refine tg_callN (host := RX7) (As := []) (rest := [.ref (tv_ad c 24), .int 18, .ref (tv_ad c 3)]) C (kX0_init c (va_up (va_up (va_up (bE c) 0 x) 2 (.inr (6, [.ref (tv_ad c 3), .ref (tv_ad c 4), .ref (tv_ad c 5), .int 0, .int 0, .int 0, .int 0, .int 0, .int 0, .int 0, .int 0]))) 3 (.inl (tv_kk c 3, 24, .inr (.inr (.inr (.inr (fq c 6 18))))))) 25 24) ggX6_init_X0_init rfl wi_X6_init_ini_X0_init (fun q => q.2.1) wi_X6_init_im_X0_init rfl yi_X0_init ⟨rfl, rfl⟩ ⟨(Nat.le_of_ble_eq_true rfl), (Nat.le_of_ble_eq_true rfl)⟩ ⟨(Nat.le_of_ble_eq_true rfl), (Nat.le_of_ble_eq_true rfl)⟩ rfl rfl (Nat.le_of_ble_eq_true rfl) dX6_init_47 ?_
  show tg_V c X 22 137 25 (va_up (va_up (va_up (bE c) 0 x) 2 (.inr (6, [.ref (tv_ad c 3), .ref (tv_ad c 4), .ref (tv_ad c 5), .int 0, .int 0, .int 0, .int 0, .int 0, .int 0, .int 0, .int 0]))) 3 (.inl (tv_kk c 3, 24, .inr (.inr (.inr (.inr (fq c 6 18))))))) 50 [(1, .int 18), (0, .ref (tv_ad c 2))] [.ref (tv_ad c 24), .int 18, .ref (tv_ad c 3)]
  refine tg_aast (f := fq c 6 18) (r := (RX0, TX0, 5)) (vs := [.int 0, .int 0, .int 0, .int 0, .int 0]) (E' := (va_up (va_up (va_up (bE c) 0 x) 2 (.inr (6, [.ref (tv_ad c 3), .ref (tv_ad c 4), .ref (tv_ad c 5), .int 0, .int 0, .int 0, .int 0, .int 0, .int 0, .int 0, .int 0]))) 3 (.inl (tv_kk c 3, 24, .inr (.inr (.inr (.inr (fq c 6 19)))))))) C 3 (by decide) rfl 3 rfl (6 + 18) (by decide) rfl rfl 18 rfl (by decide) (by decide) (by rw [fq_s]; exact va_up_up) dX6_init_50 ?_
  refine tg_iinc (v := 19) (lv' := [(1, .int 19), (0, .ref (tv_ad c 2))]) C dX6_init_51 0 rfl (by decide) (by decide) rfl ?_
  refine tg_goto C 32 dX6_init_54 (by decide) ?_
  refine tg_iload_n C dX6_init_32 rfl 0 rfl ?_
  refine tg_bipush (v := 24) C dX6_init_33 (by decide) ?_
  refine tg_icmp_ge C 57 dX6_init_35 (by decide) (fun q => absurd q (by decide)) (fun _ => ?_)
  refine tg_aload_n C dX6_init_38 rfl 1 rfl ?_
  refine tg_get (ci := 6) (fs := [.ref (tv_ad c 3), .ref (tv_ad c 4), .ref (tv_ad c 5), .int 0, .int 0, .int 0, .int 0, .int 0, .int 0, .int 0, .int 0]) (Cn := RX6) (T := TX6) (Nf := 11) (v := .ref (tv_ad c 3)) C 2 (by decide) rfl rfl in_X6_init_X6 0 (by decide) lk_X6_init_11 rfl dX6_init_39 ?_
  refine tg_iload_n C dX6_init_42 rfl 0 rfl ?_
  refine tg_new (ci := 0) (fs := [.int 0, .int 0, .int 0, .int 0, .int 0]) (Cn := RX0) (T := TX0) (Nf := 5) C rfl in_X6_init_X0 tyX0 tyX0_ok wi_X6_init_cl9 wi_X6_init_insX0 wi_X6_init_iniX0 dfX0 rfl (Nat.le_of_ble_eq_true rfl) (Nat.le_of_ble_eq_true rfl) dX6_init_43 ?_
  show tg_V c X 23 142 26 (va_up (va_up (va_up (bE c) 0 x) 2 (.inr (6, [.ref (tv_ad c 3), .ref (tv_ad c 4), .ref (tv_ad c 5), .int 0, .int 0, .int 0, .int 0, .int 0, .int 0, .int 0, .int 0]))) 3 (.inl (tv_kk c 3, 24, .inr (.inr (.inr (.inr (fq c 6 19))))))) 46 [(1, .int 19), (0, .ref (tv_ad c 2))] [.ref (tv_ad c 25), .int 19, .ref (tv_ad c 3)]
  refine tg_dup C dX6_init_46 rfl ?_
  refine tg_callN (host := RX7) (As := []) (rest := [.ref (tv_ad c 25), .int 19, .ref (tv_ad c 3)]) C (kX0_init c (va_up (va_up (va_up (bE c) 0 x) 2 (.inr (6, [.ref (tv_ad c 3), .ref (tv_ad c 4), .ref (tv_ad c 5), .int 0, .int 0, .int 0, .int 0, .int 0, .int 0, .int 0, .int 0]))) 3 (.inl (tv_kk c 3, 24, .inr (.inr (.inr (.inr (fq c 6 19))))))) 26 25) ggX6_init_X0_init rfl wi_X6_init_ini_X0_init (fun q => q.2.1) wi_X6_init_im_X0_init rfl yi_X0_init ⟨rfl, rfl⟩ ⟨(Nat.le_of_ble_eq_true rfl), (Nat.le_of_ble_eq_true rfl)⟩ ⟨(Nat.le_of_ble_eq_true rfl), (Nat.le_of_ble_eq_true rfl)⟩ rfl rfl (Nat.le_of_ble_eq_true rfl) dX6_init_47 ?_
  show tg_V c X 23 142 26 (va_up (va_up (va_up (bE c) 0 x) 2 (.inr (6, [.ref (tv_ad c 3), .ref (tv_ad c 4), .ref (tv_ad c 5), .int 0, .int 0, .int 0, .int 0, .int 0, .int 0, .int 0, .int 0]))) 3 (.inl (tv_kk c 3, 24, .inr (.inr (.inr (.inr (fq c 6 19))))))) 50 [(1, .int 19), (0, .ref (tv_ad c 2))] [.ref (tv_ad c 25), .int 19, .ref (tv_ad c 3)]
  refine tg_aast (f := fq c 6 19) (r := (RX0, TX0, 5)) (vs := [.int 0, .int 0, .int 0, .int 0, .int 0]) (E' := (va_up (va_up (va_up (bE c) 0 x) 2 (.inr (6, [.ref (tv_ad c 3), .ref (tv_ad c 4), .ref (tv_ad c 5), .int 0, .int 0, .int 0, .int 0, .int 0, .int 0, .int 0, .int 0]))) 3 (.inl (tv_kk c 3, 24, .inr (.inr (.inr (.inr (fq c 6 20)))))))) C 3 (by decide) rfl 3 rfl (6 + 19) (by decide) rfl rfl 19 rfl (by decide) (by decide) (by rw [fq_s]; exact va_up_up) dX6_init_50 ?_
  refine tg_iinc (v := 20) (lv' := [(1, .int 20), (0, .ref (tv_ad c 2))]) C dX6_init_51 0 rfl (by decide) (by decide) rfl ?_
  refine tg_goto C 32 dX6_init_54 (by decide) ?_
  refine tg_iload_n C dX6_init_32 rfl 0 rfl ?_
  refine tg_bipush (v := 24) C dX6_init_33 (by decide) ?_
  refine tg_icmp_ge C 57 dX6_init_35 (by decide) (fun q => absurd q (by decide)) (fun _ => ?_)
  refine tg_aload_n C dX6_init_38 rfl 1 rfl ?_
  refine tg_get (ci := 6) (fs := [.ref (tv_ad c 3), .ref (tv_ad c 4), .ref (tv_ad c 5), .int 0, .int 0, .int 0, .int 0, .int 0, .int 0, .int 0, .int 0]) (Cn := RX6) (T := TX6) (Nf := 11) (v := .ref (tv_ad c 3)) C 2 (by decide) rfl rfl in_X6_init_X6 0 (by decide) lk_X6_init_11 rfl dX6_init_39 ?_
  refine tg_iload_n C dX6_init_42 rfl 0 rfl ?_
  refine tg_new (ci := 0) (fs := [.int 0, .int 0, .int 0, .int 0, .int 0]) (Cn := RX0) (T := TX0) (Nf := 5) C rfl in_X6_init_X0 tyX0 tyX0_ok wi_X6_init_cl9 wi_X6_init_insX0 wi_X6_init_iniX0 dfX0 rfl (Nat.le_of_ble_eq_true rfl) (Nat.le_of_ble_eq_true rfl) dX6_init_43 ?_
  show tg_V c X 24 147 27 (va_up (va_up (va_up (bE c) 0 x) 2 (.inr (6, [.ref (tv_ad c 3), .ref (tv_ad c 4), .ref (tv_ad c 5), .int 0, .int 0, .int 0, .int 0, .int 0, .int 0, .int 0, .int 0]))) 3 (.inl (tv_kk c 3, 24, .inr (.inr (.inr (.inr (fq c 6 20))))))) 46 [(1, .int 20), (0, .ref (tv_ad c 2))] [.ref (tv_ad c 26), .int 20, .ref (tv_ad c 3)]
  refine tg_dup C dX6_init_46 rfl ?_
  refine tg_callN (host := RX7) (As := []) (rest := [.ref (tv_ad c 26), .int 20, .ref (tv_ad c 3)]) C (kX0_init c (va_up (va_up (va_up (bE c) 0 x) 2 (.inr (6, [.ref (tv_ad c 3), .ref (tv_ad c 4), .ref (tv_ad c 5), .int 0, .int 0, .int 0, .int 0, .int 0, .int 0, .int 0, .int 0]))) 3 (.inl (tv_kk c 3, 24, .inr (.inr (.inr (.inr (fq c 6 20))))))) 27 26) ggX6_init_X0_init rfl wi_X6_init_ini_X0_init (fun q => q.2.1) wi_X6_init_im_X0_init rfl yi_X0_init ⟨rfl, rfl⟩ ⟨(Nat.le_of_ble_eq_true rfl), (Nat.le_of_ble_eq_true rfl)⟩ ⟨(Nat.le_of_ble_eq_true rfl), (Nat.le_of_ble_eq_true rfl)⟩ rfl rfl (Nat.le_of_ble_eq_true rfl) dX6_init_47 ?_
  show tg_V c X 24 147 27 (va_up (va_up (va_up (bE c) 0 x) 2 (.inr (6, [.ref (tv_ad c 3), .ref (tv_ad c 4), .ref (tv_ad c 5), .int 0, .int 0, .int 0, .int 0, .int 0, .int 0, .int 0, .int 0]))) 3 (.inl (tv_kk c 3, 24, .inr (.inr (.inr (.inr (fq c 6 20))))))) 50 [(1, .int 20), (0, .ref (tv_ad c 2))] [.ref (tv_ad c 26), .int 20, .ref (tv_ad c 3)]
  refine tg_aast (f := fq c 6 20) (r := (RX0, TX0, 5)) (vs := [.int 0, .int 0, .int 0, .int 0, .int 0]) (E' := (va_up (va_up (va_up (bE c) 0 x) 2 (.inr (6, [.ref (tv_ad c 3), .ref (tv_ad c 4), .ref (tv_ad c 5), .int 0, .int 0, .int 0, .int 0, .int 0, .int 0, .int 0, .int 0]))) 3 (.inl (tv_kk c 3, 24, .inr (.inr (.inr (.inr (fq c 6 21)))))))) C 3 (by decide) rfl 3 rfl (6 + 20) (by decide) rfl rfl 20 rfl (by decide) (by decide) (by rw [fq_s]; exact va_up_up) dX6_init_50 ?_
  refine tg_iinc (v := 21) (lv' := [(1, .int 21), (0, .ref (tv_ad c 2))]) C dX6_init_51 0 rfl (by decide) (by decide) rfl ?_
  refine tg_goto C 32 dX6_init_54 (by decide) ?_
  refine tg_iload_n C dX6_init_32 rfl 0 rfl ?_
  refine tg_bipush (v := 24) C dX6_init_33 (by decide) ?_
  refine tg_icmp_ge C 57 dX6_init_35 (by decide) (fun q => absurd q (by decide)) (fun _ => ?_)
  refine tg_aload_n C dX6_init_38 rfl 1 rfl ?_
  refine tg_get (ci := 6) (fs := [.ref (tv_ad c 3), .ref (tv_ad c 4), .ref (tv_ad c 5), .int 0, .int 0, .int 0, .int 0, .int 0, .int 0, .int 0, .int 0]) (Cn := RX6) (T := TX6) (Nf := 11) (v := .ref (tv_ad c 3)) C 2 (by decide) rfl rfl in_X6_init_X6 0 (by decide) lk_X6_init_11 rfl dX6_init_39 ?_
  refine tg_iload_n C dX6_init_42 rfl 0 rfl ?_
  refine tg_new (ci := 0) (fs := [.int 0, .int 0, .int 0, .int 0, .int 0]) (Cn := RX0) (T := TX0) (Nf := 5) C rfl in_X6_init_X0 tyX0 tyX0_ok wi_X6_init_cl9 wi_X6_init_insX0 wi_X6_init_iniX0 dfX0 rfl (Nat.le_of_ble_eq_true rfl) (Nat.le_of_ble_eq_true rfl) dX6_init_43 ?_
  show tg_V c X 25 152 28 (va_up (va_up (va_up (bE c) 0 x) 2 (.inr (6, [.ref (tv_ad c 3), .ref (tv_ad c 4), .ref (tv_ad c 5), .int 0, .int 0, .int 0, .int 0, .int 0, .int 0, .int 0, .int 0]))) 3 (.inl (tv_kk c 3, 24, .inr (.inr (.inr (.inr (fq c 6 21))))))) 46 [(1, .int 21), (0, .ref (tv_ad c 2))] [.ref (tv_ad c 27), .int 21, .ref (tv_ad c 3)]
  refine tg_dup C dX6_init_46 rfl ?_
  refine tg_callN (host := RX7) (As := []) (rest := [.ref (tv_ad c 27), .int 21, .ref (tv_ad c 3)]) C (kX0_init c (va_up (va_up (va_up (bE c) 0 x) 2 (.inr (6, [.ref (tv_ad c 3), .ref (tv_ad c 4), .ref (tv_ad c 5), .int 0, .int 0, .int 0, .int 0, .int 0, .int 0, .int 0, .int 0]))) 3 (.inl (tv_kk c 3, 24, .inr (.inr (.inr (.inr (fq c 6 21))))))) 28 27) ggX6_init_X0_init rfl wi_X6_init_ini_X0_init (fun q => q.2.1) wi_X6_init_im_X0_init rfl yi_X0_init ⟨rfl, rfl⟩ ⟨(Nat.le_of_ble_eq_true rfl), (Nat.le_of_ble_eq_true rfl)⟩ ⟨(Nat.le_of_ble_eq_true rfl), (Nat.le_of_ble_eq_true rfl)⟩ rfl rfl (Nat.le_of_ble_eq_true rfl) dX6_init_47 ?_
  show tg_V c X 25 152 28 (va_up (va_up (va_up (bE c) 0 x) 2 (.inr (6, [.ref (tv_ad c 3), .ref (tv_ad c 4), .ref (tv_ad c 5), .int 0, .int 0, .int 0, .int 0, .int 0, .int 0, .int 0, .int 0]))) 3 (.inl (tv_kk c 3, 24, .inr (.inr (.inr (.inr (fq c 6 21))))))) 50 [(1, .int 21), (0, .ref (tv_ad c 2))] [.ref (tv_ad c 27), .int 21, .ref (tv_ad c 3)]
  refine tg_aast (f := fq c 6 21) (r := (RX0, TX0, 5)) (vs := [.int 0, .int 0, .int 0, .int 0, .int 0]) (E' := (va_up (va_up (va_up (bE c) 0 x) 2 (.inr (6, [.ref (tv_ad c 3), .ref (tv_ad c 4), .ref (tv_ad c 5), .int 0, .int 0, .int 0, .int 0, .int 0, .int 0, .int 0, .int 0]))) 3 (.inl (tv_kk c 3, 24, .inr (.inr (.inr (.inr (fq c 6 22)))))))) C 3 (by decide) rfl 3 rfl (6 + 21) (by decide) rfl rfl 21 rfl (by decide) (by decide) (by rw [fq_s]; exact va_up_up) dX6_init_50 ?_
  refine tg_iinc (v := 22) (lv' := [(1, .int 22), (0, .ref (tv_ad c 2))]) C dX6_init_51 0 rfl (by decide) (by decide) rfl ?_
  refine tg_goto C 32 dX6_init_54 (by decide) ?_
  refine tg_iload_n C dX6_init_32 rfl 0 rfl ?_
  refine tg_bipush (v := 24) C dX6_init_33 (by decide) ?_
  refine tg_icmp_ge C 57 dX6_init_35 (by decide) (fun q => absurd q (by decide)) (fun _ => ?_)
  refine tg_aload_n C dX6_init_38 rfl 1 rfl ?_
  refine tg_get (ci := 6) (fs := [.ref (tv_ad c 3), .ref (tv_ad c 4), .ref (tv_ad c 5), .int 0, .int 0, .int 0, .int 0, .int 0, .int 0, .int 0, .int 0]) (Cn := RX6) (T := TX6) (Nf := 11) (v := .ref (tv_ad c 3)) C 2 (by decide) rfl rfl in_X6_init_X6 0 (by decide) lk_X6_init_11 rfl dX6_init_39 ?_
  refine tg_iload_n C dX6_init_42 rfl 0 rfl ?_
  refine tg_new (ci := 0) (fs := [.int 0, .int 0, .int 0, .int 0, .int 0]) (Cn := RX0) (T := TX0) (Nf := 5) C rfl in_X6_init_X0 tyX0 tyX0_ok wi_X6_init_cl9 wi_X6_init_insX0 wi_X6_init_iniX0 dfX0 rfl (Nat.le_of_ble_eq_true rfl) (Nat.le_of_ble_eq_true rfl) dX6_init_43 ?_
  show tg_V c X 26 157 29 (va_up (va_up (va_up (bE c) 0 x) 2 (.inr (6, [.ref (tv_ad c 3), .ref (tv_ad c 4), .ref (tv_ad c 5), .int 0, .int 0, .int 0, .int 0, .int 0, .int 0, .int 0, .int 0]))) 3 (.inl (tv_kk c 3, 24, .inr (.inr (.inr (.inr (fq c 6 22))))))) 46 [(1, .int 22), (0, .ref (tv_ad c 2))] [.ref (tv_ad c 28), .int 22, .ref (tv_ad c 3)]
  refine tg_dup C dX6_init_46 rfl ?_
  refine tg_callN (host := RX7) (As := []) (rest := [.ref (tv_ad c 28), .int 22, .ref (tv_ad c 3)]) C (kX0_init c (va_up (va_up (va_up (bE c) 0 x) 2 (.inr (6, [.ref (tv_ad c 3), .ref (tv_ad c 4), .ref (tv_ad c 5), .int 0, .int 0, .int 0, .int 0, .int 0, .int 0, .int 0, .int 0]))) 3 (.inl (tv_kk c 3, 24, .inr (.inr (.inr (.inr (fq c 6 22))))))) 29 28) ggX6_init_X0_init rfl wi_X6_init_ini_X0_init (fun q => q.2.1) wi_X6_init_im_X0_init rfl yi_X0_init ⟨rfl, rfl⟩ ⟨(Nat.le_of_ble_eq_true rfl), (Nat.le_of_ble_eq_true rfl)⟩ ⟨(Nat.le_of_ble_eq_true rfl), (Nat.le_of_ble_eq_true rfl)⟩ rfl rfl (Nat.le_of_ble_eq_true rfl) dX6_init_47 ?_
  show tg_V c X 26 157 29 (va_up (va_up (va_up (bE c) 0 x) 2 (.inr (6, [.ref (tv_ad c 3), .ref (tv_ad c 4), .ref (tv_ad c 5), .int 0, .int 0, .int 0, .int 0, .int 0, .int 0, .int 0, .int 0]))) 3 (.inl (tv_kk c 3, 24, .inr (.inr (.inr (.inr (fq c 6 22))))))) 50 [(1, .int 22), (0, .ref (tv_ad c 2))] [.ref (tv_ad c 28), .int 22, .ref (tv_ad c 3)]
  refine tg_aast (f := fq c 6 22) (r := (RX0, TX0, 5)) (vs := [.int 0, .int 0, .int 0, .int 0, .int 0]) (E' := (va_up (va_up (va_up (bE c) 0 x) 2 (.inr (6, [.ref (tv_ad c 3), .ref (tv_ad c 4), .ref (tv_ad c 5), .int 0, .int 0, .int 0, .int 0, .int 0, .int 0, .int 0, .int 0]))) 3 (.inl (tv_kk c 3, 24, .inr (.inr (.inr (.inr (fq c 6 23)))))))) C 3 (by decide) rfl 3 rfl (6 + 22) (by decide) rfl rfl 22 rfl (by decide) (by decide) (by rw [fq_s]; exact va_up_up) dX6_init_50 ?_
  refine tg_iinc (v := 23) (lv' := [(1, .int 23), (0, .ref (tv_ad c 2))]) C dX6_init_51 0 rfl (by decide) (by decide) rfl ?_
  refine tg_goto C 32 dX6_init_54 (by decide) ?_
  refine tg_iload_n C dX6_init_32 rfl 0 rfl ?_
  refine tg_bipush (v := 24) C dX6_init_33 (by decide) ?_
  refine tg_icmp_ge C 57 dX6_init_35 (by decide) (fun q => absurd q (by decide)) (fun _ => ?_)
  refine tg_aload_n C dX6_init_38 rfl 1 rfl ?_
  refine tg_get (ci := 6) (fs := [.ref (tv_ad c 3), .ref (tv_ad c 4), .ref (tv_ad c 5), .int 0, .int 0, .int 0, .int 0, .int 0, .int 0, .int 0, .int 0]) (Cn := RX6) (T := TX6) (Nf := 11) (v := .ref (tv_ad c 3)) C 2 (by decide) rfl rfl in_X6_init_X6 0 (by decide) lk_X6_init_11 rfl dX6_init_39 ?_
  refine tg_iload_n C dX6_init_42 rfl 0 rfl ?_
  refine tg_new (ci := 0) (fs := [.int 0, .int 0, .int 0, .int 0, .int 0]) (Cn := RX0) (T := TX0) (Nf := 5) C rfl in_X6_init_X0 tyX0 tyX0_ok wi_X6_init_cl9 wi_X6_init_insX0 wi_X6_init_iniX0 dfX0 rfl (Nat.le_of_ble_eq_true rfl) (Nat.le_of_ble_eq_true rfl) dX6_init_43 ?_
  show tg_V c X 27 162 30 (va_up (va_up (va_up (bE c) 0 x) 2 (.inr (6, [.ref (tv_ad c 3), .ref (tv_ad c 4), .ref (tv_ad c 5), .int 0, .int 0, .int 0, .int 0, .int 0, .int 0, .int 0, .int 0]))) 3 (.inl (tv_kk c 3, 24, .inr (.inr (.inr (.inr (fq c 6 23))))))) 46 [(1, .int 23), (0, .ref (tv_ad c 2))] [.ref (tv_ad c 29), .int 23, .ref (tv_ad c 3)]
  refine tg_dup C dX6_init_46 rfl ?_
  refine tg_callN (host := RX7) (As := []) (rest := [.ref (tv_ad c 29), .int 23, .ref (tv_ad c 3)]) C (kX0_init c (va_up (va_up (va_up (bE c) 0 x) 2 (.inr (6, [.ref (tv_ad c 3), .ref (tv_ad c 4), .ref (tv_ad c 5), .int 0, .int 0, .int 0, .int 0, .int 0, .int 0, .int 0, .int 0]))) 3 (.inl (tv_kk c 3, 24, .inr (.inr (.inr (.inr (fq c 6 23))))))) 30 29) ggX6_init_X0_init rfl wi_X6_init_ini_X0_init (fun q => q.2.1) wi_X6_init_im_X0_init rfl yi_X0_init ⟨rfl, rfl⟩ ⟨(Nat.le_of_ble_eq_true rfl), (Nat.le_of_ble_eq_true rfl)⟩ ⟨(Nat.le_of_ble_eq_true rfl), (Nat.le_of_ble_eq_true rfl)⟩ rfl rfl (Nat.le_of_ble_eq_true rfl) dX6_init_47 ?_
  show tg_V c X 27 162 30 (va_up (va_up (va_up (bE c) 0 x) 2 (.inr (6, [.ref (tv_ad c 3), .ref (tv_ad c 4), .ref (tv_ad c 5), .int 0, .int 0, .int 0, .int 0, .int 0, .int 0, .int 0, .int 0]))) 3 (.inl (tv_kk c 3, 24, .inr (.inr (.inr (.inr (fq c 6 23))))))) 50 [(1, .int 23), (0, .ref (tv_ad c 2))] [.ref (tv_ad c 29), .int 23, .ref (tv_ad c 3)]
  refine tg_aast (f := fq c 6 23) (r := (RX0, TX0, 5)) (vs := [.int 0, .int 0, .int 0, .int 0, .int 0]) (E' := (va_up (va_up (va_up (bE c) 0 x) 2 (.inr (6, [.ref (tv_ad c 3), .ref (tv_ad c 4), .ref (tv_ad c 5), .int 0, .int 0, .int 0, .int 0, .int 0, .int 0, .int 0, .int 0]))) 3 (.inl (tv_kk c 3, 24, .inr (.inr (.inr (.inr (fq c 6 24)))))))) C 3 (by decide) rfl 3 rfl (6 + 23) (by decide) rfl rfl 23 rfl (by decide) (by decide) (by rw [fq_s]; exact va_up_up) dX6_init_50 ?_
  refine tg_iinc (v := 24) (lv' := [(1, .int 24), (0, .ref (tv_ad c 2))]) C dX6_init_51 0 rfl (by decide) (by decide) rfl ?_
  refine tg_goto C 32 dX6_init_54 (by decide) ?_
  refine tg_iload_n C dX6_init_32 rfl 0 rfl ?_
  refine tg_bipush (v := 24) C dX6_init_33 (by decide) ?_
  refine tg_icmp_ge C 57 dX6_init_35 (by decide) (fun _ => ?_) (fun q => absurd (by decide) q)
  refine tg_iconst (v := 0) C dX6_init_57 (by decide) ?_
  refine tg_istore_n (lv' := [(1, .int 0), (0, .ref (tv_ad c 2))]) C dX6_init_58 rfl (by decide) rfl ?_
  refine tg_iload_n C dX6_init_59 rfl 0 rfl ?_
  refine tg_bipush (v := 6) C dX6_init_60 (by decide) ?_
  refine tg_icmp_ge C 84 dX6_init_62 (by decide) (fun q => absurd q (by decide)) (fun _ => ?_)
  refine tg_aload_n C dX6_init_65 rfl 1 rfl ?_
  refine tg_get (ci := 6) (fs := [.ref (tv_ad c 3), .ref (tv_ad c 4), .ref (tv_ad c 5), .int 0, .int 0, .int 0, .int 0, .int 0, .int 0, .int 0, .int 0]) (Cn := RX6) (T := TX6) (Nf := 11) (v := .ref (tv_ad c 4)) C 2 (by decide) rfl rfl in_X6_init_X6 1 (by decide) lk_X6_init_19 rfl dX6_init_66 ?_
  refine tg_iload_n C dX6_init_69 rfl 0 rfl ?_
  refine tg_new (ci := 1) (fs := [.null, .int 0]) (Cn := RX1) (T := TX1) (Nf := 2) C rfl in_X6_init_X1 tyX1 tyX1_ok wi_X6_init_cl17 wi_X6_init_insX1 wi_X6_init_iniX1 dfX1 rfl (Nat.le_of_ble_eq_true rfl) (Nat.le_of_ble_eq_true rfl) dX6_init_70 ?_
  show tg_V c X 28 164 31 (va_up (va_up (va_up (bE c) 0 x) 2 (.inr (6, [.ref (tv_ad c 3), .ref (tv_ad c 4), .ref (tv_ad c 5), .int 0, .int 0, .int 0, .int 0, .int 0, .int 0, .int 0, .int 0]))) 3 (.inl (tv_kk c 3, 24, .inr (.inr (.inr (.inr (fq c 6 24))))))) 73 [(1, .int 0), (0, .ref (tv_ad c 2))] [.ref (tv_ad c 30), .int 0, .ref (tv_ad c 4)]
  refine tg_dup C dX6_init_73 rfl ?_
  refine tg_callN (host := RX7) (As := []) (rest := [.ref (tv_ad c 30), .int 0, .ref (tv_ad c 4)]) C (kX1_init c (va_up (va_up (va_up (bE c) 0 x) 2 (.inr (6, [.ref (tv_ad c 3), .ref (tv_ad c 4), .ref (tv_ad c 5), .int 0, .int 0, .int 0, .int 0, .int 0, .int 0, .int 0, .int 0]))) 3 (.inl (tv_kk c 3, 24, .inr (.inr (.inr (.inr (fq c 6 24))))))) 31 30  (by decide) rfl rfl) ggX6_init_X1_init rfl wi_X6_init_ini_X1_init (fun q => q.2.2.1) wi_X6_init_im_X1_init rfl yi_X1_init ⟨rfl, rfl⟩ ⟨(Nat.le_of_ble_eq_true rfl), (Nat.le_of_ble_eq_true rfl)⟩ ⟨(Nat.le_of_ble_eq_true rfl), (Nat.le_of_ble_eq_true rfl)⟩ rfl rfl (Nat.le_of_ble_eq_true rfl) dX6_init_74 ?_
  show tg_V c X 29 167 32 (va_up (va_up (va_up (va_up (bE c) 0 x) 2 (.inr (6, [.ref (tv_ad c 3), .ref (tv_ad c 4), .ref (tv_ad c 5), .int 0, .int 0, .int 0, .int 0, .int 0, .int 0, .int 0, .int 0]))) 3 (.inl (tv_kk c 3, 24, .inr (.inr (.inr (.inr (fq c 6 24))))))) 30 (.inr (1, [.ref (tv_ad c 31), .int 0]))) 77 [(1, .int 0), (0, .ref (tv_ad c 2))] [.ref (tv_ad c 30), .int 0, .ref (tv_ad c 4)]
  refine tg_aast (f := fr c 30 0) (r := (RX1, TX1, 2)) (vs := [.ref (tv_ad c 31), .int 0]) (E' := (va_up (va_up (va_up (va_up (va_up (bE c) 0 x) 2 (.inr (6, [.ref (tv_ad c 3), .ref (tv_ad c 4), .ref (tv_ad c 5), .int 0, .int 0, .int 0, .int 0, .int 0, .int 0, .int 0, .int 0]))) 3 (.inl (tv_kk c 3, 24, .inr (.inr (.inr (.inr (fq c 6 24))))))) 30 (.inr (1, [.ref (tv_ad c 31), .int 0]))) 4 (.inl (tv_kk c 4, 6, .inr (.inr (.inr (.inr (fr c 30 1)))))))) C 4 (by decide) rfl 4 rfl (30 + 2 * 0) (by decide) rfl rfl 0 rfl (by decide) (by decide) (by rw [fr_s]) dX6_init_77 ?_
  refine tg_iinc (v := 1) (lv' := [(1, .int 1), (0, .ref (tv_ad c 2))]) C dX6_init_78 0 rfl (by decide) (by decide) rfl ?_
  refine tg_goto C 59 dX6_init_81 (by decide) ?_
  refine tg_iload_n C dX6_init_59 rfl 0 rfl ?_
  refine tg_bipush (v := 6) C dX6_init_60 (by decide) ?_
  refine tg_icmp_ge C 84 dX6_init_62 (by decide) (fun q => absurd q (by decide)) (fun _ => ?_)
  refine tg_aload_n C dX6_init_65 rfl 1 rfl ?_
  refine tg_get (ci := 6) (fs := [.ref (tv_ad c 3), .ref (tv_ad c 4), .ref (tv_ad c 5), .int 0, .int 0, .int 0, .int 0, .int 0, .int 0, .int 0, .int 0]) (Cn := RX6) (T := TX6) (Nf := 11) (v := .ref (tv_ad c 4)) C 2 (by decide) rfl rfl in_X6_init_X6 1 (by decide) lk_X6_init_19 rfl dX6_init_66 ?_
  refine tg_iload_n C dX6_init_69 rfl 0 rfl ?_
  refine tg_new (ci := 1) (fs := [.null, .int 0]) (Cn := RX1) (T := TX1) (Nf := 2) C rfl in_X6_init_X1 tyX1 tyX1_ok wi_X6_init_cl17 wi_X6_init_insX1 wi_X6_init_iniX1 dfX1 rfl (Nat.le_of_ble_eq_true rfl) (Nat.le_of_ble_eq_true rfl) dX6_init_70 ?_
  show tg_V c X 30 169 33 (va_up (va_up (va_up (va_up (va_up (bE c) 0 x) 2 (.inr (6, [.ref (tv_ad c 3), .ref (tv_ad c 4), .ref (tv_ad c 5), .int 0, .int 0, .int 0, .int 0, .int 0, .int 0, .int 0, .int 0]))) 3 (.inl (tv_kk c 3, 24, .inr (.inr (.inr (.inr (fq c 6 24))))))) 30 (.inr (1, [.ref (tv_ad c 31), .int 0]))) 4 (.inl (tv_kk c 4, 6, .inr (.inr (.inr (.inr (fr c 30 1))))))) 73 [(1, .int 1), (0, .ref (tv_ad c 2))] [.ref (tv_ad c 32), .int 1, .ref (tv_ad c 4)]
  refine tg_dup C dX6_init_73 rfl ?_
  refine tg_callN (host := RX7) (As := []) (rest := [.ref (tv_ad c 32), .int 1, .ref (tv_ad c 4)]) C (kX1_init c (va_up (va_up (va_up (va_up (va_up (bE c) 0 x) 2 (.inr (6, [.ref (tv_ad c 3), .ref (tv_ad c 4), .ref (tv_ad c 5), .int 0, .int 0, .int 0, .int 0, .int 0, .int 0, .int 0, .int 0]))) 3 (.inl (tv_kk c 3, 24, .inr (.inr (.inr (.inr (fq c 6 24))))))) 30 (.inr (1, [.ref (tv_ad c 31), .int 0]))) 4 (.inl (tv_kk c 4, 6, .inr (.inr (.inr (.inr (fr c 30 1))))))) 33 32  (by decide) rfl rfl) ggX6_init_X1_init rfl wi_X6_init_ini_X1_init (fun q => q.2.2.1) wi_X6_init_im_X1_init rfl yi_X1_init ⟨rfl, rfl⟩ ⟨(Nat.le_of_ble_eq_true rfl), (Nat.le_of_ble_eq_true rfl)⟩ ⟨(Nat.le_of_ble_eq_true rfl), (Nat.le_of_ble_eq_true rfl)⟩ rfl rfl (Nat.le_of_ble_eq_true rfl) dX6_init_74 ?_
  show tg_V c X 31 172 34 (va_up (va_up (va_up (va_up (va_up (va_up (bE c) 0 x) 2 (.inr (6, [.ref (tv_ad c 3), .ref (tv_ad c 4), .ref (tv_ad c 5), .int 0, .int 0, .int 0, .int 0, .int 0, .int 0, .int 0, .int 0]))) 3 (.inl (tv_kk c 3, 24, .inr (.inr (.inr (.inr (fq c 6 24))))))) 30 (.inr (1, [.ref (tv_ad c 31), .int 0]))) 4 (.inl (tv_kk c 4, 6, .inr (.inr (.inr (.inr (fr c 30 1))))))) 32 (.inr (1, [.ref (tv_ad c 33), .int 0]))) 77 [(1, .int 1), (0, .ref (tv_ad c 2))] [.ref (tv_ad c 32), .int 1, .ref (tv_ad c 4)]
  refine tg_aast (f := fr c 30 1) (r := (RX1, TX1, 2)) (vs := [.ref (tv_ad c 33), .int 0]) (E' := (va_up (va_up (va_up (va_up (va_up (va_up (bE c) 0 x) 2 (.inr (6, [.ref (tv_ad c 3), .ref (tv_ad c 4), .ref (tv_ad c 5), .int 0, .int 0, .int 0, .int 0, .int 0, .int 0, .int 0, .int 0]))) 3 (.inl (tv_kk c 3, 24, .inr (.inr (.inr (.inr (fq c 6 24))))))) 30 (.inr (1, [.ref (tv_ad c 31), .int 0]))) 32 (.inr (1, [.ref (tv_ad c 33), .int 0]))) 4 (.inl (tv_kk c 4, 6, .inr (.inr (.inr (.inr (fr c 30 2)))))))) C 4 (by decide) rfl 4 rfl (30 + 2 * 1) (by decide) rfl rfl 1 rfl (by decide) (by decide) (by rw [fr_s]; exact va_up_ov) dX6_init_77 ?_
  refine tg_iinc (v := 2) (lv' := [(1, .int 2), (0, .ref (tv_ad c 2))]) C dX6_init_78 0 rfl (by decide) (by decide) rfl ?_
  refine tg_goto C 59 dX6_init_81 (by decide) ?_
  refine tg_iload_n C dX6_init_59 rfl 0 rfl ?_
  refine tg_bipush (v := 6) C dX6_init_60 (by decide) ?_
  refine tg_icmp_ge C 84 dX6_init_62 (by decide) (fun q => absurd q (by decide)) (fun _ => ?_)
  refine tg_aload_n C dX6_init_65 rfl 1 rfl ?_
  refine tg_get (ci := 6) (fs := [.ref (tv_ad c 3), .ref (tv_ad c 4), .ref (tv_ad c 5), .int 0, .int 0, .int 0, .int 0, .int 0, .int 0, .int 0, .int 0]) (Cn := RX6) (T := TX6) (Nf := 11) (v := .ref (tv_ad c 4)) C 2 (by decide) rfl rfl in_X6_init_X6 1 (by decide) lk_X6_init_19 rfl dX6_init_66 ?_
  refine tg_iload_n C dX6_init_69 rfl 0 rfl ?_
  refine tg_new (ci := 1) (fs := [.null, .int 0]) (Cn := RX1) (T := TX1) (Nf := 2) C rfl in_X6_init_X1 tyX1 tyX1_ok wi_X6_init_cl17 wi_X6_init_insX1 wi_X6_init_iniX1 dfX1 rfl (Nat.le_of_ble_eq_true rfl) (Nat.le_of_ble_eq_true rfl) dX6_init_70 ?_
  show tg_V c X 32 174 35 (va_up (va_up (va_up (va_up (va_up (va_up (bE c) 0 x) 2 (.inr (6, [.ref (tv_ad c 3), .ref (tv_ad c 4), .ref (tv_ad c 5), .int 0, .int 0, .int 0, .int 0, .int 0, .int 0, .int 0, .int 0]))) 3 (.inl (tv_kk c 3, 24, .inr (.inr (.inr (.inr (fq c 6 24))))))) 30 (.inr (1, [.ref (tv_ad c 31), .int 0]))) 32 (.inr (1, [.ref (tv_ad c 33), .int 0]))) 4 (.inl (tv_kk c 4, 6, .inr (.inr (.inr (.inr (fr c 30 2))))))) 73 [(1, .int 2), (0, .ref (tv_ad c 2))] [.ref (tv_ad c 34), .int 2, .ref (tv_ad c 4)]
  refine tg_dup C dX6_init_73 rfl ?_
  refine tg_callN (host := RX7) (As := []) (rest := [.ref (tv_ad c 34), .int 2, .ref (tv_ad c 4)]) C (kX1_init c (va_up (va_up (va_up (va_up (va_up (va_up (bE c) 0 x) 2 (.inr (6, [.ref (tv_ad c 3), .ref (tv_ad c 4), .ref (tv_ad c 5), .int 0, .int 0, .int 0, .int 0, .int 0, .int 0, .int 0, .int 0]))) 3 (.inl (tv_kk c 3, 24, .inr (.inr (.inr (.inr (fq c 6 24))))))) 30 (.inr (1, [.ref (tv_ad c 31), .int 0]))) 32 (.inr (1, [.ref (tv_ad c 33), .int 0]))) 4 (.inl (tv_kk c 4, 6, .inr (.inr (.inr (.inr (fr c 30 2))))))) 35 34  (by decide) rfl rfl) ggX6_init_X1_init rfl wi_X6_init_ini_X1_init (fun q => q.2.2.1) wi_X6_init_im_X1_init rfl yi_X1_init ⟨rfl, rfl⟩ ⟨(Nat.le_of_ble_eq_true rfl), (Nat.le_of_ble_eq_true rfl)⟩ ⟨(Nat.le_of_ble_eq_true rfl), (Nat.le_of_ble_eq_true rfl)⟩ rfl rfl (Nat.le_of_ble_eq_true rfl) dX6_init_74 ?_
  show tg_V c X 33 177 36 (va_up (va_up (va_up (va_up (va_up (va_up (va_up (bE c) 0 x) 2 (.inr (6, [.ref (tv_ad c 3), .ref (tv_ad c 4), .ref (tv_ad c 5), .int 0, .int 0, .int 0, .int 0, .int 0, .int 0, .int 0, .int 0]))) 3 (.inl (tv_kk c 3, 24, .inr (.inr (.inr (.inr (fq c 6 24))))))) 30 (.inr (1, [.ref (tv_ad c 31), .int 0]))) 32 (.inr (1, [.ref (tv_ad c 33), .int 0]))) 4 (.inl (tv_kk c 4, 6, .inr (.inr (.inr (.inr (fr c 30 2))))))) 34 (.inr (1, [.ref (tv_ad c 35), .int 0]))) 77 [(1, .int 2), (0, .ref (tv_ad c 2))] [.ref (tv_ad c 34), .int 2, .ref (tv_ad c 4)]
  refine tg_aast (f := fr c 30 2) (r := (RX1, TX1, 2)) (vs := [.ref (tv_ad c 35), .int 0]) (E' := (va_up (va_up (va_up (va_up (va_up (va_up (va_up (bE c) 0 x) 2 (.inr (6, [.ref (tv_ad c 3), .ref (tv_ad c 4), .ref (tv_ad c 5), .int 0, .int 0, .int 0, .int 0, .int 0, .int 0, .int 0, .int 0]))) 3 (.inl (tv_kk c 3, 24, .inr (.inr (.inr (.inr (fq c 6 24))))))) 30 (.inr (1, [.ref (tv_ad c 31), .int 0]))) 32 (.inr (1, [.ref (tv_ad c 33), .int 0]))) 34 (.inr (1, [.ref (tv_ad c 35), .int 0]))) 4 (.inl (tv_kk c 4, 6, .inr (.inr (.inr (.inr (fr c 30 3)))))))) C 4 (by decide) rfl 4 rfl (30 + 2 * 2) (by decide) rfl rfl 2 rfl (by decide) (by decide) (by rw [fr_s]; exact va_up_ov) dX6_init_77 ?_
  refine tg_iinc (v := 3) (lv' := [(1, .int 3), (0, .ref (tv_ad c 2))]) C dX6_init_78 0 rfl (by decide) (by decide) rfl ?_
  refine tg_goto C 59 dX6_init_81 (by decide) ?_
  refine tg_iload_n C dX6_init_59 rfl 0 rfl ?_
  refine tg_bipush (v := 6) C dX6_init_60 (by decide) ?_
  refine tg_icmp_ge C 84 dX6_init_62 (by decide) (fun q => absurd q (by decide)) (fun _ => ?_)
  refine tg_aload_n C dX6_init_65 rfl 1 rfl ?_
  refine tg_get (ci := 6) (fs := [.ref (tv_ad c 3), .ref (tv_ad c 4), .ref (tv_ad c 5), .int 0, .int 0, .int 0, .int 0, .int 0, .int 0, .int 0, .int 0]) (Cn := RX6) (T := TX6) (Nf := 11) (v := .ref (tv_ad c 4)) C 2 (by decide) rfl rfl in_X6_init_X6 1 (by decide) lk_X6_init_19 rfl dX6_init_66 ?_
  refine tg_iload_n C dX6_init_69 rfl 0 rfl ?_
  refine tg_new (ci := 1) (fs := [.null, .int 0]) (Cn := RX1) (T := TX1) (Nf := 2) C rfl in_X6_init_X1 tyX1 tyX1_ok wi_X6_init_cl17 wi_X6_init_insX1 wi_X6_init_iniX1 dfX1 rfl (Nat.le_of_ble_eq_true rfl) (Nat.le_of_ble_eq_true rfl) dX6_init_70 ?_
  show tg_V c X 34 179 37 (va_up (va_up (va_up (va_up (va_up (va_up (va_up (bE c) 0 x) 2 (.inr (6, [.ref (tv_ad c 3), .ref (tv_ad c 4), .ref (tv_ad c 5), .int 0, .int 0, .int 0, .int 0, .int 0, .int 0, .int 0, .int 0]))) 3 (.inl (tv_kk c 3, 24, .inr (.inr (.inr (.inr (fq c 6 24))))))) 30 (.inr (1, [.ref (tv_ad c 31), .int 0]))) 32 (.inr (1, [.ref (tv_ad c 33), .int 0]))) 34 (.inr (1, [.ref (tv_ad c 35), .int 0]))) 4 (.inl (tv_kk c 4, 6, .inr (.inr (.inr (.inr (fr c 30 3))))))) 73 [(1, .int 3), (0, .ref (tv_ad c 2))] [.ref (tv_ad c 36), .int 3, .ref (tv_ad c 4)]
  refine tg_dup C dX6_init_73 rfl ?_
  refine tg_callN (host := RX7) (As := []) (rest := [.ref (tv_ad c 36), .int 3, .ref (tv_ad c 4)]) C (kX1_init c (va_up (va_up (va_up (va_up (va_up (va_up (va_up (bE c) 0 x) 2 (.inr (6, [.ref (tv_ad c 3), .ref (tv_ad c 4), .ref (tv_ad c 5), .int 0, .int 0, .int 0, .int 0, .int 0, .int 0, .int 0, .int 0]))) 3 (.inl (tv_kk c 3, 24, .inr (.inr (.inr (.inr (fq c 6 24))))))) 30 (.inr (1, [.ref (tv_ad c 31), .int 0]))) 32 (.inr (1, [.ref (tv_ad c 33), .int 0]))) 34 (.inr (1, [.ref (tv_ad c 35), .int 0]))) 4 (.inl (tv_kk c 4, 6, .inr (.inr (.inr (.inr (fr c 30 3))))))) 37 36  (by decide) rfl rfl) ggX6_init_X1_init rfl wi_X6_init_ini_X1_init (fun q => q.2.2.1) wi_X6_init_im_X1_init rfl yi_X1_init ⟨rfl, rfl⟩ ⟨(Nat.le_of_ble_eq_true rfl), (Nat.le_of_ble_eq_true rfl)⟩ ⟨(Nat.le_of_ble_eq_true rfl), (Nat.le_of_ble_eq_true rfl)⟩ rfl rfl (Nat.le_of_ble_eq_true rfl) dX6_init_74 ?_
  show tg_V c X 35 182 38 (va_up (va_up (va_up (va_up (va_up (va_up (va_up (va_up (bE c) 0 x) 2 (.inr (6, [.ref (tv_ad c 3), .ref (tv_ad c 4), .ref (tv_ad c 5), .int 0, .int 0, .int 0, .int 0, .int 0, .int 0, .int 0, .int 0]))) 3 (.inl (tv_kk c 3, 24, .inr (.inr (.inr (.inr (fq c 6 24))))))) 30 (.inr (1, [.ref (tv_ad c 31), .int 0]))) 32 (.inr (1, [.ref (tv_ad c 33), .int 0]))) 34 (.inr (1, [.ref (tv_ad c 35), .int 0]))) 4 (.inl (tv_kk c 4, 6, .inr (.inr (.inr (.inr (fr c 30 3))))))) 36 (.inr (1, [.ref (tv_ad c 37), .int 0]))) 77 [(1, .int 3), (0, .ref (tv_ad c 2))] [.ref (tv_ad c 36), .int 3, .ref (tv_ad c 4)]
  refine tg_aast (f := fr c 30 3) (r := (RX1, TX1, 2)) (vs := [.ref (tv_ad c 37), .int 0]) (E' := (va_up (va_up (va_up (va_up (va_up (va_up (va_up (va_up (bE c) 0 x) 2 (.inr (6, [.ref (tv_ad c 3), .ref (tv_ad c 4), .ref (tv_ad c 5), .int 0, .int 0, .int 0, .int 0, .int 0, .int 0, .int 0, .int 0]))) 3 (.inl (tv_kk c 3, 24, .inr (.inr (.inr (.inr (fq c 6 24))))))) 30 (.inr (1, [.ref (tv_ad c 31), .int 0]))) 32 (.inr (1, [.ref (tv_ad c 33), .int 0]))) 34 (.inr (1, [.ref (tv_ad c 35), .int 0]))) 36 (.inr (1, [.ref (tv_ad c 37), .int 0]))) 4 (.inl (tv_kk c 4, 6, .inr (.inr (.inr (.inr (fr c 30 4)))))))) C 4 (by decide) rfl 4 rfl (30 + 2 * 3) (by decide) rfl rfl 3 rfl (by decide) (by decide) (by rw [fr_s]; exact va_up_ov) dX6_init_77 ?_
  refine tg_iinc (v := 4) (lv' := [(1, .int 4), (0, .ref (tv_ad c 2))]) C dX6_init_78 0 rfl (by decide) (by decide) rfl ?_
  refine tg_goto C 59 dX6_init_81 (by decide) ?_
  refine tg_iload_n C dX6_init_59 rfl 0 rfl ?_
  refine tg_bipush (v := 6) C dX6_init_60 (by decide) ?_
  refine tg_icmp_ge C 84 dX6_init_62 (by decide) (fun q => absurd q (by decide)) (fun _ => ?_)
  refine tg_aload_n C dX6_init_65 rfl 1 rfl ?_
  refine tg_get (ci := 6) (fs := [.ref (tv_ad c 3), .ref (tv_ad c 4), .ref (tv_ad c 5), .int 0, .int 0, .int 0, .int 0, .int 0, .int 0, .int 0, .int 0]) (Cn := RX6) (T := TX6) (Nf := 11) (v := .ref (tv_ad c 4)) C 2 (by decide) rfl rfl in_X6_init_X6 1 (by decide) lk_X6_init_19 rfl dX6_init_66 ?_
  refine tg_iload_n C dX6_init_69 rfl 0 rfl ?_
  refine tg_new (ci := 1) (fs := [.null, .int 0]) (Cn := RX1) (T := TX1) (Nf := 2) C rfl in_X6_init_X1 tyX1 tyX1_ok wi_X6_init_cl17 wi_X6_init_insX1 wi_X6_init_iniX1 dfX1 rfl (Nat.le_of_ble_eq_true rfl) (Nat.le_of_ble_eq_true rfl) dX6_init_70 ?_
  show tg_V c X 36 184 39 (va_up (va_up (va_up (va_up (va_up (va_up (va_up (va_up (bE c) 0 x) 2 (.inr (6, [.ref (tv_ad c 3), .ref (tv_ad c 4), .ref (tv_ad c 5), .int 0, .int 0, .int 0, .int 0, .int 0, .int 0, .int 0, .int 0]))) 3 (.inl (tv_kk c 3, 24, .inr (.inr (.inr (.inr (fq c 6 24))))))) 30 (.inr (1, [.ref (tv_ad c 31), .int 0]))) 32 (.inr (1, [.ref (tv_ad c 33), .int 0]))) 34 (.inr (1, [.ref (tv_ad c 35), .int 0]))) 36 (.inr (1, [.ref (tv_ad c 37), .int 0]))) 4 (.inl (tv_kk c 4, 6, .inr (.inr (.inr (.inr (fr c 30 4))))))) 73 [(1, .int 4), (0, .ref (tv_ad c 2))] [.ref (tv_ad c 38), .int 4, .ref (tv_ad c 4)]
  refine tg_dup C dX6_init_73 rfl ?_
  refine tg_callN (host := RX7) (As := []) (rest := [.ref (tv_ad c 38), .int 4, .ref (tv_ad c 4)]) C (kX1_init c (va_up (va_up (va_up (va_up (va_up (va_up (va_up (va_up (bE c) 0 x) 2 (.inr (6, [.ref (tv_ad c 3), .ref (tv_ad c 4), .ref (tv_ad c 5), .int 0, .int 0, .int 0, .int 0, .int 0, .int 0, .int 0, .int 0]))) 3 (.inl (tv_kk c 3, 24, .inr (.inr (.inr (.inr (fq c 6 24))))))) 30 (.inr (1, [.ref (tv_ad c 31), .int 0]))) 32 (.inr (1, [.ref (tv_ad c 33), .int 0]))) 34 (.inr (1, [.ref (tv_ad c 35), .int 0]))) 36 (.inr (1, [.ref (tv_ad c 37), .int 0]))) 4 (.inl (tv_kk c 4, 6, .inr (.inr (.inr (.inr (fr c 30 4))))))) 39 38  (by decide) rfl rfl) ggX6_init_X1_init rfl wi_X6_init_ini_X1_init (fun q => q.2.2.1) wi_X6_init_im_X1_init rfl yi_X1_init ⟨rfl, rfl⟩ ⟨(Nat.le_of_ble_eq_true rfl), (Nat.le_of_ble_eq_true rfl)⟩ ⟨(Nat.le_of_ble_eq_true rfl), (Nat.le_of_ble_eq_true rfl)⟩ rfl rfl (Nat.le_of_ble_eq_true rfl) dX6_init_74 ?_
  show tg_V c X 37 187 40 (va_up (va_up (va_up (va_up (va_up (va_up (va_up (va_up (va_up (bE c) 0 x) 2 (.inr (6, [.ref (tv_ad c 3), .ref (tv_ad c 4), .ref (tv_ad c 5), .int 0, .int 0, .int 0, .int 0, .int 0, .int 0, .int 0, .int 0]))) 3 (.inl (tv_kk c 3, 24, .inr (.inr (.inr (.inr (fq c 6 24))))))) 30 (.inr (1, [.ref (tv_ad c 31), .int 0]))) 32 (.inr (1, [.ref (tv_ad c 33), .int 0]))) 34 (.inr (1, [.ref (tv_ad c 35), .int 0]))) 36 (.inr (1, [.ref (tv_ad c 37), .int 0]))) 4 (.inl (tv_kk c 4, 6, .inr (.inr (.inr (.inr (fr c 30 4))))))) 38 (.inr (1, [.ref (tv_ad c 39), .int 0]))) 77 [(1, .int 4), (0, .ref (tv_ad c 2))] [.ref (tv_ad c 38), .int 4, .ref (tv_ad c 4)]
  refine tg_aast (f := fr c 30 4) (r := (RX1, TX1, 2)) (vs := [.ref (tv_ad c 39), .int 0]) (E' := (va_up (va_up (va_up (va_up (va_up (va_up (va_up (va_up (va_up (bE c) 0 x) 2 (.inr (6, [.ref (tv_ad c 3), .ref (tv_ad c 4), .ref (tv_ad c 5), .int 0, .int 0, .int 0, .int 0, .int 0, .int 0, .int 0, .int 0]))) 3 (.inl (tv_kk c 3, 24, .inr (.inr (.inr (.inr (fq c 6 24))))))) 30 (.inr (1, [.ref (tv_ad c 31), .int 0]))) 32 (.inr (1, [.ref (tv_ad c 33), .int 0]))) 34 (.inr (1, [.ref (tv_ad c 35), .int 0]))) 36 (.inr (1, [.ref (tv_ad c 37), .int 0]))) 38 (.inr (1, [.ref (tv_ad c 39), .int 0]))) 4 (.inl (tv_kk c 4, 6, .inr (.inr (.inr (.inr (fr c 30 5)))))))) C 4 (by decide) rfl 4 rfl (30 + 2 * 4) (by decide) rfl rfl 4 rfl (by decide) (by decide) (by rw [fr_s]; exact va_up_ov) dX6_init_77 ?_
  refine tg_iinc (v := 5) (lv' := [(1, .int 5), (0, .ref (tv_ad c 2))]) C dX6_init_78 0 rfl (by decide) (by decide) rfl ?_
  refine tg_goto C 59 dX6_init_81 (by decide) ?_
  refine tg_iload_n C dX6_init_59 rfl 0 rfl ?_
  refine tg_bipush (v := 6) C dX6_init_60 (by decide) ?_
  refine tg_icmp_ge C 84 dX6_init_62 (by decide) (fun q => absurd q (by decide)) (fun _ => ?_)
  refine tg_aload_n C dX6_init_65 rfl 1 rfl ?_
  refine tg_get (ci := 6) (fs := [.ref (tv_ad c 3), .ref (tv_ad c 4), .ref (tv_ad c 5), .int 0, .int 0, .int 0, .int 0, .int 0, .int 0, .int 0, .int 0]) (Cn := RX6) (T := TX6) (Nf := 11) (v := .ref (tv_ad c 4)) C 2 (by decide) rfl rfl in_X6_init_X6 1 (by decide) lk_X6_init_19 rfl dX6_init_66 ?_
  refine tg_iload_n C dX6_init_69 rfl 0 rfl ?_
  refine tg_new (ci := 1) (fs := [.null, .int 0]) (Cn := RX1) (T := TX1) (Nf := 2) C rfl in_X6_init_X1 tyX1 tyX1_ok wi_X6_init_cl17 wi_X6_init_insX1 wi_X6_init_iniX1 dfX1 rfl (Nat.le_of_ble_eq_true rfl) (Nat.le_of_ble_eq_true rfl) dX6_init_70 ?_
  show tg_V c X 38 189 41 (va_up (va_up (va_up (va_up (va_up (va_up (va_up (va_up (va_up (bE c) 0 x) 2 (.inr (6, [.ref (tv_ad c 3), .ref (tv_ad c 4), .ref (tv_ad c 5), .int 0, .int 0, .int 0, .int 0, .int 0, .int 0, .int 0, .int 0]))) 3 (.inl (tv_kk c 3, 24, .inr (.inr (.inr (.inr (fq c 6 24))))))) 30 (.inr (1, [.ref (tv_ad c 31), .int 0]))) 32 (.inr (1, [.ref (tv_ad c 33), .int 0]))) 34 (.inr (1, [.ref (tv_ad c 35), .int 0]))) 36 (.inr (1, [.ref (tv_ad c 37), .int 0]))) 38 (.inr (1, [.ref (tv_ad c 39), .int 0]))) 4 (.inl (tv_kk c 4, 6, .inr (.inr (.inr (.inr (fr c 30 5))))))) 73 [(1, .int 5), (0, .ref (tv_ad c 2))] [.ref (tv_ad c 40), .int 5, .ref (tv_ad c 4)]
  refine tg_dup C dX6_init_73 rfl ?_
  refine tg_callN (host := RX7) (As := []) (rest := [.ref (tv_ad c 40), .int 5, .ref (tv_ad c 4)]) C (kX1_init c (va_up (va_up (va_up (va_up (va_up (va_up (va_up (va_up (va_up (bE c) 0 x) 2 (.inr (6, [.ref (tv_ad c 3), .ref (tv_ad c 4), .ref (tv_ad c 5), .int 0, .int 0, .int 0, .int 0, .int 0, .int 0, .int 0, .int 0]))) 3 (.inl (tv_kk c 3, 24, .inr (.inr (.inr (.inr (fq c 6 24))))))) 30 (.inr (1, [.ref (tv_ad c 31), .int 0]))) 32 (.inr (1, [.ref (tv_ad c 33), .int 0]))) 34 (.inr (1, [.ref (tv_ad c 35), .int 0]))) 36 (.inr (1, [.ref (tv_ad c 37), .int 0]))) 38 (.inr (1, [.ref (tv_ad c 39), .int 0]))) 4 (.inl (tv_kk c 4, 6, .inr (.inr (.inr (.inr (fr c 30 5))))))) 41 40  (by decide) rfl rfl) ggX6_init_X1_init rfl wi_X6_init_ini_X1_init (fun q => q.2.2.1) wi_X6_init_im_X1_init rfl yi_X1_init ⟨rfl, rfl⟩ ⟨(Nat.le_of_ble_eq_true rfl), (Nat.le_of_ble_eq_true rfl)⟩ ⟨(Nat.le_of_ble_eq_true rfl), (Nat.le_of_ble_eq_true rfl)⟩ rfl rfl (Nat.le_of_ble_eq_true rfl) dX6_init_74 ?_
  show tg_V c X 39 192 42 (va_up (va_up (va_up (va_up (va_up (va_up (va_up (va_up (va_up (va_up (bE c) 0 x) 2 (.inr (6, [.ref (tv_ad c 3), .ref (tv_ad c 4), .ref (tv_ad c 5), .int 0, .int 0, .int 0, .int 0, .int 0, .int 0, .int 0, .int 0]))) 3 (.inl (tv_kk c 3, 24, .inr (.inr (.inr (.inr (fq c 6 24))))))) 30 (.inr (1, [.ref (tv_ad c 31), .int 0]))) 32 (.inr (1, [.ref (tv_ad c 33), .int 0]))) 34 (.inr (1, [.ref (tv_ad c 35), .int 0]))) 36 (.inr (1, [.ref (tv_ad c 37), .int 0]))) 38 (.inr (1, [.ref (tv_ad c 39), .int 0]))) 4 (.inl (tv_kk c 4, 6, .inr (.inr (.inr (.inr (fr c 30 5))))))) 40 (.inr (1, [.ref (tv_ad c 41), .int 0]))) 77 [(1, .int 5), (0, .ref (tv_ad c 2))] [.ref (tv_ad c 40), .int 5, .ref (tv_ad c 4)]
  refine tg_aast (f := fr c 30 5) (r := (RX1, TX1, 2)) (vs := [.ref (tv_ad c 41), .int 0]) (E' := (va_up (va_up (va_up (va_up (va_up (va_up (va_up (va_up (va_up (va_up (bE c) 0 x) 2 (.inr (6, [.ref (tv_ad c 3), .ref (tv_ad c 4), .ref (tv_ad c 5), .int 0, .int 0, .int 0, .int 0, .int 0, .int 0, .int 0, .int 0]))) 3 (.inl (tv_kk c 3, 24, .inr (.inr (.inr (.inr (fq c 6 24))))))) 30 (.inr (1, [.ref (tv_ad c 31), .int 0]))) 32 (.inr (1, [.ref (tv_ad c 33), .int 0]))) 34 (.inr (1, [.ref (tv_ad c 35), .int 0]))) 36 (.inr (1, [.ref (tv_ad c 37), .int 0]))) 38 (.inr (1, [.ref (tv_ad c 39), .int 0]))) 40 (.inr (1, [.ref (tv_ad c 41), .int 0]))) 4 (.inl (tv_kk c 4, 6, .inr (.inr (.inr (.inr (fr c 30 6)))))))) C 4 (by decide) rfl 4 rfl (30 + 2 * 5) (by decide) rfl rfl 5 rfl (by decide) (by decide) (by rw [fr_s]; exact va_up_ov) dX6_init_77 ?_
  refine tg_iinc (v := 6) (lv' := [(1, .int 6), (0, .ref (tv_ad c 2))]) C dX6_init_78 0 rfl (by decide) (by decide) rfl ?_
  refine tg_goto C 59 dX6_init_81 (by decide) ?_
  refine tg_iload_n C dX6_init_59 rfl 0 rfl ?_
  refine tg_bipush (v := 6) C dX6_init_60 (by decide) ?_
  refine tg_icmp_ge C 84 dX6_init_62 (by decide) (fun _ => ?_) (fun q => absurd (by decide) q)
  exact hR _ _ dX6_init_84
def eT (c : tv_c) : Nat → va_E := (va_up (va_up (va_up (va_up (va_up (va_up (va_up (va_up (va_up (va_up (va_up (eW c (.inr (7, [.ref (tv_ad c 1), .null, .null, .null, .null, .int 0, .int 0]))) 42 (.inr (2, [.ref (tv_ad c 2), .ref (tv_ad c 43), .ref (tv_ad c 44)]))) 0 (.inr (7, [.ref (tv_ad c 1), .ref (tv_ad c 2), .ref (tv_ad c 42), .null, .null, .int 0, .int 0]))) 47 (.inr (1, [.ref (tv_ad c 48), .int 0]))) 45 (.inr (3, [.ref (tv_ad c 2), .ref (tv_ad c 46), .ref (tv_ad c 47), .ref (tv_ad c 49), .ref (tv_ad c 50), .int 0, .int 0]))) 51 (.inr (4, [.ref (tv_ad c 2), .ref (tv_ad c 42), .int 0, .int 0, .int 0]))) 0 (.inr (7, [.ref (tv_ad c 1), .ref (tv_ad c 2), .ref (tv_ad c 42), .ref (tv_ad c 45), .ref (tv_ad c 51), .int 0, .int 0]))) 52 (.inr (5, [.ref (tv_ad c 53), .int 0, .int 0, .int 0]))) 54 (.inr (5, [.ref (tv_ad c 55), .int 0, .int 0, .int 0]))) 56 (.inr (5, [.ref (tv_ad c 57), .int 0, .int 0, .int 0]))) 58 (.inr (5, [.ref (tv_ad c 59), .int 0, .int 0, .int 0]))) 1 (.inl (tv_kk c 2, 4, .inr (.inr (.inr (.inr (fr c 52 4)))))))
set_option maxHeartbeats 4000000 in
set_option maxRecDepth 100000 in
theorem kX7_init (c : tv_c)   : tg_M c yX7_init wsX7_init { frames := 3, cells := 59, slots := 643, locals := 53 } [.ref (tv_ad c 0)] 1 (bE c) 60 (eT c) 59 643 := by
  refine tg_met (by decide +kernel) rfl rfl rfl (Nat.le_of_ble_eq_true rfl) (fun X C hin2 hR => ?_)
  have hNN := C.2.2.2.2.2.2.2.1
  show tg_V c X 0 0 1 (bE c) 0 [(0, .ref (tv_ad c 0))] []
  refine tg_aload_n C dX7_init_0 rfl 0 rfl ?_
  refine tg_obj C wi_X7_init_ol wi_X7_init_oi wi_X7_init_oc (Nat.le_of_ble_eq_true rfl) (Nat.le_of_ble_eq_true rfl) dX7_init_1 ?_
  refine tg_aload_n C dX7_init_4 rfl 0 rfl ?_
  refine tg_iconst (v := 4) C dX7_init_5 (by decide) ?_
  refine tg_newq (M := 4) (f := fr c 52 0) (Cn := RX5) C 2 rfl ((fun q : tg_N (tv_xs X) => q.2.2.2.2.2.1) hNN) wi_X7_init_cl11 rfl (by decide) rfl (fun _ _ => if_neg (by omega)) (Nat.le_of_ble_eq_true rfl) (Nat.le_of_ble_eq_true rfl) dX7_init_6 ?_
  show tg_V c X 1 4 2 (bE c) 9 [(0, .ref (tv_ad c 0))] [.ref (tv_ad c 1), .ref (tv_ad c 0)]
  refine tg_put (ci := 7) (fs := [.null, .null, .null, .null, .null, .int 0, .int 0]) (Cn := RX7) (T := TX7) (Nf := 7) (ty := .array (.object "TouchUp$Sheet")) (v := .ref (tv_ad c 1)) (E' := (va_up (bE c) 0 (.inr (7, [.ref (tv_ad c 1), .null, .null, .null, .null, .int 0, .int 0])))) C hin2 0 (by decide) rfl rfl in_X7_init_X7 tyX7 tyX7_ok nmX7 0 (by decide) lk_X7_init_13 rfl rfl (by decide +kernel) rfl rfl (Nat.le_of_ble_eq_true rfl) rfl dX7_init_9 ?_
  refine tg_aload_n C dX7_init_12 rfl 0 rfl ?_
  refine tg_new (ci := 6) (fs := [.null, .null, .null, .int 0, .int 0, .int 0, .int 0, .int 0, .int 0, .int 0, .int 0]) (Cn := RX6) (T := TX6) (Nf := 11) C rfl in_X7_init_X6 tyX6 tyX6_ok wi_X7_init_cl17 wi_X7_init_insX6 wi_X7_init_iniX6 dfX6 rfl (Nat.le_of_ble_eq_true rfl) (Nat.le_of_ble_eq_true rfl) dX7_init_13 ?_
  show tg_V c X 2 15 3 (va_up (bE c) 0 (.inr (7, [.ref (tv_ad c 1), .null, .null, .null, .null, .int 0, .int 0]))) 16 [(0, .ref (tv_ad c 0))] [.ref (tv_ad c 2), .ref (tv_ad c 0)]
  refine tg_dup C dX7_init_16 rfl ?_
  refine tg_call (As := []) (rest := [.ref (tv_ad c 2), .ref (tv_ad c 0)]) C (kX6_init c (.inr (7, [.ref (tv_ad c 1), .null, .null, .null, .null, .int 0, .int 0]))) ggX7_init_X6_init rfl wi_X7_init_ini_X6_init wi_X7_init_ml19 wi_X7_init_im_X6_init rfl yi_X6_init ⟨rfl, rfl⟩ ⟨(Nat.le_of_ble_eq_true rfl), (Nat.le_of_ble_eq_true rfl)⟩ ⟨(Nat.le_of_ble_eq_true rfl), (Nat.le_of_ble_eq_true rfl)⟩ rfl rfl (Nat.le_of_ble_eq_true rfl) dX7_init_17 ?_
  show tg_V c X 41 207 42 (eW c (.inr (7, [.ref (tv_ad c 1), .null, .null, .null, .null, .int 0, .int 0]))) 20 [(0, .ref (tv_ad c 0))] [.ref (tv_ad c 2), .ref (tv_ad c 0)]
  refine tg_put (ci := 7) (fs := [.ref (tv_ad c 1), .null, .null, .null, .null, .int 0, .int 0]) (Cn := RX7) (T := TX7) (Nf := 7) (ty := .object "TouchUp$Wall") (v := .ref (tv_ad c 2)) (E' := (va_up (eW c (.inr (7, [.ref (tv_ad c 1), .null, .null, .null, .null, .int 0, .int 0]))) 0 (.inr (7, [.ref (tv_ad c 1), .ref (tv_ad c 2), .null, .null, .null, .int 0, .int 0])))) C hin2 0 (by decide) rfl rfl in_X7_init_X7 tyX7 tyX7_ok nmX7 1 (by decide) lk_X7_init_20 rfl rfl (by decide +kernel) rfl rfl (Nat.le_of_ble_eq_true rfl) rfl dX7_init_20 ?_
  refine tg_aload_n C dX7_init_23 rfl 0 rfl ?_
  refine tg_new (ci := 2) (fs := [.null, .null, .null]) (Cn := RX2) (T := TX2) (Nf := 3) C rfl in_X7_init_X2 tyX2 tyX2_ok wi_X7_init_cl24 wi_X7_init_insX2 wi_X7_init_iniX2 dfX2 rfl (Nat.le_of_ble_eq_true rfl) (Nat.le_of_ble_eq_true rfl) dX7_init_24 ?_
  show tg_V c X 42 210 43 (va_up (eW c (.inr (7, [.ref (tv_ad c 1), .null, .null, .null, .null, .int 0, .int 0]))) 0 (.inr (7, [.ref (tv_ad c 1), .ref (tv_ad c 2), .null, .null, .null, .int 0, .int 0]))) 27 [(0, .ref (tv_ad c 0))] [.ref (tv_ad c 42), .ref (tv_ad c 0)]
  refine tg_dup C dX7_init_27 rfl ?_
  refine tg_aload_n C dX7_init_28 rfl 0 rfl ?_
  refine tg_get (ci := 7) (fs := [.ref (tv_ad c 1), .ref (tv_ad c 2), .null, .null, .null, .int 0, .int 0]) (Cn := RX7) (T := TX7) (Nf := 7) (v := .ref (tv_ad c 2)) C 0 (by decide) rfl rfl in_X7_init_X7 1 (by decide) lk_X7_init_20 rfl dX7_init_29 ?_
  refine tg_call (As := [.ref (tv_ad c 2)]) (rest := [.ref (tv_ad c 42), .ref (tv_ad c 0)]) C (kX2_init c (va_up (eW c (.inr (7, [.ref (tv_ad c 1), .null, .null, .null, .null, .int 0, .int 0]))) 0 (.inr (7, [.ref (tv_ad c 1), .ref (tv_ad c 2), .null, .null, .null, .int 0, .int 0]))) 43 42 2 (by decide) rfl rfl rfl) ggX7_init_X2_init rfl wi_X7_init_ini_X2_init wi_X7_init_ml26 wi_X7_init_im_X2_init rfl yi_X2_init ⟨rfl, rfl⟩ ⟨(Nat.le_of_ble_eq_true rfl), (Nat.le_of_ble_eq_true rfl)⟩ ⟨(Nat.le_of_ble_eq_true rfl), (Nat.le_of_ble_eq_true rfl)⟩ rfl rfl (Nat.le_of_ble_eq_true rfl) dX7_init_32 ?_
  show tg_V c X 44 434 45 (va_up (va_up (eW c (.inr (7, [.ref (tv_ad c 1), .null, .null, .null, .null, .int 0, .int 0]))) 0 (.inr (7, [.ref (tv_ad c 1), .ref (tv_ad c 2), .null, .null, .null, .int 0, .int 0]))) 42 (.inr (2, [.ref (tv_ad c 2), .ref (tv_ad c 43), .ref (tv_ad c 44)]))) 35 [(0, .ref (tv_ad c 0))] [.ref (tv_ad c 42), .ref (tv_ad c 0)]
  refine tg_put (ci := 7) (fs := [.ref (tv_ad c 1), .ref (tv_ad c 2), .null, .null, .null, .int 0, .int 0]) (Cn := RX7) (T := TX7) (Nf := 7) (ty := .object "TouchUp$Edges") (v := .ref (tv_ad c 42)) (E' := (va_up (va_up (eW c (.inr (7, [.ref (tv_ad c 1), .null, .null, .null, .null, .int 0, .int 0]))) 42 (.inr (2, [.ref (tv_ad c 2), .ref (tv_ad c 43), .ref (tv_ad c 44)]))) 0 (.inr (7, [.ref (tv_ad c 1), .ref (tv_ad c 2), .ref (tv_ad c 42), .null, .null, .int 0, .int 0])))) C hin2 0 (by decide) rfl rfl in_X7_init_X7 tyX7 tyX7_ok nmX7 2 (by decide) lk_X7_init_29 rfl rfl (by decide +kernel) rfl rfl (Nat.le_of_ble_eq_true rfl) va_up_ov dX7_init_35 ?_
  refine tg_aload_n C dX7_init_38 rfl 0 rfl ?_
  refine tg_new (ci := 3) (fs := [.null, .null, .null, .null, .null, .int 0, .int 0]) (Cn := RX3) (T := TX3) (Nf := 7) C rfl in_X7_init_X3 tyX3 tyX3_ok wi_X7_init_cl33 wi_X7_init_insX3 wi_X7_init_iniX3 dfX3 rfl (Nat.le_of_ble_eq_true rfl) (Nat.le_of_ble_eq_true rfl) dX7_init_39 ?_
  show tg_V c X 45 441 46 (va_up (va_up (eW c (.inr (7, [.ref (tv_ad c 1), .null, .null, .null, .null, .int 0, .int 0]))) 42 (.inr (2, [.ref (tv_ad c 2), .ref (tv_ad c 43), .ref (tv_ad c 44)]))) 0 (.inr (7, [.ref (tv_ad c 1), .ref (tv_ad c 2), .ref (tv_ad c 42), .null, .null, .int 0, .int 0]))) 42 [(0, .ref (tv_ad c 0))] [.ref (tv_ad c 45), .ref (tv_ad c 0)]
  refine tg_dup C dX7_init_42 rfl ?_
  refine tg_aload_n C dX7_init_43 rfl 0 rfl ?_
  refine tg_get (ci := 7) (fs := [.ref (tv_ad c 1), .ref (tv_ad c 2), .ref (tv_ad c 42), .null, .null, .int 0, .int 0]) (Cn := RX7) (T := TX7) (Nf := 7) (v := .ref (tv_ad c 2)) C 0 (by decide) rfl rfl in_X7_init_X7 1 (by decide) lk_X7_init_20 rfl dX7_init_44 ?_
  refine tg_call (As := [.ref (tv_ad c 2)]) (rest := [.ref (tv_ad c 45), .ref (tv_ad c 0)]) C (kX3_init c (va_up (va_up (eW c (.inr (7, [.ref (tv_ad c 1), .null, .null, .null, .null, .int 0, .int 0]))) 42 (.inr (2, [.ref (tv_ad c 2), .ref (tv_ad c 43), .ref (tv_ad c 44)]))) 0 (.inr (7, [.ref (tv_ad c 1), .ref (tv_ad c 2), .ref (tv_ad c 42), .null, .null, .int 0, .int 0]))) 46 45 2 (by decide) rfl rfl rfl rfl rfl rfl) ggX7_init_X3_init rfl wi_X7_init_ini_X3_init wi_X7_init_ml35 wi_X7_init_im_X3_init rfl yi_X3_init ⟨rfl, rfl⟩ ⟨(Nat.le_of_ble_eq_true rfl), (Nat.le_of_ble_eq_true rfl)⟩ ⟨(Nat.le_of_ble_eq_true rfl), (Nat.le_of_ble_eq_true rfl)⟩ rfl rfl (Nat.le_of_ble_eq_true rfl) dX7_init_47 ?_
  show tg_V c X 50 462 51 (va_up (va_up (va_up (va_up (eW c (.inr (7, [.ref (tv_ad c 1), .null, .null, .null, .null, .int 0, .int 0]))) 42 (.inr (2, [.ref (tv_ad c 2), .ref (tv_ad c 43), .ref (tv_ad c 44)]))) 0 (.inr (7, [.ref (tv_ad c 1), .ref (tv_ad c 2), .ref (tv_ad c 42), .null, .null, .int 0, .int 0]))) 47 (.inr (1, [.ref (tv_ad c 48), .int 0]))) 45 (.inr (3, [.ref (tv_ad c 2), .ref (tv_ad c 46), .ref (tv_ad c 47), .ref (tv_ad c 49), .ref (tv_ad c 50), .int 0, .int 0]))) 50 [(0, .ref (tv_ad c 0))] [.ref (tv_ad c 45), .ref (tv_ad c 0)]
  refine tg_put (ci := 7) (fs := [.ref (tv_ad c 1), .ref (tv_ad c 2), .ref (tv_ad c 42), .null, .null, .int 0, .int 0]) (Cn := RX7) (T := TX7) (Nf := 7) (ty := .object "TouchUp$Mixer") (v := .ref (tv_ad c 45)) (E' := (va_up (va_up (va_up (va_up (va_up (eW c (.inr (7, [.ref (tv_ad c 1), .null, .null, .null, .null, .int 0, .int 0]))) 42 (.inr (2, [.ref (tv_ad c 2), .ref (tv_ad c 43), .ref (tv_ad c 44)]))) 0 (.inr (7, [.ref (tv_ad c 1), .ref (tv_ad c 2), .ref (tv_ad c 42), .null, .null, .int 0, .int 0]))) 47 (.inr (1, [.ref (tv_ad c 48), .int 0]))) 45 (.inr (3, [.ref (tv_ad c 2), .ref (tv_ad c 46), .ref (tv_ad c 47), .ref (tv_ad c 49), .ref (tv_ad c 50), .int 0, .int 0]))) 0 (.inr (7, [.ref (tv_ad c 1), .ref (tv_ad c 2), .ref (tv_ad c 42), .ref (tv_ad c 45), .null, .int 0, .int 0])))) C hin2 0 (by decide) rfl rfl in_X7_init_X7 tyX7 tyX7_ok nmX7 3 (by decide) lk_X7_init_36 rfl rfl (by decide +kernel) rfl rfl (Nat.le_of_ble_eq_true rfl) rfl dX7_init_50 ?_
  refine tg_aload_n C dX7_init_53 rfl 0 rfl ?_
  refine tg_new (ci := 4) (fs := [.null, .null, .int 0, .int 0, .int 0]) (Cn := RX4) (T := TX4) (Nf := 5) C rfl in_X7_init_X4 tyX4 tyX4_ok wi_X7_init_cl40 wi_X7_init_insX4 wi_X7_init_iniX4 dfX4 rfl (Nat.le_of_ble_eq_true rfl) (Nat.le_of_ble_eq_true rfl) dX7_init_54 ?_
  show tg_V c X 51 467 52 (va_up (va_up (va_up (va_up (va_up (eW c (.inr (7, [.ref (tv_ad c 1), .null, .null, .null, .null, .int 0, .int 0]))) 42 (.inr (2, [.ref (tv_ad c 2), .ref (tv_ad c 43), .ref (tv_ad c 44)]))) 0 (.inr (7, [.ref (tv_ad c 1), .ref (tv_ad c 2), .ref (tv_ad c 42), .null, .null, .int 0, .int 0]))) 47 (.inr (1, [.ref (tv_ad c 48), .int 0]))) 45 (.inr (3, [.ref (tv_ad c 2), .ref (tv_ad c 46), .ref (tv_ad c 47), .ref (tv_ad c 49), .ref (tv_ad c 50), .int 0, .int 0]))) 0 (.inr (7, [.ref (tv_ad c 1), .ref (tv_ad c 2), .ref (tv_ad c 42), .ref (tv_ad c 45), .null, .int 0, .int 0]))) 57 [(0, .ref (tv_ad c 0))] [.ref (tv_ad c 51), .ref (tv_ad c 0)]
  refine tg_dup C dX7_init_57 rfl ?_
  refine tg_aload_n C dX7_init_58 rfl 0 rfl ?_
  refine tg_get (ci := 7) (fs := [.ref (tv_ad c 1), .ref (tv_ad c 2), .ref (tv_ad c 42), .ref (tv_ad c 45), .null, .int 0, .int 0]) (Cn := RX7) (T := TX7) (Nf := 7) (v := .ref (tv_ad c 2)) C 0 (by decide) rfl rfl in_X7_init_X7 1 (by decide) lk_X7_init_20 rfl dX7_init_59 ?_
  refine tg_aload_n C dX7_init_62 rfl 0 rfl ?_
  refine tg_get (ci := 7) (fs := [.ref (tv_ad c 1), .ref (tv_ad c 2), .ref (tv_ad c 42), .ref (tv_ad c 45), .null, .int 0, .int 0]) (Cn := RX7) (T := TX7) (Nf := 7) (v := .ref (tv_ad c 42)) C 0 (by decide) rfl rfl in_X7_init_X7 2 (by decide) lk_X7_init_29 rfl dX7_init_63 ?_
  refine tg_call (As := [.ref (tv_ad c 2), .ref (tv_ad c 42)]) (rest := [.ref (tv_ad c 51), .ref (tv_ad c 0)]) C (kX4_init c (va_up (va_up (va_up (va_up (va_up (eW c (.inr (7, [.ref (tv_ad c 1), .null, .null, .null, .null, .int 0, .int 0]))) 42 (.inr (2, [.ref (tv_ad c 2), .ref (tv_ad c 43), .ref (tv_ad c 44)]))) 0 (.inr (7, [.ref (tv_ad c 1), .ref (tv_ad c 2), .ref (tv_ad c 42), .null, .null, .int 0, .int 0]))) 47 (.inr (1, [.ref (tv_ad c 48), .int 0]))) 45 (.inr (3, [.ref (tv_ad c 2), .ref (tv_ad c 46), .ref (tv_ad c 47), .ref (tv_ad c 49), .ref (tv_ad c 50), .int 0, .int 0]))) 0 (.inr (7, [.ref (tv_ad c 1), .ref (tv_ad c 2), .ref (tv_ad c 42), .ref (tv_ad c 45), .null, .int 0, .int 0]))) 52 51 2 42 (by decide) rfl ) ggX7_init_X4_init rfl wi_X7_init_ini_X4_init wi_X7_init_ml42 wi_X7_init_im_X4_init rfl yi_X4_init ⟨rfl, rfl⟩ ⟨(Nat.le_of_ble_eq_true rfl), (Nat.le_of_ble_eq_true rfl)⟩ ⟨(Nat.le_of_ble_eq_true rfl), (Nat.le_of_ble_eq_true rfl)⟩ rfl rfl (Nat.le_of_ble_eq_true rfl) dX7_init_66 ?_
  show tg_V c X 51 467 52 (va_up (va_up (va_up (va_up (va_up (va_up (eW c (.inr (7, [.ref (tv_ad c 1), .null, .null, .null, .null, .int 0, .int 0]))) 42 (.inr (2, [.ref (tv_ad c 2), .ref (tv_ad c 43), .ref (tv_ad c 44)]))) 0 (.inr (7, [.ref (tv_ad c 1), .ref (tv_ad c 2), .ref (tv_ad c 42), .null, .null, .int 0, .int 0]))) 47 (.inr (1, [.ref (tv_ad c 48), .int 0]))) 45 (.inr (3, [.ref (tv_ad c 2), .ref (tv_ad c 46), .ref (tv_ad c 47), .ref (tv_ad c 49), .ref (tv_ad c 50), .int 0, .int 0]))) 0 (.inr (7, [.ref (tv_ad c 1), .ref (tv_ad c 2), .ref (tv_ad c 42), .ref (tv_ad c 45), .null, .int 0, .int 0]))) 51 (.inr (4, [.ref (tv_ad c 2), .ref (tv_ad c 42), .int 0, .int 0, .int 0]))) 69 [(0, .ref (tv_ad c 0))] [.ref (tv_ad c 51), .ref (tv_ad c 0)]
  refine tg_put (ci := 7) (fs := [.ref (tv_ad c 1), .ref (tv_ad c 2), .ref (tv_ad c 42), .ref (tv_ad c 45), .null, .int 0, .int 0]) (Cn := RX7) (T := TX7) (Nf := 7) (ty := .object "TouchUp$Patch") (v := .ref (tv_ad c 51)) (E' := (va_up (va_up (va_up (va_up (va_up (va_up (eW c (.inr (7, [.ref (tv_ad c 1), .null, .null, .null, .null, .int 0, .int 0]))) 42 (.inr (2, [.ref (tv_ad c 2), .ref (tv_ad c 43), .ref (tv_ad c 44)]))) 0 (.inr (7, [.ref (tv_ad c 1), .ref (tv_ad c 2), .ref (tv_ad c 42), .null, .null, .int 0, .int 0]))) 47 (.inr (1, [.ref (tv_ad c 48), .int 0]))) 45 (.inr (3, [.ref (tv_ad c 2), .ref (tv_ad c 46), .ref (tv_ad c 47), .ref (tv_ad c 49), .ref (tv_ad c 50), .int 0, .int 0]))) 51 (.inr (4, [.ref (tv_ad c 2), .ref (tv_ad c 42), .int 0, .int 0, .int 0]))) 0 (.inr (7, [.ref (tv_ad c 1), .ref (tv_ad c 2), .ref (tv_ad c 42), .ref (tv_ad c 45), .ref (tv_ad c 51), .int 0, .int 0])))) C hin2 0 (by decide) rfl rfl in_X7_init_X7 tyX7 tyX7_ok nmX7 4 (by decide) lk_X7_init_45 rfl rfl (by decide +kernel) rfl rfl (Nat.le_of_ble_eq_true rfl) va_up_ov dX7_init_69 ?_
  refine tg_iconst (v := 0) C dX7_init_72 (by decide) ?_
  refine tg_istore_n (lv' := [(1, .int 0), (0, .ref (tv_ad c 0))]) C dX7_init_73 rfl (by decide) rfl ?_
  refine tg_iload_n C dX7_init_74 rfl 0 rfl ?_
  refine tg_iconst (v := 4) C dX7_init_75 (by decide) ?_
  refine tg_icmp_ge C 98 dX7_init_76 (by decide) (fun q => absurd q (by decide)) (fun _ => ?_)
  refine tg_aload_n C dX7_init_79 rfl 1 rfl ?_
  refine tg_get (ci := 7) (fs := [.ref (tv_ad c 1), .ref (tv_ad c 2), .ref (tv_ad c 42), .ref (tv_ad c 45), .ref (tv_ad c 51), .int 0, .int 0]) (Cn := RX7) (T := TX7) (Nf := 7) (v := .ref (tv_ad c 1)) C 0 (by decide) rfl rfl in_X7_init_X7 0 (by decide) lk_X7_init_13 rfl dX7_init_80 ?_
  refine tg_iload_n C dX7_init_83 rfl 0 rfl ?_
  refine tg_new (ci := 5) (fs := [.null, .int 0, .int 0, .int 0]) (Cn := RX5) (T := TX5) (Nf := 4) C rfl in_X7_init_X5 tyX5 tyX5_ok wi_X7_init_cl11 wi_X7_init_insX5 wi_X7_init_iniX5 dfX5 rfl (Nat.le_of_ble_eq_true rfl) (Nat.le_of_ble_eq_true rfl) dX7_init_84 ?_
  show tg_V c X 52 471 53 (va_up (va_up (va_up (va_up (va_up (va_up (eW c (.inr (7, [.ref (tv_ad c 1), .null, .null, .null, .null, .int 0, .int 0]))) 42 (.inr (2, [.ref (tv_ad c 2), .ref (tv_ad c 43), .ref (tv_ad c 44)]))) 0 (.inr (7, [.ref (tv_ad c 1), .ref (tv_ad c 2), .ref (tv_ad c 42), .null, .null, .int 0, .int 0]))) 47 (.inr (1, [.ref (tv_ad c 48), .int 0]))) 45 (.inr (3, [.ref (tv_ad c 2), .ref (tv_ad c 46), .ref (tv_ad c 47), .ref (tv_ad c 49), .ref (tv_ad c 50), .int 0, .int 0]))) 51 (.inr (4, [.ref (tv_ad c 2), .ref (tv_ad c 42), .int 0, .int 0, .int 0]))) 0 (.inr (7, [.ref (tv_ad c 1), .ref (tv_ad c 2), .ref (tv_ad c 42), .ref (tv_ad c 45), .ref (tv_ad c 51), .int 0, .int 0]))) 87 [(1, .int 0), (0, .ref (tv_ad c 0))] [.ref (tv_ad c 52), .int 0, .ref (tv_ad c 1)]
  refine tg_dup C dX7_init_87 rfl ?_
  refine tg_callN (host := RX7) (As := []) (rest := [.ref (tv_ad c 52), .int 0, .ref (tv_ad c 1)]) C (kX5_init c (va_up (va_up (va_up (va_up (va_up (va_up (eW c (.inr (7, [.ref (tv_ad c 1), .null, .null, .null, .null, .int 0, .int 0]))) 42 (.inr (2, [.ref (tv_ad c 2), .ref (tv_ad c 43), .ref (tv_ad c 44)]))) 0 (.inr (7, [.ref (tv_ad c 1), .ref (tv_ad c 2), .ref (tv_ad c 42), .null, .null, .int 0, .int 0]))) 47 (.inr (1, [.ref (tv_ad c 48), .int 0]))) 45 (.inr (3, [.ref (tv_ad c 2), .ref (tv_ad c 46), .ref (tv_ad c 47), .ref (tv_ad c 49), .ref (tv_ad c 50), .int 0, .int 0]))) 51 (.inr (4, [.ref (tv_ad c 2), .ref (tv_ad c 42), .int 0, .int 0, .int 0]))) 0 (.inr (7, [.ref (tv_ad c 1), .ref (tv_ad c 2), .ref (tv_ad c 42), .ref (tv_ad c 45), .ref (tv_ad c 51), .int 0, .int 0]))) 53 52  (by decide) rfl rfl) ggX7_init_X5_init rfl wi_X7_init_ini_X5_init (fun q => q.2.2.2.2.1) wi_X7_init_im_X5_init rfl yi_X5_init ⟨rfl, rfl⟩ ⟨(Nat.le_of_ble_eq_true rfl), (Nat.le_of_ble_eq_true rfl)⟩ ⟨(Nat.le_of_ble_eq_true rfl), (Nat.le_of_ble_eq_true rfl)⟩ rfl rfl (Nat.le_of_ble_eq_true rfl) dX7_init_88 ?_
  show tg_V c X 53 511 54 (va_up (va_up (va_up (va_up (va_up (va_up (va_up (eW c (.inr (7, [.ref (tv_ad c 1), .null, .null, .null, .null, .int 0, .int 0]))) 42 (.inr (2, [.ref (tv_ad c 2), .ref (tv_ad c 43), .ref (tv_ad c 44)]))) 0 (.inr (7, [.ref (tv_ad c 1), .ref (tv_ad c 2), .ref (tv_ad c 42), .null, .null, .int 0, .int 0]))) 47 (.inr (1, [.ref (tv_ad c 48), .int 0]))) 45 (.inr (3, [.ref (tv_ad c 2), .ref (tv_ad c 46), .ref (tv_ad c 47), .ref (tv_ad c 49), .ref (tv_ad c 50), .int 0, .int 0]))) 51 (.inr (4, [.ref (tv_ad c 2), .ref (tv_ad c 42), .int 0, .int 0, .int 0]))) 0 (.inr (7, [.ref (tv_ad c 1), .ref (tv_ad c 2), .ref (tv_ad c 42), .ref (tv_ad c 45), .ref (tv_ad c 51), .int 0, .int 0]))) 52 (.inr (5, [.ref (tv_ad c 53), .int 0, .int 0, .int 0]))) 91 [(1, .int 0), (0, .ref (tv_ad c 0))] [.ref (tv_ad c 52), .int 0, .ref (tv_ad c 1)]
  refine tg_aast (f := fr c 52 0) (r := (RX5, TX5, 4)) (vs := [.ref (tv_ad c 53), .int 0, .int 0, .int 0]) (E' := (va_up (va_up (va_up (va_up (va_up (va_up (va_up (va_up (eW c (.inr (7, [.ref (tv_ad c 1), .null, .null, .null, .null, .int 0, .int 0]))) 42 (.inr (2, [.ref (tv_ad c 2), .ref (tv_ad c 43), .ref (tv_ad c 44)]))) 0 (.inr (7, [.ref (tv_ad c 1), .ref (tv_ad c 2), .ref (tv_ad c 42), .null, .null, .int 0, .int 0]))) 47 (.inr (1, [.ref (tv_ad c 48), .int 0]))) 45 (.inr (3, [.ref (tv_ad c 2), .ref (tv_ad c 46), .ref (tv_ad c 47), .ref (tv_ad c 49), .ref (tv_ad c 50), .int 0, .int 0]))) 51 (.inr (4, [.ref (tv_ad c 2), .ref (tv_ad c 42), .int 0, .int 0, .int 0]))) 0 (.inr (7, [.ref (tv_ad c 1), .ref (tv_ad c 2), .ref (tv_ad c 42), .ref (tv_ad c 45), .ref (tv_ad c 51), .int 0, .int 0]))) 52 (.inr (5, [.ref (tv_ad c 53), .int 0, .int 0, .int 0]))) 1 (.inl (tv_kk c 2, 4, .inr (.inr (.inr (.inr (fr c 52 1)))))))) C 1 (by decide) rfl 2 rfl (52 + 2 * 0) (by decide) rfl rfl 0 rfl (by decide) (by decide) (by rw [fr_s]) dX7_init_91 ?_
  refine tg_iinc (v := 1) (lv' := [(1, .int 1), (0, .ref (tv_ad c 0))]) C dX7_init_92 0 rfl (by decide) (by decide) rfl ?_
  refine tg_goto C 74 dX7_init_95 (by decide) ?_
  refine tg_iload_n C dX7_init_74 rfl 0 rfl ?_
  refine tg_iconst (v := 4) C dX7_init_75 (by decide) ?_
  refine tg_icmp_ge C 98 dX7_init_76 (by decide) (fun q => absurd q (by decide)) (fun _ => ?_)
  refine tg_aload_n C dX7_init_79 rfl 1 rfl ?_
  refine tg_get (ci := 7) (fs := [.ref (tv_ad c 1), .ref (tv_ad c 2), .ref (tv_ad c 42), .ref (tv_ad c 45), .ref (tv_ad c 51), .int 0, .int 0]) (Cn := RX7) (T := TX7) (Nf := 7) (v := .ref (tv_ad c 1)) C 0 (by decide) rfl rfl in_X7_init_X7 0 (by decide) lk_X7_init_13 rfl dX7_init_80 ?_
  refine tg_iload_n C dX7_init_83 rfl 0 rfl ?_
  refine tg_new (ci := 5) (fs := [.null, .int 0, .int 0, .int 0]) (Cn := RX5) (T := TX5) (Nf := 4) C rfl in_X7_init_X5 tyX5 tyX5_ok wi_X7_init_cl11 wi_X7_init_insX5 wi_X7_init_iniX5 dfX5 rfl (Nat.le_of_ble_eq_true rfl) (Nat.le_of_ble_eq_true rfl) dX7_init_84 ?_
  show tg_V c X 54 515 55 (va_up (va_up (va_up (va_up (va_up (va_up (va_up (va_up (eW c (.inr (7, [.ref (tv_ad c 1), .null, .null, .null, .null, .int 0, .int 0]))) 42 (.inr (2, [.ref (tv_ad c 2), .ref (tv_ad c 43), .ref (tv_ad c 44)]))) 0 (.inr (7, [.ref (tv_ad c 1), .ref (tv_ad c 2), .ref (tv_ad c 42), .null, .null, .int 0, .int 0]))) 47 (.inr (1, [.ref (tv_ad c 48), .int 0]))) 45 (.inr (3, [.ref (tv_ad c 2), .ref (tv_ad c 46), .ref (tv_ad c 47), .ref (tv_ad c 49), .ref (tv_ad c 50), .int 0, .int 0]))) 51 (.inr (4, [.ref (tv_ad c 2), .ref (tv_ad c 42), .int 0, .int 0, .int 0]))) 0 (.inr (7, [.ref (tv_ad c 1), .ref (tv_ad c 2), .ref (tv_ad c 42), .ref (tv_ad c 45), .ref (tv_ad c 51), .int 0, .int 0]))) 52 (.inr (5, [.ref (tv_ad c 53), .int 0, .int 0, .int 0]))) 1 (.inl (tv_kk c 2, 4, .inr (.inr (.inr (.inr (fr c 52 1))))))) 87 [(1, .int 1), (0, .ref (tv_ad c 0))] [.ref (tv_ad c 54), .int 1, .ref (tv_ad c 1)]
  refine tg_dup C dX7_init_87 rfl ?_
  refine tg_callN (host := RX7) (As := []) (rest := [.ref (tv_ad c 54), .int 1, .ref (tv_ad c 1)]) C (kX5_init c (va_up (va_up (va_up (va_up (va_up (va_up (va_up (va_up (eW c (.inr (7, [.ref (tv_ad c 1), .null, .null, .null, .null, .int 0, .int 0]))) 42 (.inr (2, [.ref (tv_ad c 2), .ref (tv_ad c 43), .ref (tv_ad c 44)]))) 0 (.inr (7, [.ref (tv_ad c 1), .ref (tv_ad c 2), .ref (tv_ad c 42), .null, .null, .int 0, .int 0]))) 47 (.inr (1, [.ref (tv_ad c 48), .int 0]))) 45 (.inr (3, [.ref (tv_ad c 2), .ref (tv_ad c 46), .ref (tv_ad c 47), .ref (tv_ad c 49), .ref (tv_ad c 50), .int 0, .int 0]))) 51 (.inr (4, [.ref (tv_ad c 2), .ref (tv_ad c 42), .int 0, .int 0, .int 0]))) 0 (.inr (7, [.ref (tv_ad c 1), .ref (tv_ad c 2), .ref (tv_ad c 42), .ref (tv_ad c 45), .ref (tv_ad c 51), .int 0, .int 0]))) 52 (.inr (5, [.ref (tv_ad c 53), .int 0, .int 0, .int 0]))) 1 (.inl (tv_kk c 2, 4, .inr (.inr (.inr (.inr (fr c 52 1))))))) 55 54  (by decide) rfl rfl) ggX7_init_X5_init rfl wi_X7_init_ini_X5_init (fun q => q.2.2.2.2.1) wi_X7_init_im_X5_init rfl yi_X5_init ⟨rfl, rfl⟩ ⟨(Nat.le_of_ble_eq_true rfl), (Nat.le_of_ble_eq_true rfl)⟩ ⟨(Nat.le_of_ble_eq_true rfl), (Nat.le_of_ble_eq_true rfl)⟩ rfl rfl (Nat.le_of_ble_eq_true rfl) dX7_init_88 ?_
  show tg_V c X 55 555 56 (va_up (va_up (va_up (va_up (va_up (va_up (va_up (va_up (va_up (eW c (.inr (7, [.ref (tv_ad c 1), .null, .null, .null, .null, .int 0, .int 0]))) 42 (.inr (2, [.ref (tv_ad c 2), .ref (tv_ad c 43), .ref (tv_ad c 44)]))) 0 (.inr (7, [.ref (tv_ad c 1), .ref (tv_ad c 2), .ref (tv_ad c 42), .null, .null, .int 0, .int 0]))) 47 (.inr (1, [.ref (tv_ad c 48), .int 0]))) 45 (.inr (3, [.ref (tv_ad c 2), .ref (tv_ad c 46), .ref (tv_ad c 47), .ref (tv_ad c 49), .ref (tv_ad c 50), .int 0, .int 0]))) 51 (.inr (4, [.ref (tv_ad c 2), .ref (tv_ad c 42), .int 0, .int 0, .int 0]))) 0 (.inr (7, [.ref (tv_ad c 1), .ref (tv_ad c 2), .ref (tv_ad c 42), .ref (tv_ad c 45), .ref (tv_ad c 51), .int 0, .int 0]))) 52 (.inr (5, [.ref (tv_ad c 53), .int 0, .int 0, .int 0]))) 1 (.inl (tv_kk c 2, 4, .inr (.inr (.inr (.inr (fr c 52 1))))))) 54 (.inr (5, [.ref (tv_ad c 55), .int 0, .int 0, .int 0]))) 91 [(1, .int 1), (0, .ref (tv_ad c 0))] [.ref (tv_ad c 54), .int 1, .ref (tv_ad c 1)]
  refine tg_aast (f := fr c 52 1) (r := (RX5, TX5, 4)) (vs := [.ref (tv_ad c 55), .int 0, .int 0, .int 0]) (E' := (va_up (va_up (va_up (va_up (va_up (va_up (va_up (va_up (va_up (eW c (.inr (7, [.ref (tv_ad c 1), .null, .null, .null, .null, .int 0, .int 0]))) 42 (.inr (2, [.ref (tv_ad c 2), .ref (tv_ad c 43), .ref (tv_ad c 44)]))) 0 (.inr (7, [.ref (tv_ad c 1), .ref (tv_ad c 2), .ref (tv_ad c 42), .null, .null, .int 0, .int 0]))) 47 (.inr (1, [.ref (tv_ad c 48), .int 0]))) 45 (.inr (3, [.ref (tv_ad c 2), .ref (tv_ad c 46), .ref (tv_ad c 47), .ref (tv_ad c 49), .ref (tv_ad c 50), .int 0, .int 0]))) 51 (.inr (4, [.ref (tv_ad c 2), .ref (tv_ad c 42), .int 0, .int 0, .int 0]))) 0 (.inr (7, [.ref (tv_ad c 1), .ref (tv_ad c 2), .ref (tv_ad c 42), .ref (tv_ad c 45), .ref (tv_ad c 51), .int 0, .int 0]))) 52 (.inr (5, [.ref (tv_ad c 53), .int 0, .int 0, .int 0]))) 54 (.inr (5, [.ref (tv_ad c 55), .int 0, .int 0, .int 0]))) 1 (.inl (tv_kk c 2, 4, .inr (.inr (.inr (.inr (fr c 52 2)))))))) C 1 (by decide) rfl 2 rfl (52 + 2 * 1) (by decide) rfl rfl 1 rfl (by decide) (by decide) (by rw [fr_s]; exact va_up_ov) dX7_init_91 ?_
  refine tg_iinc (v := 2) (lv' := [(1, .int 2), (0, .ref (tv_ad c 0))]) C dX7_init_92 0 rfl (by decide) (by decide) rfl ?_
  refine tg_goto C 74 dX7_init_95 (by decide) ?_
  refine tg_iload_n C dX7_init_74 rfl 0 rfl ?_
  refine tg_iconst (v := 4) C dX7_init_75 (by decide) ?_
  refine tg_icmp_ge C 98 dX7_init_76 (by decide) (fun q => absurd q (by decide)) (fun _ => ?_)
  refine tg_aload_n C dX7_init_79 rfl 1 rfl ?_
  refine tg_get (ci := 7) (fs := [.ref (tv_ad c 1), .ref (tv_ad c 2), .ref (tv_ad c 42), .ref (tv_ad c 45), .ref (tv_ad c 51), .int 0, .int 0]) (Cn := RX7) (T := TX7) (Nf := 7) (v := .ref (tv_ad c 1)) C 0 (by decide) rfl rfl in_X7_init_X7 0 (by decide) lk_X7_init_13 rfl dX7_init_80 ?_
  refine tg_iload_n C dX7_init_83 rfl 0 rfl ?_
  refine tg_new (ci := 5) (fs := [.null, .int 0, .int 0, .int 0]) (Cn := RX5) (T := TX5) (Nf := 4) C rfl in_X7_init_X5 tyX5 tyX5_ok wi_X7_init_cl11 wi_X7_init_insX5 wi_X7_init_iniX5 dfX5 rfl (Nat.le_of_ble_eq_true rfl) (Nat.le_of_ble_eq_true rfl) dX7_init_84 ?_
  show tg_V c X 56 559 57 (va_up (va_up (va_up (va_up (va_up (va_up (va_up (va_up (va_up (eW c (.inr (7, [.ref (tv_ad c 1), .null, .null, .null, .null, .int 0, .int 0]))) 42 (.inr (2, [.ref (tv_ad c 2), .ref (tv_ad c 43), .ref (tv_ad c 44)]))) 0 (.inr (7, [.ref (tv_ad c 1), .ref (tv_ad c 2), .ref (tv_ad c 42), .null, .null, .int 0, .int 0]))) 47 (.inr (1, [.ref (tv_ad c 48), .int 0]))) 45 (.inr (3, [.ref (tv_ad c 2), .ref (tv_ad c 46), .ref (tv_ad c 47), .ref (tv_ad c 49), .ref (tv_ad c 50), .int 0, .int 0]))) 51 (.inr (4, [.ref (tv_ad c 2), .ref (tv_ad c 42), .int 0, .int 0, .int 0]))) 0 (.inr (7, [.ref (tv_ad c 1), .ref (tv_ad c 2), .ref (tv_ad c 42), .ref (tv_ad c 45), .ref (tv_ad c 51), .int 0, .int 0]))) 52 (.inr (5, [.ref (tv_ad c 53), .int 0, .int 0, .int 0]))) 54 (.inr (5, [.ref (tv_ad c 55), .int 0, .int 0, .int 0]))) 1 (.inl (tv_kk c 2, 4, .inr (.inr (.inr (.inr (fr c 52 2))))))) 87 [(1, .int 2), (0, .ref (tv_ad c 0))] [.ref (tv_ad c 56), .int 2, .ref (tv_ad c 1)]
  refine tg_dup C dX7_init_87 rfl ?_
  refine tg_callN (host := RX7) (As := []) (rest := [.ref (tv_ad c 56), .int 2, .ref (tv_ad c 1)]) C (kX5_init c (va_up (va_up (va_up (va_up (va_up (va_up (va_up (va_up (va_up (eW c (.inr (7, [.ref (tv_ad c 1), .null, .null, .null, .null, .int 0, .int 0]))) 42 (.inr (2, [.ref (tv_ad c 2), .ref (tv_ad c 43), .ref (tv_ad c 44)]))) 0 (.inr (7, [.ref (tv_ad c 1), .ref (tv_ad c 2), .ref (tv_ad c 42), .null, .null, .int 0, .int 0]))) 47 (.inr (1, [.ref (tv_ad c 48), .int 0]))) 45 (.inr (3, [.ref (tv_ad c 2), .ref (tv_ad c 46), .ref (tv_ad c 47), .ref (tv_ad c 49), .ref (tv_ad c 50), .int 0, .int 0]))) 51 (.inr (4, [.ref (tv_ad c 2), .ref (tv_ad c 42), .int 0, .int 0, .int 0]))) 0 (.inr (7, [.ref (tv_ad c 1), .ref (tv_ad c 2), .ref (tv_ad c 42), .ref (tv_ad c 45), .ref (tv_ad c 51), .int 0, .int 0]))) 52 (.inr (5, [.ref (tv_ad c 53), .int 0, .int 0, .int 0]))) 54 (.inr (5, [.ref (tv_ad c 55), .int 0, .int 0, .int 0]))) 1 (.inl (tv_kk c 2, 4, .inr (.inr (.inr (.inr (fr c 52 2))))))) 57 56  (by decide) rfl rfl) ggX7_init_X5_init rfl wi_X7_init_ini_X5_init (fun q => q.2.2.2.2.1) wi_X7_init_im_X5_init rfl yi_X5_init ⟨rfl, rfl⟩ ⟨(Nat.le_of_ble_eq_true rfl), (Nat.le_of_ble_eq_true rfl)⟩ ⟨(Nat.le_of_ble_eq_true rfl), (Nat.le_of_ble_eq_true rfl)⟩ rfl rfl (Nat.le_of_ble_eq_true rfl) dX7_init_88 ?_
  show tg_V c X 57 599 58 (va_up (va_up (va_up (va_up (va_up (va_up (va_up (va_up (va_up (va_up (eW c (.inr (7, [.ref (tv_ad c 1), .null, .null, .null, .null, .int 0, .int 0]))) 42 (.inr (2, [.ref (tv_ad c 2), .ref (tv_ad c 43), .ref (tv_ad c 44)]))) 0 (.inr (7, [.ref (tv_ad c 1), .ref (tv_ad c 2), .ref (tv_ad c 42), .null, .null, .int 0, .int 0]))) 47 (.inr (1, [.ref (tv_ad c 48), .int 0]))) 45 (.inr (3, [.ref (tv_ad c 2), .ref (tv_ad c 46), .ref (tv_ad c 47), .ref (tv_ad c 49), .ref (tv_ad c 50), .int 0, .int 0]))) 51 (.inr (4, [.ref (tv_ad c 2), .ref (tv_ad c 42), .int 0, .int 0, .int 0]))) 0 (.inr (7, [.ref (tv_ad c 1), .ref (tv_ad c 2), .ref (tv_ad c 42), .ref (tv_ad c 45), .ref (tv_ad c 51), .int 0, .int 0]))) 52 (.inr (5, [.ref (tv_ad c 53), .int 0, .int 0, .int 0]))) 54 (.inr (5, [.ref (tv_ad c 55), .int 0, .int 0, .int 0]))) 1 (.inl (tv_kk c 2, 4, .inr (.inr (.inr (.inr (fr c 52 2))))))) 56 (.inr (5, [.ref (tv_ad c 57), .int 0, .int 0, .int 0]))) 91 [(1, .int 2), (0, .ref (tv_ad c 0))] [.ref (tv_ad c 56), .int 2, .ref (tv_ad c 1)]
  refine tg_aast (f := fr c 52 2) (r := (RX5, TX5, 4)) (vs := [.ref (tv_ad c 57), .int 0, .int 0, .int 0]) (E' := (va_up (va_up (va_up (va_up (va_up (va_up (va_up (va_up (va_up (va_up (eW c (.inr (7, [.ref (tv_ad c 1), .null, .null, .null, .null, .int 0, .int 0]))) 42 (.inr (2, [.ref (tv_ad c 2), .ref (tv_ad c 43), .ref (tv_ad c 44)]))) 0 (.inr (7, [.ref (tv_ad c 1), .ref (tv_ad c 2), .ref (tv_ad c 42), .null, .null, .int 0, .int 0]))) 47 (.inr (1, [.ref (tv_ad c 48), .int 0]))) 45 (.inr (3, [.ref (tv_ad c 2), .ref (tv_ad c 46), .ref (tv_ad c 47), .ref (tv_ad c 49), .ref (tv_ad c 50), .int 0, .int 0]))) 51 (.inr (4, [.ref (tv_ad c 2), .ref (tv_ad c 42), .int 0, .int 0, .int 0]))) 0 (.inr (7, [.ref (tv_ad c 1), .ref (tv_ad c 2), .ref (tv_ad c 42), .ref (tv_ad c 45), .ref (tv_ad c 51), .int 0, .int 0]))) 52 (.inr (5, [.ref (tv_ad c 53), .int 0, .int 0, .int 0]))) 54 (.inr (5, [.ref (tv_ad c 55), .int 0, .int 0, .int 0]))) 56 (.inr (5, [.ref (tv_ad c 57), .int 0, .int 0, .int 0]))) 1 (.inl (tv_kk c 2, 4, .inr (.inr (.inr (.inr (fr c 52 3)))))))) C 1 (by decide) rfl 2 rfl (52 + 2 * 2) (by decide) rfl rfl 2 rfl (by decide) (by decide) (by rw [fr_s]; exact va_up_ov) dX7_init_91 ?_
  refine tg_iinc (v := 3) (lv' := [(1, .int 3), (0, .ref (tv_ad c 0))]) C dX7_init_92 0 rfl (by decide) (by decide) rfl ?_
  refine tg_goto C 74 dX7_init_95 (by decide) ?_
  refine tg_iload_n C dX7_init_74 rfl 0 rfl ?_
  refine tg_iconst (v := 4) C dX7_init_75 (by decide) ?_
  refine tg_icmp_ge C 98 dX7_init_76 (by decide) (fun q => absurd q (by decide)) (fun _ => ?_)
  refine tg_aload_n C dX7_init_79 rfl 1 rfl ?_
  refine tg_get (ci := 7) (fs := [.ref (tv_ad c 1), .ref (tv_ad c 2), .ref (tv_ad c 42), .ref (tv_ad c 45), .ref (tv_ad c 51), .int 0, .int 0]) (Cn := RX7) (T := TX7) (Nf := 7) (v := .ref (tv_ad c 1)) C 0 (by decide) rfl rfl in_X7_init_X7 0 (by decide) lk_X7_init_13 rfl dX7_init_80 ?_
  refine tg_iload_n C dX7_init_83 rfl 0 rfl ?_
  refine tg_new (ci := 5) (fs := [.null, .int 0, .int 0, .int 0]) (Cn := RX5) (T := TX5) (Nf := 4) C rfl in_X7_init_X5 tyX5 tyX5_ok wi_X7_init_cl11 wi_X7_init_insX5 wi_X7_init_iniX5 dfX5 rfl (Nat.le_of_ble_eq_true rfl) (Nat.le_of_ble_eq_true rfl) dX7_init_84 ?_
  show tg_V c X 58 603 59 (va_up (va_up (va_up (va_up (va_up (va_up (va_up (va_up (va_up (va_up (eW c (.inr (7, [.ref (tv_ad c 1), .null, .null, .null, .null, .int 0, .int 0]))) 42 (.inr (2, [.ref (tv_ad c 2), .ref (tv_ad c 43), .ref (tv_ad c 44)]))) 0 (.inr (7, [.ref (tv_ad c 1), .ref (tv_ad c 2), .ref (tv_ad c 42), .null, .null, .int 0, .int 0]))) 47 (.inr (1, [.ref (tv_ad c 48), .int 0]))) 45 (.inr (3, [.ref (tv_ad c 2), .ref (tv_ad c 46), .ref (tv_ad c 47), .ref (tv_ad c 49), .ref (tv_ad c 50), .int 0, .int 0]))) 51 (.inr (4, [.ref (tv_ad c 2), .ref (tv_ad c 42), .int 0, .int 0, .int 0]))) 0 (.inr (7, [.ref (tv_ad c 1), .ref (tv_ad c 2), .ref (tv_ad c 42), .ref (tv_ad c 45), .ref (tv_ad c 51), .int 0, .int 0]))) 52 (.inr (5, [.ref (tv_ad c 53), .int 0, .int 0, .int 0]))) 54 (.inr (5, [.ref (tv_ad c 55), .int 0, .int 0, .int 0]))) 56 (.inr (5, [.ref (tv_ad c 57), .int 0, .int 0, .int 0]))) 1 (.inl (tv_kk c 2, 4, .inr (.inr (.inr (.inr (fr c 52 3))))))) 87 [(1, .int 3), (0, .ref (tv_ad c 0))] [.ref (tv_ad c 58), .int 3, .ref (tv_ad c 1)]
  refine tg_dup C dX7_init_87 rfl ?_
  refine tg_callN (host := RX7) (As := []) (rest := [.ref (tv_ad c 58), .int 3, .ref (tv_ad c 1)]) C (kX5_init c (va_up (va_up (va_up (va_up (va_up (va_up (va_up (va_up (va_up (va_up (eW c (.inr (7, [.ref (tv_ad c 1), .null, .null, .null, .null, .int 0, .int 0]))) 42 (.inr (2, [.ref (tv_ad c 2), .ref (tv_ad c 43), .ref (tv_ad c 44)]))) 0 (.inr (7, [.ref (tv_ad c 1), .ref (tv_ad c 2), .ref (tv_ad c 42), .null, .null, .int 0, .int 0]))) 47 (.inr (1, [.ref (tv_ad c 48), .int 0]))) 45 (.inr (3, [.ref (tv_ad c 2), .ref (tv_ad c 46), .ref (tv_ad c 47), .ref (tv_ad c 49), .ref (tv_ad c 50), .int 0, .int 0]))) 51 (.inr (4, [.ref (tv_ad c 2), .ref (tv_ad c 42), .int 0, .int 0, .int 0]))) 0 (.inr (7, [.ref (tv_ad c 1), .ref (tv_ad c 2), .ref (tv_ad c 42), .ref (tv_ad c 45), .ref (tv_ad c 51), .int 0, .int 0]))) 52 (.inr (5, [.ref (tv_ad c 53), .int 0, .int 0, .int 0]))) 54 (.inr (5, [.ref (tv_ad c 55), .int 0, .int 0, .int 0]))) 56 (.inr (5, [.ref (tv_ad c 57), .int 0, .int 0, .int 0]))) 1 (.inl (tv_kk c 2, 4, .inr (.inr (.inr (.inr (fr c 52 3))))))) 59 58  (by decide) rfl rfl) ggX7_init_X5_init rfl wi_X7_init_ini_X5_init (fun q => q.2.2.2.2.1) wi_X7_init_im_X5_init rfl yi_X5_init ⟨rfl, rfl⟩ ⟨(Nat.le_of_ble_eq_true rfl), (Nat.le_of_ble_eq_true rfl)⟩ ⟨(Nat.le_of_ble_eq_true rfl), (Nat.le_of_ble_eq_true rfl)⟩ rfl rfl (Nat.le_of_ble_eq_true rfl) dX7_init_88 ?_
  show tg_V c X 59 643 60 (va_up (va_up (va_up (va_up (va_up (va_up (va_up (va_up (va_up (va_up (va_up (eW c (.inr (7, [.ref (tv_ad c 1), .null, .null, .null, .null, .int 0, .int 0]))) 42 (.inr (2, [.ref (tv_ad c 2), .ref (tv_ad c 43), .ref (tv_ad c 44)]))) 0 (.inr (7, [.ref (tv_ad c 1), .ref (tv_ad c 2), .ref (tv_ad c 42), .null, .null, .int 0, .int 0]))) 47 (.inr (1, [.ref (tv_ad c 48), .int 0]))) 45 (.inr (3, [.ref (tv_ad c 2), .ref (tv_ad c 46), .ref (tv_ad c 47), .ref (tv_ad c 49), .ref (tv_ad c 50), .int 0, .int 0]))) 51 (.inr (4, [.ref (tv_ad c 2), .ref (tv_ad c 42), .int 0, .int 0, .int 0]))) 0 (.inr (7, [.ref (tv_ad c 1), .ref (tv_ad c 2), .ref (tv_ad c 42), .ref (tv_ad c 45), .ref (tv_ad c 51), .int 0, .int 0]))) 52 (.inr (5, [.ref (tv_ad c 53), .int 0, .int 0, .int 0]))) 54 (.inr (5, [.ref (tv_ad c 55), .int 0, .int 0, .int 0]))) 56 (.inr (5, [.ref (tv_ad c 57), .int 0, .int 0, .int 0]))) 1 (.inl (tv_kk c 2, 4, .inr (.inr (.inr (.inr (fr c 52 3))))))) 58 (.inr (5, [.ref (tv_ad c 59), .int 0, .int 0, .int 0]))) 91 [(1, .int 3), (0, .ref (tv_ad c 0))] [.ref (tv_ad c 58), .int 3, .ref (tv_ad c 1)]
  refine tg_aast (f := fr c 52 3) (r := (RX5, TX5, 4)) (vs := [.ref (tv_ad c 59), .int 0, .int 0, .int 0]) (E' := (va_up (va_up (va_up (va_up (va_up (va_up (va_up (va_up (va_up (va_up (va_up (eW c (.inr (7, [.ref (tv_ad c 1), .null, .null, .null, .null, .int 0, .int 0]))) 42 (.inr (2, [.ref (tv_ad c 2), .ref (tv_ad c 43), .ref (tv_ad c 44)]))) 0 (.inr (7, [.ref (tv_ad c 1), .ref (tv_ad c 2), .ref (tv_ad c 42), .null, .null, .int 0, .int 0]))) 47 (.inr (1, [.ref (tv_ad c 48), .int 0]))) 45 (.inr (3, [.ref (tv_ad c 2), .ref (tv_ad c 46), .ref (tv_ad c 47), .ref (tv_ad c 49), .ref (tv_ad c 50), .int 0, .int 0]))) 51 (.inr (4, [.ref (tv_ad c 2), .ref (tv_ad c 42), .int 0, .int 0, .int 0]))) 0 (.inr (7, [.ref (tv_ad c 1), .ref (tv_ad c 2), .ref (tv_ad c 42), .ref (tv_ad c 45), .ref (tv_ad c 51), .int 0, .int 0]))) 52 (.inr (5, [.ref (tv_ad c 53), .int 0, .int 0, .int 0]))) 54 (.inr (5, [.ref (tv_ad c 55), .int 0, .int 0, .int 0]))) 56 (.inr (5, [.ref (tv_ad c 57), .int 0, .int 0, .int 0]))) 58 (.inr (5, [.ref (tv_ad c 59), .int 0, .int 0, .int 0]))) 1 (.inl (tv_kk c 2, 4, .inr (.inr (.inr (.inr (fr c 52 4)))))))) C 1 (by decide) rfl 2 rfl (52 + 2 * 3) (by decide) rfl rfl 3 rfl (by decide) (by decide) (by rw [fr_s]; exact va_up_ov) dX7_init_91 ?_
  refine tg_iinc (v := 4) (lv' := [(1, .int 4), (0, .ref (tv_ad c 0))]) C dX7_init_92 0 rfl (by decide) (by decide) rfl ?_
  refine tg_goto C 74 dX7_init_95 (by decide) ?_
  refine tg_iload_n C dX7_init_74 rfl 0 rfl ?_
  refine tg_iconst (v := 4) C dX7_init_75 (by decide) ?_
  refine tg_icmp_ge C 98 dX7_init_76 (by decide) (fun _ => ?_) (fun q => absurd (by decide) q)
  exact hR _ _ dX7_init_98
