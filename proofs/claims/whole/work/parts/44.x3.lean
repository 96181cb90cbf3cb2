theorem iv_c40 {s : ts_T} {ny j : Nat} (hy : ny ≤ 40) (h : iv_c s ny j) : iv_c s 40 j := ⟨h.1, h.2.1, h.2.2.1.mono (by omega), h.2.2.2.1.mono hy, h.2.2.2.2⟩
set_option maxRecDepth 20000 in
theorem in_X5_begin_X5 : ∀ w ∈ u_ws RX5 TX5 4, w ∈ wsX5_begin := by decide +kernel
set_option maxRecDepth 20000 in
theorem lk_X5_begin_15 : Cond.fieldLink RX5 15 (TX5 1).1 (TX5 1).2.1 (TX5 1).2.2.1 ∈ wsX5_begin := by decide +kernel
set_option maxRecDepth 20000 in
theorem lk_X5_begin_19 : Cond.fieldLink RX5 19 (TX5 2).1 (TX5 2).2.1 (TX5 2).2.2.1 ∈ wsX5_begin := by decide +kernel
set_option maxRecDepth 20000 in
theorem lk_X5_begin_23 : Cond.fieldLink RX5 23 (TX5 3).1 (TX5 3).2.1 (TX5 3).2.2.1 ∈ wsX5_begin := by decide +kernel
set_option maxRecDepth 20000 in
theorem lk_X5_begin_9 : Cond.fieldLink RX5 9 (TX5 0).1 (TX5 0).2.1 (TX5 0).2.2.1 ∈ wsX5_begin := by decide +kernel
theorem yd_J7_fill_53178 : yJ7_fill_53178.cls ≠ "java/lang/invoke/MethodHandle" ∧ yJ7_fill_53178.cls ≠ "java/lang/invoke/VarHandle" ∧ (parseMethodDescriptor yJ7_fill_53178.desc).map (fun d => d.parameters.length) = some 2 := by decide +kernel
set_option maxRecDepth 20000 in
theorem in_X5_cut_X5 : ∀ w ∈ u_ws RX5 TX5 4, w ∈ wsX5_cut := by decide +kernel
set_option maxRecDepth 20000 in
theorem lk_X5_cut_19 : Cond.fieldLink RX5 19 (TX5 2).1 (TX5 2).2.1 (TX5 2).2.2.1 ∈ wsX5_cut := by decide +kernel
set_option maxRecDepth 20000 in
theorem in_X5_reaches_X5 : ∀ w ∈ u_ws RX5 TX5 4, w ∈ wsX5_reaches := by decide +kernel
set_option maxRecDepth 20000 in
theorem lk_X5_reaches_23 : Cond.fieldLink RX5 23 (TX5 3).1 (TX5 3).2.1 (TX5 3).2.2.1 ∈ wsX5_reaches := by decide +kernel
set_option maxRecDepth 20000 in
theorem in_X5_faultAs_X5 : ∀ w ∈ u_ws RX5 TX5 4, w ∈ wsX5_faultAs := by decide +kernel
set_option maxRecDepth 20000 in
theorem lk_X5_faultAs_15 : Cond.fieldLink RX5 15 (TX5 1).1 (TX5 1).2.1 (TX5 1).2.2.1 ∈ wsX5_faultAs := by decide +kernel
set_option maxRecDepth 20000 in
theorem lk_X5_faultAs_19 : Cond.fieldLink RX5 19 (TX5 2).1 (TX5 2).2.1 (TX5 2).2.2.1 ∈ wsX5_faultAs := by decide +kernel
theorem yd_X5_faultAs : yX5_faultAs.cls = RX5 ∧ yX5_faultAs.cls ≠ "java/lang/invoke/MethodHandle" ∧ yX5_faultAs.cls ≠ "java/lang/invoke/VarHandle" ∧ (parseMethodDescriptor yX5_faultAs.desc).map (fun d => d.parameters.length) = some 1 := by decide +kernel
theorem yd_X5_reaches : yX5_reaches.cls = RX5 ∧ yX5_reaches.cls ≠ "java/lang/invoke/MethodHandle" ∧ yX5_reaches.cls ≠ "java/lang/invoke/VarHandle" ∧ (parseMethodDescriptor yX5_reaches.desc).map (fun d => d.parameters.length) = some 2 := by decide +kernel
theorem yd_X7_mark : yX7_mark.cls = RX7 ∧ yX7_mark.cls ≠ "java/lang/invoke/MethodHandle" ∧ yX7_mark.cls ≠ "java/lang/invoke/VarHandle" ∧ (parseMethodDescriptor yX7_mark.desc).map (fun d => d.parameters.length) = some 1 := by decide +kernel
set_option maxRecDepth 20000 in
theorem in_X7_tellPlain_X1 : ∀ w ∈ u_ws RX1 TX1 2, w ∈ wsX7_tellPlain := by decide +kernel
set_option maxRecDepth 20000 in
theorem lk_X7_tellPlain_155 : Cond.fieldLink RX7 155 (TX1 0).1 (TX1 0).2.1 (TX1 0).2.2.1 ∈ wsX7_tellPlain := by decide +kernel
theorem yd_X7_tellPlain : yX7_tellPlain.cls = RX7 ∧ yX7_tellPlain.cls ≠ "java/lang/invoke/MethodHandle" ∧ yX7_tellPlain.cls ≠ "java/lang/invoke/VarHandle" ∧ (parseMethodDescriptor yX7_tellPlain.desc).map (fun d => d.parameters.length) = some 1 := by decide +kernel
theorem yd_X7_tellShiny : yX7_tellShiny.cls = RX7 ∧ yX7_tellShiny.cls ≠ "java/lang/invoke/MethodHandle" ∧ yX7_tellShiny.cls ≠ "java/lang/invoke/VarHandle" ∧ (parseMethodDescriptor yX7_tellShiny.desc).map (fun d => d.parameters.length) = some 1 := by decide +kernel
set_option maxRecDepth 20000 in
theorem in_X7_tell_X7 : ∀ w ∈ u_ws RX7 TX7 7, w ∈ wsX7_tell := by decide +kernel
set_option maxRecDepth 20000 in
theorem lk_X7_tell_20 : Cond.fieldLink RX7 20 (TX7 1).1 (TX7 1).2.1 (TX7 1).2.2.1 ∈ wsX7_tell := by decide +kernel
theorem yd_X6_hasCoat : yX6_hasCoat.cls = RX6 ∧ yX6_hasCoat.cls ≠ "java/lang/invoke/MethodHandle" ∧ yX6_hasCoat.cls ≠ "java/lang/invoke/VarHandle" ∧ (parseMethodDescriptor yX6_hasCoat.desc).map (fun d => d.parameters.length) = some 1 := by decide +kernel
set_option maxRecDepth 20000 in
theorem in_X7_tell_X6 : ∀ w ∈ u_ws RX6 TX6 11, w ∈ wsX7_tell := by decide +kernel
set_option maxRecDepth 20000 in
theorem lk_X7_tell_146 : Cond.fieldLink RX7 146 (TX6 1).1 (TX6 1).2.1 (TX6 1).2.2.1 ∈ wsX7_tell := by decide +kernel
set_option maxRecDepth 20000 in
theorem in_X7_tell_X1 : ∀ w ∈ u_ws RX1 TX1 2, w ∈ wsX7_tell := by decide +kernel
set_option maxRecDepth 20000 in
theorem lk_X7_tell_150 : Cond.fieldLink RX7 150 (TX1 1).1 (TX1 1).2.1 (TX1 1).2.2.1 ∈ wsX7_tell := by decide +kernel
theorem yd_X7_tellFast : yX7_tellFast.cls = RX7 ∧ yX7_tellFast.cls ≠ "java/lang/invoke/MethodHandle" ∧ yX7_tellFast.cls ≠ "java/lang/invoke/VarHandle" ∧ (parseMethodDescriptor yX7_tellFast.desc).map (fun d => d.parameters.length) = some 1 := by decide +kernel
set_option maxRecDepth 20000 in
theorem in_X7_name_X7 : ∀ w ∈ u_ws RX7 TX7 7, w ∈ wsX7_name := by decide +kernel
set_option maxRecDepth 20000 in
theorem lk_X7_name_20 : Cond.fieldLink RX7 20 (TX7 1).1 (TX7 1).2.1 (TX7 1).2.2.1 ∈ wsX7_name := by decide +kernel
set_option maxRecDepth 20000 in
theorem in_X7_name_X6 : ∀ w ∈ u_ws RX6 TX6 11, w ∈ wsX7_name := by decide +kernel
set_option maxRecDepth 20000 in
theorem lk_X7_name_146 : Cond.fieldLink RX7 146 (TX6 1).1 (TX6 1).2.1 (TX6 1).2.2.1 ∈ wsX7_name := by decide +kernel
set_option maxRecDepth 20000 in
theorem in_X7_name_X1 : ∀ w ∈ u_ws RX1 TX1 2, w ∈ wsX7_name := by decide +kernel
set_option maxRecDepth 20000 in
theorem lk_X7_name_150 : Cond.fieldLink RX7 150 (TX1 1).1 (TX1 1).2.1 (TX1 1).2.2.1 ∈ wsX7_name := by decide +kernel
set_option maxRecDepth 20000 in
theorem in_X7_as_X7 : ∀ w ∈ u_ws RX7 TX7 7, w ∈ wsX7_as := by decide +kernel
set_option maxRecDepth 20000 in
theorem lk_X7_as_50 : Cond.fieldLink RX7 50 (TX7 6).1 (TX7 6).2.1 (TX7 6).2.2.1 ∈ wsX7_as := by decide +kernel
set_option maxRecDepth 20000 in
theorem lk_X7_as_20 : Cond.fieldLink RX7 20 (TX7 1).1 (TX7 1).2.1 (TX7 1).2.2.1 ∈ wsX7_as := by decide +kernel
theorem yd_X7_isKind : yX7_isKind.cls = RX7 ∧ yX7_isKind.cls ≠ "java/lang/invoke/MethodHandle" ∧ yX7_isKind.cls ≠ "java/lang/invoke/VarHandle" ∧ (parseMethodDescriptor yX7_isKind.desc).map (fun d => d.parameters.length) = some 1 := by decide +kernel
set_option maxRecDepth 20000 in
theorem in_X7_as_X6 : ∀ w ∈ u_ws RX6 TX6 11, w ∈ wsX7_as := by decide +kernel
set_option maxRecDepth 20000 in
theorem lk_X7_as_146 : Cond.fieldLink RX7 146 (TX6 1).1 (TX6 1).2.1 (TX6 1).2.2.1 ∈ wsX7_as := by decide +kernel
set_option maxRecDepth 20000 in
theorem in_X7_as_X1 : ∀ w ∈ u_ws RX1 TX1 2, w ∈ wsX7_as := by decide +kernel
set_option maxRecDepth 20000 in
theorem lk_X7_as_150 : Cond.fieldLink RX7 150 (TX1 1).1 (TX1 1).2.1 (TX1 1).2.2.1 ∈ wsX7_as := by decide +kernel
theorem yd_X7_failed : yX7_failed.cls = RX7 ∧ yX7_failed.cls ≠ "java/lang/invoke/MethodHandle" ∧ yX7_failed.cls ≠ "java/lang/invoke/VarHandle" ∧ (parseMethodDescriptor yX7_failed.desc).map (fun d => d.parameters.length) = some 1 := by decide +kernel
set_option maxRecDepth 20000 in
theorem in_X7_many_X7 : ∀ w ∈ u_ws RX7 TX7 7, w ∈ wsX7_many := by decide +kernel
set_option maxRecDepth 20000 in
theorem lk_X7_many_20 : Cond.fieldLink RX7 20 (TX7 1).1 (TX7 1).2.1 (TX7 1).2.2.1 ∈ wsX7_many := by decide +kernel
set_option maxRecDepth 20000 in
theorem in_X7_many_X6 : ∀ w ∈ u_ws RX6 TX6 11, w ∈ wsX7_many := by decide +kernel
set_option maxRecDepth 20000 in
theorem lk_X7_many_80 : Cond.fieldLink RX7 80 (TX6 5).1 (TX6 5).2.1 (TX6 5).2.2.1 ∈ wsX7_many := by decide +kernel
set_option maxRecDepth 20000 in
theorem lk_X7_many_285 : Cond.fieldLink RX7 285 (TX6 4).1 (TX6 4).2.1 (TX6 4).2.2.1 ∈ wsX7_many := by decide +kernel
set_option maxRecDepth 20000 in
theorem lk_X7_many_136 : Cond.fieldLink RX7 136 (TX6 6).1 (TX6 6).2.1 (TX6 6).2.2.1 ∈ wsX7_many := by decide +kernel
set_option maxRecDepth 20000 in
theorem lk_X7_many_166 : Cond.fieldLink RX7 166 (TX6 7).1 (TX6 7).2.1 (TX6 7).2.2.1 ∈ wsX7_many := by decide +kernel
set_option maxRecDepth 20000 in
theorem lk_X7_many_122 : Cond.fieldLink RX7 122 (TX6 8).1 (TX6 8).2.1 (TX6 8).2.2.1 ∈ wsX7_many := by decide +kernel
set_option maxRecDepth 20000 in
theorem lk_X7_many_116 : Cond.fieldLink RX7 116 (TX6 9).1 (TX6 9).2.1 (TX6 9).2.2.1 ∈ wsX7_many := by decide +kernel
set_option maxRecDepth 20000 in
theorem lk_X7_many_119 : Cond.fieldLink RX7 119 (TX6 10).1 (TX6 10).2.1 (TX6 10).2.2.1 ∈ wsX7_many := by decide +kernel
set_option maxRecDepth 20000 in
theorem in_X7_ofCell_X7 : ∀ w ∈ u_ws RX7 TX7 7, w ∈ wsX7_ofCell := by decide +kernel
set_option maxRecDepth 20000 in
theorem lk_X7_ofCell_20 : Cond.fieldLink RX7 20 (TX7 1).1 (TX7 1).2.1 (TX7 1).2.2.1 ∈ wsX7_ofCell := by decide +kernel
theorem yd_X6_hasCell : yX6_hasCell.cls = RX6 ∧ yX6_hasCell.cls ≠ "java/lang/invoke/MethodHandle" ∧ yX6_hasCell.cls ≠ "java/lang/invoke/VarHandle" ∧ (parseMethodDescriptor yX6_hasCell.desc).map (fun d => d.parameters.length) = some 1 := by decide +kernel
set_option maxRecDepth 20000 in
theorem in_X7_ofCell_X6 : ∀ w ∈ u_ws RX6 TX6 11, w ∈ wsX7_ofCell := by decide +kernel
set_option maxRecDepth 20000 in
theorem lk_X7_ofCell_86 : Cond.fieldLink RX7 86 (TX6 0).1 (TX6 0).2.1 (TX6 0).2.2.1 ∈ wsX7_ofCell := by decide +kernel
set_option maxRecDepth 20000 in
theorem in_X7_ofCell_X0 : ∀ w ∈ u_ws RX0 TX0 5, w ∈ wsX7_ofCell := by decide +kernel
set_option maxRecDepth 20000 in
theorem lk_X7_ofCell_90 : Cond.fieldLink RX7 90 (TX0 0).1 (TX0 0).2.1 (TX0 0).2.2.1 ∈ wsX7_ofCell := by decide +kernel
set_option maxRecDepth 20000 in
theorem lk_X7_ofCell_95 : Cond.fieldLink RX7 95 (TX0 1).1 (TX0 1).2.1 (TX0 1).2.2.1 ∈ wsX7_ofCell := by decide +kernel
set_option maxRecDepth 20000 in
theorem lk_X7_ofCell_98 : Cond.fieldLink RX7 98 (TX0 2).1 (TX0 2).2.1 (TX0 2).2.2.1 ∈ wsX7_ofCell := by decide +kernel
set_option maxRecDepth 20000 in
theorem lk_X7_ofCell_101 : Cond.fieldLink RX7 101 (TX0 3).1 (TX0 3).2.1 (TX0 3).2.2.1 ∈ wsX7_ofCell := by decide +kernel
set_option maxRecDepth 20000 in
theorem lk_X7_ofCell_104 : Cond.fieldLink RX7 104 (TX0 4).1 (TX0 4).2.1 (TX0 4).2.2.1 ∈ wsX7_ofCell := by decide +kernel
set_option maxRecDepth 20000 in
theorem in_X7_set_X7 : ∀ w ∈ u_ws RX7 TX7 7, w ∈ wsX7_set := by decide +kernel
set_option maxRecDepth 20000 in
theorem lk_X7_set_20 : Cond.fieldLink RX7 20 (TX7 1).1 (TX7 1).2.1 (TX7 1).2.2.1 ∈ wsX7_set := by decide +kernel
theorem yd_X6_stands : yX6_stands.cls = RX6 ∧ yX6_stands.cls ≠ "java/lang/invoke/MethodHandle" ∧ yX6_stands.cls ≠ "java/lang/invoke/VarHandle" ∧ (parseMethodDescriptor yX6_stands.desc).map (fun d => d.parameters.length) = some 0 := by decide +kernel
set_option maxRecDepth 20000 in
theorem in_X7_set_X6 : ∀ w ∈ u_ws RX6 TX6 11, w ∈ wsX7_set := by decide +kernel
set_option maxRecDepth 20000 in
theorem lk_X7_set_119 : Cond.fieldLink RX7 119 (TX6 10).1 (TX6 10).2.1 (TX6 10).2.2.1 ∈ wsX7_set := by decide +kernel
set_option maxRecDepth 20000 in
theorem lk_X7_set_116 : Cond.fieldLink RX7 116 (TX6 9).1 (TX6 9).2.1 (TX6 9).2.2.1 ∈ wsX7_set := by decide +kernel
set_option maxRecDepth 20000 in
theorem in_X7_hang_X7 : ∀ w ∈ u_ws RX7 TX7 7, w ∈ wsX7_hang := by decide +kernel
set_option maxRecDepth 20000 in
theorem lk_X7_hang_20 : Cond.fieldLink RX7 20 (TX7 1).1 (TX7 1).2.1 (TX7 1).2.2.1 ∈ wsX7_hang := by decide +kernel
set_option maxRecDepth 20000 in
theorem in_X7_hang_X6 : ∀ w ∈ u_ws RX6 TX6 11, w ∈ wsX7_hang := by decide +kernel
set_option maxRecDepth 20000 in
theorem lk_X7_hang_86 : Cond.fieldLink RX7 86 (TX6 0).1 (TX6 0).2.1 (TX6 0).2.2.1 ∈ wsX7_hang := by decide +kernel
set_option maxRecDepth 20000 in
theorem in_X7_hang_X0 : ∀ w ∈ u_ws RX0 TX0 5, w ∈ wsX7_hang := by decide +kernel
set_option maxRecDepth 20000 in
theorem lk_X7_hang_104 : Cond.fieldLink RX7 104 (TX0 4).1 (TX0 4).2.1 (TX0 4).2.2.1 ∈ wsX7_hang := by decide +kernel
set_option maxRecDepth 20000 in
theorem in_X7_years_X7 : ∀ w ∈ u_ws RX7 TX7 7, w ∈ wsX7_years := by decide +kernel
set_option maxRecDepth 20000 in
theorem lk_X7_years_20 : Cond.fieldLink RX7 20 (TX7 1).1 (TX7 1).2.1 (TX7 1).2.2.1 ∈ wsX7_years := by decide +kernel
set_option maxRecDepth 20000 in
theorem in_X7_years_X6 : ∀ w ∈ u_ws RX6 TX6 11, w ∈ wsX7_years := by decide +kernel
set_option maxRecDepth 20000 in
theorem lk_X7_years_122 : Cond.fieldLink RX7 122 (TX6 8).1 (TX6 8).2.1 (TX6 8).2.2.1 ∈ wsX7_years := by decide +kernel
theorem yd_X6_age : yX6_age.cls = RX6 ∧ yX6_age.cls ≠ "java/lang/invoke/MethodHandle" ∧ yX6_age.cls ≠ "java/lang/invoke/VarHandle" ∧ (parseMethodDescriptor yX6_age.desc).map (fun d => d.parameters.length) = some 1 := by decide +kernel
theorem yd_X7_areWithin : yX7_areWithin.cls = RX7 ∧ yX7_areWithin.cls ≠ "java/lang/invoke/MethodHandle" ∧ yX7_areWithin.cls ≠ "java/lang/invoke/VarHandle" ∧ (parseMethodDescriptor yX7_areWithin.desc).map (fun d => d.parameters.length) = some 4 := by decide +kernel
set_option maxRecDepth 20000 in
theorem in_X7_coat_X7 : ∀ w ∈ u_ws RX7 TX7 7, w ∈ wsX7_coat := by decide +kernel
set_option maxRecDepth 20000 in
theorem lk_X7_coat_20 : Cond.fieldLink RX7 20 (TX7 1).1 (TX7 1).2.1 (TX7 1).2.2.1 ∈ wsX7_coat := by decide +kernel
set_option maxRecDepth 20000 in
theorem in_X7_coat_X6 : ∀ w ∈ u_ws RX6 TX6 11, w ∈ wsX7_coat := by decide +kernel
set_option maxRecDepth 20000 in
theorem lk_X7_coat_136 : Cond.fieldLink RX7 136 (TX6 6).1 (TX6 6).2.1 (TX6 6).2.2.1 ∈ wsX7_coat := by decide +kernel
theorem yd_X6_addCoat : yX6_addCoat.cls = RX6 ∧ yX6_addCoat.cls ≠ "java/lang/invoke/MethodHandle" ∧ yX6_addCoat.cls ≠ "java/lang/invoke/VarHandle" ∧ (parseMethodDescriptor yX6_addCoat.desc).map (fun d => d.parameters.length) = some 4 := by decide +kernel
set_option maxRecDepth 20000 in
theorem in_X7_light_X7 : ∀ w ∈ u_ws RX7 TX7 7, w ∈ wsX7_light := by decide +kernel
set_option maxRecDepth 20000 in
theorem lk_X7_light_20 : Cond.fieldLink RX7 20 (TX7 1).1 (TX7 1).2.1 (TX7 1).2.2.1 ∈ wsX7_light := by decide +kernel
set_option maxRecDepth 20000 in
theorem in_X7_light_X6 : ∀ w ∈ u_ws RX6 TX6 11, w ∈ wsX7_light := by decide +kernel
set_option maxRecDepth 20000 in
theorem lk_X7_light_166 : Cond.fieldLink RX7 166 (TX6 7).1 (TX6 7).2.1 (TX6 7).2.2.1 ∈ wsX7_light := by decide +kernel
theorem yd_X6_addLight : yX6_addLight.cls = RX6 ∧ yX6_addLight.cls ≠ "java/lang/invoke/MethodHandle" ∧ yX6_addLight.cls ≠ "java/lang/invoke/VarHandle" ∧ (parseMethodDescriptor yX6_addLight.desc).map (fun d => d.parameters.length) = some 3 := by decide +kernel
set_option maxRecDepth 20000 in
theorem in_X7_ofCoat_X7 : ∀ w ∈ u_ws RX7 TX7 7, w ∈ wsX7_ofCoat := by decide +kernel
set_option maxRecDepth 20000 in
theorem lk_X7_ofCoat_20 : Cond.fieldLink RX7 20 (TX7 1).1 (TX7 1).2.1 (TX7 1).2.2.1 ∈ wsX7_ofCoat := by decide +kernel
set_option maxRecDepth 20000 in
theorem in_X7_ofCoat_X6 : ∀ w ∈ u_ws RX6 TX6 11, w ∈ wsX7_ofCoat := by decide +kernel
set_option maxRecDepth 20000 in
theorem lk_X7_ofCoat_146 : Cond.fieldLink RX7 146 (TX6 1).1 (TX6 1).2.1 (TX6 1).2.2.1 ∈ wsX7_ofCoat := by decide +kernel
set_option maxRecDepth 20000 in
theorem in_X7_ofCoat_X1 : ∀ w ∈ u_ws RX1 TX1 2, w ∈ wsX7_ofCoat := by decide +kernel
set_option maxRecDepth 20000 in
theorem lk_X7_ofCoat_155 : Cond.fieldLink RX7 155 (TX1 0).1 (TX1 0).2.1 (TX1 0).2.2.1 ∈ wsX7_ofCoat := by decide +kernel
set_option maxRecDepth 20000 in
theorem lk_X7_ofCoat_150 : Cond.fieldLink RX7 150 (TX1 1).1 (TX1 1).2.1 (TX1 1).2.2.1 ∈ wsX7_ofCoat := by decide +kernel
set_option maxRecDepth 20000 in
theorem in_X7_paint_X7 : ∀ w ∈ u_ws RX7 TX7 7, w ∈ wsX7_paint := by decide +kernel
set_option maxRecDepth 20000 in
theorem lk_X7_paint_20 : Cond.fieldLink RX7 20 (TX7 1).1 (TX7 1).2.1 (TX7 1).2.2.1 ∈ wsX7_paint := by decide +kernel
set_option maxRecDepth 20000 in
theorem in_X7_paint_X6 : ∀ w ∈ u_ws RX6 TX6 11, w ∈ wsX7_paint := by decide +kernel
set_option maxRecDepth 20000 in
theorem lk_X7_paint_86 : Cond.fieldLink RX7 86 (TX6 0).1 (TX6 0).2.1 (TX6 0).2.2.1 ∈ wsX7_paint := by decide +kernel
set_option maxRecDepth 20000 in
theorem in_X7_paint_X0 : ∀ w ∈ u_ws RX0 TX0 5, w ∈ wsX7_paint := by decide +kernel
set_option maxRecDepth 20000 in
theorem lk_X7_paint_95 : Cond.fieldLink RX7 95 (TX0 1).1 (TX0 1).2.1 (TX0 1).2.2.1 ∈ wsX7_paint := by decide +kernel
set_option maxRecDepth 20000 in
theorem in_X7_back_X7 : ∀ w ∈ u_ws RX7 TX7 7, w ∈ wsX7_back := by decide +kernel
set_option maxRecDepth 20000 in
theorem lk_X7_back_20 : Cond.fieldLink RX7 20 (TX7 1).1 (TX7 1).2.1 (TX7 1).2.2.1 ∈ wsX7_back := by decide +kernel
set_option maxRecDepth 20000 in
theorem in_X7_back_X6 : ∀ w ∈ u_ws RX6 TX6 11, w ∈ wsX7_back := by decide +kernel
set_option maxRecDepth 20000 in
theorem lk_X7_back_86 : Cond.fieldLink RX7 86 (TX6 0).1 (TX6 0).2.1 (TX6 0).2.2.1 ∈ wsX7_back := by decide +kernel
set_option maxRecDepth 20000 in
theorem lk_X7_back_146 : Cond.fieldLink RX7 146 (TX6 1).1 (TX6 1).2.1 (TX6 1).2.2.1 ∈ wsX7_back := by decide +kernel
set_option maxRecDepth 20000 in
theorem in_X7_back_X0 : ∀ w ∈ u_ws RX0 TX0 5, w ∈ wsX7_back := by decide +kernel
set_option maxRecDepth 20000 in
theorem lk_X7_back_95 : Cond.fieldLink RX7 95 (TX0 1).1 (TX0 1).2.1 (TX0 1).2.2.1 ∈ wsX7_back := by decide +kernel
set_option maxRecDepth 20000 in
theorem lk_X7_back_98 : Cond.fieldLink RX7 98 (TX0 2).1 (TX0 2).2.1 (TX0 2).2.2.1 ∈ wsX7_back := by decide +kernel
set_option maxRecDepth 20000 in
theorem lk_X7_back_101 : Cond.fieldLink RX7 101 (TX0 3).1 (TX0 3).2.1 (TX0 3).2.2.1 ∈ wsX7_back := by decide +kernel
set_option maxRecDepth 20000 in
theorem lk_X7_back_116 : Cond.fieldLink RX7 116 (TX6 9).1 (TX6 9).2.1 (TX6 9).2.2.1 ∈ wsX7_back := by decide +kernel
set_option maxRecDepth 20000 in
theorem in_X7_look_X7 : ∀ w ∈ u_ws RX7 TX7 7, w ∈ wsX7_look := by decide +kernel
set_option maxRecDepth 20000 in
theorem lk_X7_look_20 : Cond.fieldLink RX7 20 (TX7 1).1 (TX7 1).2.1 (TX7 1).2.2.1 ∈ wsX7_look := by decide +kernel
theorem yd_X6_hasLight : yX6_hasLight.cls = RX6 ∧ yX6_hasLight.cls ≠ "java/lang/invoke/MethodHandle" ∧ yX6_hasLight.cls ≠ "java/lang/invoke/VarHandle" ∧ (parseMethodDescriptor yX6_hasLight.desc).map (fun d => d.parameters.length) = some 1 := by decide +kernel
theorem yd_X6_lookOfCell : yX6_lookOfCell.cls = RX6 ∧ yX6_lookOfCell.cls ≠ "java/lang/invoke/MethodHandle" ∧ yX6_lookOfCell.cls ≠ "java/lang/invoke/VarHandle" ∧ (parseMethodDescriptor yX6_lookOfCell.desc).map (fun d => d.parameters.length) = some 3 := by decide +kernel
set_option maxRecDepth 20000 in
theorem in_X7_unlike_X7 : ∀ w ∈ u_ws RX7 TX7 7, w ∈ wsX7_unlike := by decide +kernel
set_option maxRecDepth 20000 in
theorem lk_X7_unlike_20 : Cond.fieldLink RX7 20 (TX7 1).1 (TX7 1).2.1 (TX7 1).2.2.1 ∈ wsX7_unlike := by decide +kernel
set_option maxRecDepth 20000 in
theorem wd_X7_unlike_m180 : Cond.methodLink RX7 180 Lib.Math.abs.name ∈ wsX7_unlike := by decide +kernel
set_option maxRecDepth 20000 in
theorem wd_X7_unlike_stabs : Cond.static Lib.Math.abs.name ∈ wsX7_unlike := by decide +kernel
set_option maxRecDepth 20000 in
theorem wd_X7_unlike_inim : Cond.initialized "java/lang/Math" ∈ wsX7_unlike := by decide +kernel
set_option maxRecDepth 20000 in
theorem wd_X7_unlike_cdabs : Cond.code Lib.Math.abs.name Lib.Math.abs.code 1 (some .int) ∈ wsX7_unlike := by decide +kernel
set_option maxRecDepth 20000 in
theorem in_X7_on_X7 : ∀ w ∈ u_ws RX7 TX7 7, w ∈ wsX7_on := by decide +kernel
set_option maxRecDepth 20000 in
theorem lk_X7_on_20 : Cond.fieldLink RX7 20 (TX7 1).1 (TX7 1).2.1 (TX7 1).2.2.1 ∈ wsX7_on := by decide +kernel
set_option maxRecDepth 20000 in
theorem in_X7_on_X6 : ∀ w ∈ u_ws RX6 TX6 11, w ∈ wsX7_on := by decide +kernel
set_option maxRecDepth 20000 in
theorem lk_X7_on_86 : Cond.fieldLink RX7 86 (TX6 0).1 (TX6 0).2.1 (TX6 0).2.2.1 ∈ wsX7_on := by decide +kernel
set_option maxRecDepth 20000 in
theorem in_X7_on_X0 : ∀ w ∈ u_ws RX0 TX0 5, w ∈ wsX7_on := by decide +kernel
set_option maxRecDepth 20000 in
theorem lk_X7_on_104 : Cond.fieldLink RX7 104 (TX0 4).1 (TX0 4).2.1 (TX0 4).2.2.1 ∈ wsX7_on := by decide +kernel
set_option maxRecDepth 20000 in
theorem lk_X7_on_146 : Cond.fieldLink RX7 146 (TX6 1).1 (TX6 1).2.1 (TX6 1).2.2.1 ∈ wsX7_on := by decide +kernel
set_option maxRecDepth 20000 in
theorem lk_X7_on_95 : Cond.fieldLink RX7 95 (TX0 1).1 (TX0 1).2.1 (TX0 1).2.2.1 ∈ wsX7_on := by decide +kernel
set_option maxRecDepth 20000 in
theorem lk_X7_on_98 : Cond.fieldLink RX7 98 (TX0 2).1 (TX0 2).2.1 (TX0 2).2.2.1 ∈ wsX7_on := by decide +kernel
set_option maxRecDepth 20000 in
theorem lk_X7_on_90 : Cond.fieldLink RX7 90 (TX0 0).1 (TX0 0).2.1 (TX0 0).2.2.1 ∈ wsX7_on := by decide +kernel
set_option maxRecDepth 20000 in
theorem lk_X7_on_101 : Cond.fieldLink RX7 101 (TX0 3).1 (TX0 3).2.1 (TX0 3).2.2.1 ∈ wsX7_on := by decide +kernel
theorem yd_X7_isSheet : yX7_isSheet.cls = RX7 ∧ yX7_isSheet.cls ≠ "java/lang/invoke/MethodHandle" ∧ yX7_isSheet.cls ≠ "java/lang/invoke/VarHandle" ∧ (parseMethodDescriptor yX7_isSheet.desc).map (fun d => d.parameters.length) = some 1 := by decide +kernel
set_option maxRecDepth 20000 in
theorem in_X7_lose_X7 : ∀ w ∈ u_ws RX7 TX7 7, w ∈ wsX7_lose := by decide +kernel
set_option maxRecDepth 20000 in
theorem lk_X7_lose_13 : Cond.fieldLink RX7 13 (TX7 0).1 (TX7 0).2.1 (TX7 0).2.2.1 ∈ wsX7_lose := by decide +kernel
set_option maxRecDepth 20000 in
theorem in_X7_lose_X5 : ∀ w ∈ u_ws RX5 TX5 4, w ∈ wsX7_lose := by decide +kernel
set_option maxRecDepth 20000 in
theorem lk_X7_lose_251 : Cond.fieldLink RX7 251 (TX5 1).1 (TX5 1).2.1 (TX5 1).2.2.1 ∈ wsX7_lose := by decide +kernel
set_option maxHeartbeats 4000000 in
set_option maxRecDepth 100000 in
theorem kJ7_fill_53178 (c : tv_c) (s r : ts_T) (k : Nat)  (p1 : Int32) (hk : k < 4) (h0 : p1 = 0) : tv_Fv c 60 yJ7_fill_53178 wsJ7_fill_53178 { frames := 0, cells := 0, slots := 0, locals := 0 } [.ref (tv_ad c (20 + k)), .int p1] (eX c s r) (eX c (ts_a s 21 (ts_row (s 21) k (fun _ => 0))) r) := by
  refine tv_metV (by decide +kernel) rfl rfl (Nat.le_of_ble_eq_true rfl) (fun X C hR => ?_)
  show tv_V c 60 X (eX c s r) 0 [(0, .ref (tv_ad c (20 + k))), (1, .int p1)] []
  refine tv_iconst (v := 0) C dJ7_fill_53178_0 (by decide) ?_
  refine tv_istore_n (lv' := [(2, .int 0), (0, .ref (tv_ad c (20 + k))), (1, .int p1)]) C dJ7_fill_53178_1 rfl (by decide) rfl ?_
  refine tv_aload_n C dJ7_fill_53178_2 rfl 1 rfl ?_
  refine tv_alen C (20 + k) (by omega) (eX_at_r c s r (by omega)) dJ7_fill_53178_3 ?_
  refine tv_istore_n (lv' := [(3, .int (nI 40)), (2, .int 0), (0, .ref (tv_ad c (20 + k))), (1, .int p1)]) C dJ7_fill_53178_4 rfl (by decide) rfl ?_
  have hL5 : ∀ (k_5 i : Nat) (x_5_2 : Int32) (w_5 : Nat → va_E), i + k_5 = 40 → x_5_2 = (nI i) → w_5 = (eX c (ts_a s 21 (ts_z (s 21) (40 * k) i)) r) → tv_V c 60 X w_5 5 [(0, .ref (tv_ad c (20 + k))), (1, .int p1), (2, .int x_5_2), (3, .int (nI 40))] [] := by
    intro k_5
    induction k_5 with
    | zero =>
      intro i x_5_2 w_5 hi5  ex_5_2 ew_5
      subst ex_5_2
      subst ew_5
      have hN5 : i = 40 := by omega
      refine tv_iload_n C dJ7_fill_53178_5 rfl 2 rfl ?_
      refine tv_iload_n C dJ7_fill_53178_6 rfl 3 rfl ?_
      refine tv_icmp_ge C 20 dJ7_fill_53178_7 (by decide) (fun c_1 => ?_) (fun c_1 => absurd (tn_le (rfl : nI 40 = nI 40) (rfl : nI i = nI i) (by omega) (by omega)) c_1)
      exact hR _ _ _ dJ7_fill_53178_20 (by rw [hN5]; rfl)
    | succ k_5 ih5 =>
      intro i x_5_2 w_5 hi5  ex_5_2 ew_5
      subst ex_5_2
      subst ew_5
      have hN5 : i < 40 := by omega
      refine tv_iload_n C dJ7_fill_53178_5 rfl 2 rfl ?_
      refine tv_iload_n C dJ7_fill_53178_6 rfl 3 rfl ?_
      refine tv_icmp_ge C 20 dJ7_fill_53178_7 (by decide) (fun c_2 => absurd c_2 (tn_nle (rfl : nI 40 = nI 40) (rfl : nI i = nI i) (by omega) (by omega))) (fun c_2 => ?_)
      refine tv_aload_n C dJ7_fill_53178_10 rfl 0 rfl ?_
      refine tv_iload_n C dJ7_fill_53178_11 rfl 2 rfl ?_
      refine tv_iload_n C dJ7_fill_53178_12 rfl 1 rfl ?_
      refine tv_iast (E' := (eX c (ts_a s 21 (upd (ts_z (s 21) (40 * k) i) (40 * k + i) p1)) r)) C (20 + k) (by omega) (eX_at_r c (ts_a s 21 (ts_z (s 21) (40 * k) i)) r (by omega)) i (rfl : nI i = nI i) (show i < 40 by omega) (by decide) ((eX_u_r_row c (ts_a s 21 (ts_z (s 21) (40 * k) i)) r (by omega) (show i < 40 by omega) p1).trans (by first | (rw [ts_mg]; done) | (rw [ts_mg]; rfl) | (rw [ts_ss]; done) | (rw [ts_ss]; rfl))) dJ7_fill_53178_13 ?_
      refine tv_iinc (v := ((nI i) + 1)) (lv' := [(2, .int ((nI i) + 1)), (0, .ref (tv_ad c (20 + k))), (1, .int p1), (3, .int (nI 40))]) C dJ7_fill_53178_14 2 rfl rfl (by decide) rfl ?_
      refine tv_goto C 5 dJ7_fill_53178_17 (by decide) ?_
      refine tv_lsub [1, 2, 0, 3] rfl ?_
      exact ih5 (i + 1) _ _ (by omega)  (by first | rfl | exact nI_1 _ | (simp only [c_2, if_true, ↓reduceIte]; done) | (simp [c_2, if_true]; done) | (exfalso; clear hR C; simp_all; done)) (by rw [h0, ← ts_z_s])
  refine tv_lsub [2, 3, 1, 0] rfl ?_
  exact hL5 (40 - 0) 0 _ _ (by omega)  (by first | (simp only [if_true, ↓reduceIte]; done) | rfl | (simp [if_true]; done) | (exfalso; clear hR C; simp_all; done)) (by rw [ts_z_0, ts_id])
set_option maxHeartbeats 4000000 in
set_option maxRecDepth 100000 in
theorem kX5_begin (c : tv_c) (s r : ts_T) (k : Nat)  (p0 p1 : Int32) (hk : k < 4) : tv_Fv c 60 yX5_begin wsX5_begin { frames := 1, cells := 0, slots := 0, locals := 23 } [.ref (tv_ad c (16 + k)), .int p0, .int p1] (eX c s r) (eX c (ts_a (ts_a (ts_a (ts_a s 18 (upd (s 18) k 1)) 19 (upd (s 19) k p0)) 20 (upd (s 20) k p1)) 21 (ts_row (s 21) k (fun _ => 0))) r) := by
  refine tv_metV (by decide +kernel) rfl rfl (Nat.le_of_ble_eq_true rfl) (fun X C hR => ?_)
  show tv_V c 60 X (eX c s r) 0 [(0, .ref (tv_ad c (16 + k))), (1, .int p0), (2, .int p1)] []
  refine tv_aload_n C dX5_begin_0 rfl 0 rfl ?_
  refine tv_iconst (v := 1) C dX5_begin_1 (by decide) ?_
  refine tv_put (ci := 5) (Cn := RX5) (T := TX5) (Nf := 4) (ty := .boolean) (E' := (eX c (ts_a s 18 (upd (s 18) k 1)) r)) C (16 + k) (by omega) (eX_at_s c s r (by omega)) rfl in_X5_begin_X5 tyX5 tyX5_ok nmX5 1 (by decide) lk_X5_begin_15 rfl (by decide +kernel) rfl rfl (Nat.le_of_ble_eq_true rfl) (eX_u_s_has c s r (by omega) 1) dX5_begin_2 ?_
  refine tv_aload_n C dX5_begin_5 rfl 0 rfl ?_
  refine tv_iload_n C dX5_begin_6 rfl 1 rfl ?_
  refine tv_put (ci := 5) (Cn := RX5) (T := TX5) (Nf := 4) (ty := .int) (E' := (eX c (ts_a (ts_a s 18 (upd (s 18) k 1)) 19 (upd (s 19) k p0)) r)) C (16 + k) (by omega) (eX_at_s c (ts_a s 18 (upd (s 18) k 1)) r (by omega)) rfl in_X5_begin_X5 tyX5 tyX5_ok nmX5 2 (by decide) lk_X5_begin_19 rfl (by decide +kernel) rfl rfl (Nat.le_of_ble_eq_true rfl) (eX_u_s_sort c (ts_a s 18 (upd (s 18) k 1)) r (by omega) p0) dX5_begin_7 ?_
  refine tv_aload_n C dX5_begin_10 rfl 0 rfl ?_
  refine tv_iload_n C dX5_begin_11 rfl 2 rfl ?_
  refine tv_put (ci := 5) (Cn := RX5) (T := TX5) (Nf := 4) (ty := .int) (E' := (eX c (ts_a (ts_a (ts_a s 18 (upd (s 18) k 1)) 19 (upd (s 19) k p0)) 20 (upd (s 20) k p1)) r)) C (16 + k) (by omega) (eX_at_s c (ts_a (ts_a s 18 (upd (s 18) k 1)) 19 (upd (s 19) k p0)) r (by omega)) rfl in_X5_begin_X5 tyX5 tyX5_ok nmX5 3 (by decide) lk_X5_begin_23 rfl (by decide +kernel) rfl rfl (Nat.le_of_ble_eq_true rfl) (eX_u_s_length c (ts_a (ts_a s 18 (upd (s 18) k 1)) 19 (upd (s 19) k p0)) r (by omega) p1) dX5_begin_12 ?_
  refine tv_aload_n C dX5_begin_15 rfl 0 rfl ?_
  refine tv_get (ci := 5) (Cn := RX5) (T := TX5) (Nf := 4) (v := .ref (tv_ad c (20 + k))) C (16 + k) (by omega) (eX_at_s c (ts_a (ts_a (ts_a s 18 (upd (s 18) k 1)) 19 (upd (s 19) k p0)) 20 (upd (s 20) k p1)) r (by omega)) rfl in_X5_begin_X5 0 (by decide) lk_X5_begin_9 rfl dX5_begin_16 ?_
  refine tv_iconst (v := 0) C dX5_begin_19 (by decide) ?_
  refine tv_callvs (As := [.ref (tv_ad c (20 + k)), .int 0]) (rest := []) C (kJ7_fill_53178 c (ts_a (ts_a (ts_a s 18 (upd (s 18) k 1)) 19 (upd (s 19) k p0)) 20 (upd (s 20) k p1)) r k 0 (show k < 4 by omega) rfl) gX5_begin_J7_fill_53178 rfl yd_J7_fill_53178 ⟨rfl, rfl⟩ (by decide) rfl rfl (Nat.le_of_ble_eq_true rfl) dX5_begin_20 (fun u_1 z_1 => ?_)
  subst z_1
  show tv_V c 60 X (eX c (ts_a (ts_a (ts_a (ts_a s 18 (upd (s 18) k 1)) 19 (upd (s 19) k p0)) 20 (upd (s 20) k p1)) 21 (ts_row (s 21) k (fun _ => 0))) r) 23 [(0, .ref (tv_ad c (16 + k))), (1, .int p0), (2, .int p1)] []
  exact hR _ _ _ dX5_begin_23 (by first | (simp only [if_true, ts_ss, ts_aa, ↓reduceIte]; done) | rfl | (simp [if_true, ts_ss, ts_aa]; done) | (exfalso; clear hR C; simp_all; done))
set_option maxHeartbeats 4000000 in
set_option maxRecDepth 100000 in
theorem kX5_cut (c : tv_c) (s r : ts_T) (k : Nat)  (p0 : Int32) (hk : k < 4) : tv_Fi c 60 yX5_cut wsX5_cut { frames := 0, cells := 0, slots := 0, locals := 0 } [.ref (tv_ad c (16 + k)), .int p0] (eX c s r) (sp_cut (s 19 k) p0) (eX c s r) := by
  refine tv_metI (by decide +kernel) rfl rfl (Nat.le_of_ble_eq_true rfl) (fun X C hR => ?_)
  show tv_V c 60 X (eX c s r) 0 [(0, .ref (tv_ad c (16 + k))), (1, .int p0)] []
  refine tv_aload_n C dX5_cut_0 rfl 0 rfl ?_
  refine tv_get (ci := 5) (Cn := RX5) (T := TX5) (Nf := 4) (v := .int (s 19 k)) C (16 + k) (by omega) (eX_at_s c s r (by omega)) rfl in_X5_cut_X5 2 (by decide) lk_X5_cut_19 rfl dX5_cut_1 ?_
  by_cases c_1 : (s 19 k) = 0
  · skip
    refine tv_lookup C 32 dX5_cut_4 (by decide) (by rw [c_1]; try rfl) (by decide) ?_
    refine tv_iload_n C dX5_cut_32 rfl 1 rfl ?_
    refine tv_i2b C dX5_cut_33 ?_
    exact hR _ _ _ _ dX5_cut_34 ⟨by first | (simp only [sp_cut, eq_true c_1, if_true, ↓reduceIte]; done) | rfl | (simp [sp_cut, eq_true c_1, if_true]; done) | (exfalso; clear hR C; simp_all; done), by first | (simp only [sp_cut, eq_true c_1, if_true, ts_ss, ts_aa, ↓reduceIte]; done) | rfl | (simp [sp_cut, eq_true c_1, if_true, ts_ss, ts_aa]; done) | (exfalso; clear hR C; simp_all; done)⟩
  by_cases c_2 : (s 19 k) = 1
  · skip
    refine tv_lookup C 35 dX5_cut_4 (by decide) (by rw [c_2]; try rfl) (by decide) ?_
    refine tv_iload_n C dX5_cut_35 rfl 1 rfl ?_
    refine tv_i2s C dX5_cut_36 ?_
    exact hR _ _ _ _ dX5_cut_37 ⟨by first | (simp only [sp_cut, c_1, eq_true c_2, if_true, ↓reduceIte]; done) | rfl | (simp [sp_cut, c_1, eq_true c_2, if_true]; done) | (exfalso; clear hR C; simp_all; done), by first | (simp only [sp_cut, c_1, eq_true c_2, if_true, ts_ss, ts_aa, ↓reduceIte]; done) | rfl | (simp [sp_cut, c_1, eq_true c_2, if_true, ts_ss, ts_aa]; done) | (exfalso; clear hR C; simp_all; done)⟩
  refine tv_lookup (off := 34) C 38 dX5_cut_4 (by decide) (by show Op.lookupswitch.offset [(0, 28), (1, 31)] 34 _ = 34; rw [lv_osw c_1 (by decide), lv_osw c_2 (by decide)]; try rfl) (by decide) ?_
  refine tv_iload_n C dX5_cut_38 rfl 1 rfl ?_
  exact hR _ _ _ _ dX5_cut_39 ⟨by first | (simp only [sp_cut, c_1, c_2, if_true, ↓reduceIte]; done) | rfl | (simp [sp_cut, c_1, c_2, if_true]; done) | (exfalso; clear hR C; simp_all; done), by first | (simp only [sp_cut, c_1, c_2, if_true, ts_ss, ts_aa, ↓reduceIte]; done) | rfl | (simp [sp_cut, c_1, c_2, if_true, ts_ss, ts_aa]; done) | (exfalso; clear hR C; simp_all; done)⟩
set_option maxHeartbeats 4000000 in
set_option maxRecDepth 100000 in
theorem kX5_reaches (c : tv_c) (s r : ts_T) (k : Nat)  (p0 p1 : Int32) (hk : k < 4) : tv_Fi c 60 yX5_reaches wsX5_reaches { frames := 0, cells := 0, slots := 0, locals := 0 } [.ref (tv_ad c (16 + k)), .int p0, .int p1] (eX c s r) (sp_rc (s 20 k) p0 p1) (eX c s r) := by
  refine tv_metZ (by decide +kernel) rfl rfl (Nat.le_of_ble_eq_true rfl) (fun X C hR => ?_)
  show tv_V c 60 X (eX c s r) 0 [(0, .ref (tv_ad c (16 + k))), (1, .int p0), (2, .int p1)] []
  refine tv_iload_n C dX5_reaches_0 rfl 1 rfl ?_
  refine tv_if_lt C 30 dX5_reaches_1 (by decide) (fun c_1 => ?_) (fun c_1 => ?_)
  · skip
    refine tv_iconst (v := 0) C dX5_reaches_30 (by decide) ?_
    exact hR _ _ _ _ dX5_reaches_31 (by first | rfl | exact tn_nz (sp_in_z _ _ _) | exact tn_nz (sp_ix_z _ _)) ⟨by first | (simp only [sp_rc, c_1, tn_d_lt c_1, if_true, ↓reduceIte]; done) | rfl | (simp [sp_rc, c_1, tn_d_lt c_1, if_true]; done) | (exfalso; clear hR C; simp_all; done), by first | (simp only [sp_rc, c_1, tn_d_lt c_1, if_true, ts_ss, ts_aa, ↓reduceIte]; done) | rfl | (simp [sp_rc, c_1, tn_d_lt c_1, if_true, ts_ss, ts_aa]; done) | (exfalso; clear hR C; simp_all; done)⟩
  · skip
    refine tv_iload_n C dX5_reaches_4 rfl 2 rfl ?_
    refine tv_if_lt C 30 dX5_reaches_5 (by decide) (fun c_2 => ?_) (fun c_2 => ?_)
    · skip
      refine tv_iconst (v := 0) C dX5_reaches_30 (by decide) ?_
      exact hR _ _ _ _ dX5_reaches_31 (by first | rfl | exact tn_nz (sp_in_z _ _ _) | exact tn_nz (sp_ix_z _ _)) ⟨by first | (simp only [sp_rc, c_1, tn_d_nlt c_1, c_2, tn_d_lt c_2, if_true, ↓reduceIte]; done) | rfl | (simp [sp_rc, c_1, tn_d_nlt c_1, c_2, tn_d_lt c_2, if_true]; done) | (exfalso; clear hR C; simp_all; done), by first | (simp only [sp_rc, c_1, tn_d_nlt c_1, c_2, tn_d_lt c_2, if_true, ts_ss, ts_aa, ↓reduceIte]; done) | rfl | (simp [sp_rc, c_1, tn_d_nlt c_1, c_2, tn_d_lt c_2, if_true, ts_ss, ts_aa]; done) | (exfalso; clear hR C; simp_all; done)⟩
    · skip
      refine tv_iload_n C dX5_reaches_8 rfl 1 rfl ?_
      refine tv_aload_n C dX5_reaches_9 rfl 0 rfl ?_
      refine tv_get (ci := 5) (Cn := RX5) (T := TX5) (Nf := 4) (v := .int (s 20 k)) C (16 + k) (by omega) (eX_at_s c s r (by omega)) rfl in_X5_reaches_X5 3 (by decide) lk_X5_reaches_23 rfl dX5_reaches_10 ?_
      refine tv_icmp_gt C 30 dX5_reaches_13 (by decide) (fun c_3 => ?_) (fun c_3 => ?_)
      · skip
        refine tv_iconst (v := 0) C dX5_reaches_30 (by decide) ?_
        exact hR _ _ _ _ dX5_reaches_31 (by first | rfl | exact tn_nz (sp_in_z _ _ _) | exact tn_nz (sp_ix_z _ _)) ⟨by first | (simp only [sp_rc, c_1, tn_d_nlt c_1, c_2, tn_d_nlt c_2, c_3, tn_d_lt c_3, if_true, ↓reduceIte]; done) | rfl | (simp [sp_rc, c_1, tn_d_nlt c_1, c_2, tn_d_nlt c_2, c_3, tn_d_lt c_3, if_true]; done) | (exfalso; clear hR C; simp_all; done), by first | (simp only [sp_rc, c_1, tn_d_nlt c_1, c_2, tn_d_nlt c_2, c_3, tn_d_lt c_3, if_true, ts_ss, ts_aa, ↓reduceIte]; done) | rfl | (simp [sp_rc, c_1, tn_d_nlt c_1, c_2, tn_d_nlt c_2, c_3, tn_d_lt c_3, if_true, ts_ss, ts_aa]; done) | (exfalso; clear hR C; simp_all; done)⟩
      · skip
        refine tv_iload_n C dX5_reaches_16 rfl 2 rfl ?_
        refine tv_aload_n C dX5_reaches_17 rfl 0 rfl ?_
        refine tv_get (ci := 5) (Cn := RX5) (T := TX5) (Nf := 4) (v := .int (s 20 k)) C (16 + k) (by omega) (eX_at_s c s r (by omega)) rfl in_X5_reaches_X5 3 (by decide) lk_X5_reaches_23 rfl dX5_reaches_18 ?_
        refine tv_iload_n C dX5_reaches_21 rfl 1 rfl ?_
        refine tv_isub C dX5_reaches_22 ?_
        refine tv_icmp_gt C 30 dX5_reaches_23 (by decide) (fun c_4 => ?_) (fun c_4 => ?_)
        · skip
          refine tv_iconst (v := 0) C dX5_reaches_30 (by decide) ?_
          exact hR _ _ _ _ dX5_reaches_31 (by first | rfl | exact tn_nz (sp_in_z _ _ _) | exact tn_nz (sp_ix_z _ _)) ⟨by first | (simp only [sp_rc, c_1, tn_d_nlt c_1, c_2, tn_d_nlt c_2, c_3, tn_d_nlt c_3, c_4, tn_d_lt c_4, if_true, ↓reduceIte]; done) | rfl | (simp [sp_rc, c_1, tn_d_nlt c_1, c_2, tn_d_nlt c_2, c_3, tn_d_nlt c_3, c_4, tn_d_lt c_4, if_true]; done) | (exfalso; clear hR C; simp_all; done), by first | (simp only [sp_rc, c_1, tn_d_nlt c_1, c_2, tn_d_nlt c_2, c_3, tn_d_nlt c_3, c_4, tn_d_lt c_4, if_true, ts_ss, ts_aa, ↓reduceIte]; done) | rfl | (simp [sp_rc, c_1, tn_d_nlt c_1, c_2, tn_d_nlt c_2, c_3, tn_d_nlt c_3, c_4, tn_d_lt c_4, if_true, ts_ss, ts_aa]; done) | (exfalso; clear hR C; simp_all; done)⟩
        · skip
          refine tv_iconst (v := 1) C dX5_reaches_26 (by decide) ?_
          refine tv_goto C 31 dX5_reaches_27 (by decide) ?_
          exact hR _ _ _ _ dX5_reaches_31 (by first | rfl | exact tn_nz (sp_in_z _ _ _) | exact tn_nz (sp_ix_z _ _)) ⟨by first | (simp only [sp_rc, c_1, tn_d_nlt c_1, c_2, tn_d_nlt c_2, c_3, tn_d_nlt c_3, c_4, tn_d_nlt c_4, if_true, ↓reduceIte]; done) | rfl | (simp [sp_rc, c_1, tn_d_nlt c_1, c_2, tn_d_nlt c_2, c_3, tn_d_nlt c_3, c_4, tn_d_nlt c_4, if_true]; done) | (exfalso; clear hR C; simp_all; done), by first | (simp only [sp_rc, c_1, tn_d_nlt c_1, c_2, tn_d_nlt c_2, c_3, tn_d_nlt c_3, c_4, tn_d_nlt c_4, if_true, ts_ss, ts_aa, ↓reduceIte]; done) | rfl | (simp [sp_rc, c_1, tn_d_nlt c_1, c_2, tn_d_nlt c_2, c_3, tn_d_nlt c_3, c_4, tn_d_nlt c_4, if_true, ts_ss, ts_aa]; done) | (exfalso; clear hR C; simp_all; done)⟩
set_option maxHeartbeats 4000000 in
set_option maxRecDepth 100000 in
theorem kX5_faultAs (c : tv_c) (s r : ts_T) (k : Nat)  (p0 : Int32) (hk : k < 4) : tv_Fi c 60 yX5_faultAs wsX5_faultAs { frames := 0, cells := 0, slots := 0, locals := 0 } [.ref (tv_ad c (16 + k)), .int p0] (eX c s r) (sp_fa s k p0) (eX c s r) := by
  refine tv_metI (by decide +kernel) rfl rfl (Nat.le_of_ble_eq_true rfl) (fun X C hR => ?_)
  show tv_V c 60 X (eX c s r) 0 [(0, .ref (tv_ad c (16 + k))), (1, .int p0)] []
  refine tv_aload_n C dX5_faultAs_0 rfl 0 rfl ?_
  refine tv_get (ci := 5) (Cn := RX5) (T := TX5) (Nf := 4) (v := .int (s 18 k)) C (16 + k) (by omega) (eX_at_s c s r (by omega)) rfl in_X5_faultAs_X5 1 (by decide) lk_X5_faultAs_15 rfl dX5_faultAs_1 ?_
  refine tv_if_ne C 9 dX5_faultAs_4 (by decide) (fun c_1 => ?_) (fun c_1 => ?_)
  · skip
    refine tv_aload_n C dX5_faultAs_9 rfl 0 rfl ?_
    refine tv_get (ci := 5) (Cn := RX5) (T := TX5) (Nf := 4) (v := .int (s 19 k)) C (16 + k) (by omega) (eX_at_s c s r (by omega)) rfl in_X5_faultAs_X5 2 (by decide) lk_X5_faultAs_19 rfl dX5_faultAs_10 ?_
    refine tv_iload_n C dX5_faultAs_13 rfl 1 rfl ?_
    refine tv_icmp_ne C 21 dX5_faultAs_14 (by decide) (fun c_2 => ?_) (fun c_2 => ?_)
    · skip
      refine tv_iconst (v := 2) C dX5_faultAs_21 (by decide) ?_
      exact hR _ _ _ _ dX5_faultAs_22 ⟨by first | (simp only [sp_fa, c_1, c_2, if_true, ↓reduceIte]; done) | rfl | (simp [sp_fa, c_1, c_2, if_true]; done) | (exfalso; clear hR C; simp_all; done), by first | (simp only [sp_fa, c_1, c_2, if_true, ts_ss, ts_aa, ↓reduceIte]; done) | rfl | (simp [sp_fa, c_1, c_2, if_true, ts_ss, ts_aa]; done) | (exfalso; clear hR C; simp_all; done)⟩
    · skip
      refine tv_iconst (v := 0) C dX5_faultAs_17 (by decide) ?_
      refine tv_goto C 22 dX5_faultAs_18 (by decide) ?_
      exact hR _ _ _ _ dX5_faultAs_22 ⟨by first | (simp only [sp_fa, c_1, eq_true c_2, if_true, ↓reduceIte]; done) | rfl | (simp [sp_fa, c_1, eq_true c_2, if_true]; done) | (exfalso; clear hR C; simp_all; done), by first | (simp only [sp_fa, c_1, eq_true c_2, if_true, ts_ss, ts_aa, ↓reduceIte]; done) | rfl | (simp [sp_fa, c_1, eq_true c_2, if_true, ts_ss, ts_aa]; done) | (exfalso; clear hR C; simp_all; done)⟩
  · skip
    refine tv_iconst (v := 1) C dX5_faultAs_7 (by decide) ?_
    exact hR _ _ _ _ dX5_faultAs_8 ⟨by first | (simp only [sp_fa, eq_true c_1, if_true, ↓reduceIte]; done) | rfl | (simp [sp_fa, eq_true c_1, if_true]; done) | (exfalso; clear hR C; simp_all; done), by first | (simp only [sp_fa, eq_true c_1, if_true, ts_ss, ts_aa, ↓reduceIte]; done) | rfl | (simp [sp_fa, eq_true c_1, if_true, ts_ss, ts_aa]; done) | (exfalso; clear hR C; simp_all; done)⟩
set_option maxHeartbeats 4000000 in
set_option maxRecDepth 100000 in
theorem kX5_faultOfCells (c : tv_c) (s r : ts_T) (k : Nat)  (p0 p1 p2 : Int32) (hk : k < 4) : tv_Fi c 60 yX5_faultOfCells wsX5_faultOfCells { frames := 1, cells := 0, slots := 0, locals := 22 } [.ref (tv_ad c (16 + k)), .int p0, .int p1, .int p2] (eX c s r) (sp_fc s k p0 p1 p2) (eX c s r) := by
  refine tv_metI (by decide +kernel) rfl rfl (Nat.le_of_ble_eq_true rfl) (fun X C hR => ?_)
  show tv_V c 60 X (eX c s r) 0 [(0, .ref (tv_ad c (16 + k))), (1, .int p0), (2, .int p1), (3, .int p2)] []
  refine tv_aload_n C dX5_faultOfCells_0 rfl 0 rfl ?_
  refine tv_iload_n C dX5_faultOfCells_1 rfl 1 rfl ?_
  refine tv_calli (As := [.int p0]) (rest := []) (ci := 5) (cn := RX5) (T := TX5) (Nf := 4) C (16 + k) (kX5_faultAs c s r k p0 (show k < 4 by omega)) gX5_faultOfCells_X5_faultAs rfl yd_X5_faultAs ⟨rfl, rfl⟩ (by decide) (by omega) (eX_at_s c s r (by omega)) rfl rfl rfl (Nat.le_of_ble_eq_true rfl) dX5_faultOfCells_2 (fun q_1 u_1 z_1 => ?_)
  obtain ⟨rfl, rfl⟩ := z_1
  refine tv_istore (lv' := [(4, .int (sp_fa s k p0)), (0, .ref (tv_ad c (16 + k))), (1, .int p0), (2, .int p1), (3, .int p2)]) C dX5_faultOfCells_5 (by decide) rfl ?_
  refine tv_iload C dX5_faultOfCells_7 0 rfl ?_
  refine tv_if_ne C 24 dX5_faultOfCells_9 (by decide) (fun c_2 => ?_) (fun c_2 => ?_)
  · skip
    refine tv_iload C dX5_faultOfCells_24 0 rfl ?_
    exact hR _ _ _ _ dX5_faultOfCells_26 ⟨by first | (simp only [sp_fc, c_2, if_true, ↓reduceIte]; done) | rfl | (simp [sp_fc, c_2, if_true]; done) | (exfalso; clear hR C; simp_all; done), by first | (simp only [sp_fc, c_2, if_true, ts_ss, ts_aa, ↓reduceIte]; done) | rfl | (simp [sp_fc, c_2, if_true, ts_ss, ts_aa]; done) | (exfalso; clear hR C; simp_all; done)⟩
  · skip
    refine tv_aload_n C dX5_faultOfCells_12 rfl 1 rfl ?_
    refine tv_iload_n C dX5_faultOfCells_13 rfl 3 rfl ?_
    refine tv_iload_n C dX5_faultOfCells_14 rfl 4 rfl ?_
    refine tv_calli (As := [.int p1, .int p2]) (rest := []) (ci := 5) (cn := RX5) (T := TX5) (Nf := 4) C (16 + k) (kX5_reaches c s r k p1 p2 (show k < 4 by omega)) gX5_faultOfCells_X5_reaches rfl yd_X5_reaches ⟨rfl, rfl⟩ (by decide) (by omega) (eX_at_s c s r (by omega)) rfl rfl rfl (Nat.le_of_ble_eq_true rfl) dX5_faultOfCells_15 (fun q_3 u_3 z_3 => ?_)
    obtain ⟨rfl, rfl⟩ := z_3
    refine tv_if_ne C 24 dX5_faultOfCells_18 (by decide) (fun c_4 => ?_) (fun c_4 => ?_)
    · skip
      refine tv_iload C dX5_faultOfCells_24 0 rfl ?_
      exact hR _ _ _ _ dX5_faultOfCells_26 ⟨by first | (simp only [sp_fc, eq_true c_2, c_4, if_true, ↓reduceIte]; done) | rfl | (simp [sp_fc, eq_true c_2, c_4, if_true]; done) | (exfalso; clear hR C; simp_all; done), by first | (simp only [sp_fc, eq_true c_2, c_4, if_true, ts_ss, ts_aa, ↓reduceIte]; done) | rfl | (simp [sp_fc, eq_true c_2, c_4, if_true, ts_ss, ts_aa]; done) | (exfalso; clear hR C; simp_all; done)⟩
    · skip
      refine tv_iconst (v := 3) C dX5_faultOfCells_21 (by decide) ?_
      refine tv_istore (lv' := [(4, .int 3), (0, .ref (tv_ad c (16 + k))), (1, .int p0), (2, .int p1), (3, .int p2)]) C dX5_faultOfCells_22 (by decide) rfl ?_
      refine tv_iload C dX5_faultOfCells_24 0 rfl ?_
      exact hR _ _ _ _ dX5_faultOfCells_26 ⟨by first | (simp only [sp_fc, eq_true c_2, eq_true c_4, if_true, ↓reduceIte]; done) | rfl | (simp [sp_fc, eq_true c_2, eq_true c_4, if_true]; done) | (exfalso; clear hR C; simp_all; done), by first | (simp only [sp_fc, eq_true c_2, eq_true c_4, if_true, ts_ss, ts_aa, ↓reduceIte]; done) | rfl | (simp [sp_fc, eq_true c_2, eq_true c_4, if_true, ts_ss, ts_aa]; done) | (exfalso; clear hR C; simp_all; done)⟩
set_option maxHeartbeats 4000000 in
set_option maxRecDepth 100000 in
theorem kX7_areWithin (c : tv_c) (s r : ts_T)  (p0 p1 p2 p3 : Int32)  : tv_Fi c 60 yX7_areWithin wsX7_areWithin { frames := 1, cells := 0, slots := 0, locals := 22 } [.int p0, .int p1, .int p2, .int p3] (eX c s r) (sp_a3 p0 p1 p2 p3) (eX c s r) := by
  refine tv_metZ (by decide +kernel) rfl rfl (Nat.le_of_ble_eq_true rfl) (fun X C hR => ?_)
  show tv_V c 60 X (eX c s r) 0 [(0, .int p0), (1, .int p1), (2, .int p2), (3, .int p3)] []
  refine tv_iload_n C dX7_areWithin_0 rfl 0 rfl ?_
  refine tv_iconst (v := 0) C dX7_areWithin_1 (by decide) ?_
  refine tv_iload_n C dX7_areWithin_2 rfl 3 rfl ?_
  refine tv_callis (As := [.int p0, .int 0, .int p3]) (rest := []) C (kX7_isWithin c s r  p0 0 p3 ) gX7_areWithin_X7_isWithin rfl yd_X7_isWithin ⟨rfl, rfl⟩ (by decide) rfl rfl (Nat.le_of_ble_eq_true rfl) dX7_areWithin_3 (fun q_1 u_1 z_1 => ?_)
  obtain ⟨rfl, rfl⟩ := z_1
  refine tv_if_eq C 31 dX7_areWithin_6 (by decide) (fun c_2 => ?_) (fun c_2 => ?_)
  · skip
    refine tv_iconst (v := 0) C dX7_areWithin_31 (by decide) ?_
    exact hR _ _ _ _ dX7_areWithin_32 (by first | rfl | exact tn_nz (sp_in_z _ _ _) | exact tn_nz (sp_ix_z _ _)) ⟨by first | (simp only [sp_a3, eq_true c_2, if_true, ↓reduceIte]; done) | rfl | (simp [sp_a3, eq_true c_2, if_true]; done) | (exfalso; clear hR C; simp_all; done), by first | (simp only [sp_a3, eq_true c_2, if_true, ts_ss, ts_aa, ↓reduceIte]; done) | rfl | (simp [sp_a3, eq_true c_2, if_true, ts_ss, ts_aa]; done) | (exfalso; clear hR C; simp_all; done)⟩
  · skip
    refine tv_iload_n C dX7_areWithin_9 rfl 1 rfl ?_
    refine tv_iconst (v := 0) C dX7_areWithin_10 (by decide) ?_
    refine tv_iload_n C dX7_areWithin_11 rfl 3 rfl ?_
    refine tv_callis (As := [.int p1, .int 0, .int p3]) (rest := []) C (kX7_isWithin c s r  p1 0 p3 ) gX7_areWithin_X7_isWithin rfl yd_X7_isWithin ⟨rfl, rfl⟩ (by decide) rfl rfl (Nat.le_of_ble_eq_true rfl) dX7_areWithin_12 (fun q_3 u_3 z_3 => ?_)
    obtain ⟨rfl, rfl⟩ := z_3
    refine tv_if_eq C 31 dX7_areWithin_15 (by decide) (fun c_4 => ?_) (fun c_4 => ?_)
    · skip
      refine tv_iconst (v := 0) C dX7_areWithin_31 (by decide) ?_
      exact hR _ _ _ _ dX7_areWithin_32 (by first | rfl | exact tn_nz (sp_in_z _ _ _) | exact tn_nz (sp_ix_z _ _)) ⟨by first | (simp only [sp_a3, c_2, eq_true c_4, if_true, ↓reduceIte]; done) | rfl | (simp [sp_a3, c_2, eq_true c_4, if_true]; done) | (exfalso; clear hR C; simp_all; done), by first | (simp only [sp_a3, c_2, eq_true c_4, if_true, ts_ss, ts_aa, ↓reduceIte]; done) | rfl | (simp [sp_a3, c_2, eq_true c_4, if_true, ts_ss, ts_aa]; done) | (exfalso; clear hR C; simp_all; done)⟩
    · skip
      refine tv_iload_n C dX7_areWithin_18 rfl 2 rfl ?_
      refine tv_iconst (v := 0) C dX7_areWithin_19 (by decide) ?_
      refine tv_iload_n C dX7_areWithin_20 rfl 3 rfl ?_
      refine tv_callis (As := [.int p2, .int 0, .int p3]) (rest := []) C (kX7_isWithin c s r  p2 0 p3 ) gX7_areWithin_X7_isWithin rfl yd_X7_isWithin ⟨rfl, rfl⟩ (by decide) rfl rfl (Nat.le_of_ble_eq_true rfl) dX7_areWithin_21 (fun q_5 u_5 z_5 => ?_)
      obtain ⟨rfl, rfl⟩ := z_5
      refine tv_if_eq C 31 dX7_areWithin_24 (by decide) (fun c_6 => ?_) (fun c_6 => ?_)
      · skip
        refine tv_iconst (v := 0) C dX7_areWithin_31 (by decide) ?_
        exact hR _ _ _ _ dX7_areWithin_32 (by first | rfl | exact tn_nz (sp_in_z _ _ _) | exact tn_nz (sp_ix_z _ _)) ⟨by first | (simp only [sp_a3, c_2, c_4, eq_true c_6, if_true, ↓reduceIte]; done) | rfl | (simp [sp_a3, c_2, c_4, eq_true c_6, if_true]; done) | (exfalso; clear hR C; simp_all; done), by first | (simp only [sp_a3, c_2, c_4, eq_true c_6, if_true, ts_ss, ts_aa, ↓reduceIte]; done) | rfl | (simp [sp_a3, c_2, c_4, eq_true c_6, if_true, ts_ss, ts_aa]; done) | (exfalso; clear hR C; simp_all; done)⟩
      · skip
        refine tv_iconst (v := 1) C dX7_areWithin_27 (by decide) ?_
        refine tv_goto C 32 dX7_areWithin_28 (by decide) ?_
        exact hR _ _ _ _ dX7_areWithin_32 (by first | rfl | exact tn_nz (sp_in_z _ _ _) | exact tn_nz (sp_ix_z _ _)) ⟨by first | (simp only [sp_a3, c_2, c_4, c_6, if_true, ↓reduceIte]; done) | rfl | (simp [sp_a3, c_2, c_4, c_6, if_true]; done) | (exfalso; clear hR C; simp_all; done), by first | (simp only [sp_a3, c_2, c_4, c_6, if_true, ts_ss, ts_aa, ↓reduceIte]; done) | rfl | (simp [sp_a3, c_2, c_4, c_6, if_true, ts_ss, ts_aa]; done) | (exfalso; clear hR C; simp_all; done)⟩
set_option maxHeartbeats 4000000 in
set_option maxRecDepth 100000 in
theorem kX7_tellPlain (c : tv_c) (s r : ts_T) (k : Nat)  (hk : k < 6) : tv_Fi c 60 yX7_tellPlain wsX7_tellPlain { frames := 1, cells := 0, slots := 0, locals := 21 } [.ref (tv_ad c 0), .ref (tv_ad c (48 + k))] (eX c s r) (s 16 (3 * k + 0)) (eX c (ts_s s 1 (31 * (s 1 0) + 1)) r) := by
  refine tv_metI (by decide +kernel) rfl rfl (Nat.le_of_ble_eq_true rfl) (fun X C hR => ?_)
  show tv_V c 60 X (eX c s r) 0 [(0, .ref (tv_ad c 0)), (1, .ref (tv_ad c (48 + k)))] []
  refine tv_aload_n C dX7_tellPlain_0 rfl 0 rfl ?_
  refine tv_iconst (v := 1) C dX7_tellPlain_1 (by decide) ?_
  refine tv_callv (As := [.int 1]) (rest := []) (ci := 7) (cn := RX7) (T := TX7) (Nf := 7) C 0 (kX7_mark c s r  1 ) gX7_tellPlain_X7_mark rfl yd_X7_mark ⟨rfl, rfl⟩ (by decide) (by decide) rfl rfl rfl rfl (Nat.le_of_ble_eq_true rfl) dX7_tellPlain_2 (fun u_1 z_1 => ?_)
  subst z_1
  refine tv_aload_n C dX7_tellPlain_5 rfl 1 rfl ?_
  refine tv_get (ci := 1) (Cn := RX1) (T := TX1) (Nf := 2) (v := .ref (tv_ad c (54 + k))) C (48 + k) (by omega) (eX_at_k c (ts_s s 1 (31 * (s 1 0) + 1)) r (by omega)) rfl in_X7_tellPlain_X1 0 (by decide) lk_X7_tellPlain_155 rfl dX7_tellPlain_6 ?_
  refine tv_iconst (v := 0) C dX7_tellPlain_9 (by decide) ?_
  refine tv_iald (v := (s 16 (3 * k + 0))) C (54 + k) (by omega) (eX_at_b c (ts_s s 1 (31 * (s 1 0) + 1)) r (by omega)) 0 (tn_l 0) (show 0 < 3 by omega) (by decide) (if_pos (show 0 < 3 by omega)) dX7_tellPlain_10 ?_
  exact hR _ _ _ _ dX7_tellPlain_11 ⟨by first | (simp only [if_true, ↓reduceIte]; done) | rfl | (simp [if_true]; done) | (exfalso; clear hR C; simp_all; done), by first | (simp only [if_true, ts_ss, ts_aa, ↓reduceIte]; done) | rfl | (simp [if_true, ts_ss, ts_aa]; done) | (exfalso; clear hR C; simp_all; done)⟩
set_option maxHeartbeats 4000000 in
set_option maxRecDepth 100000 in
theorem kX7_tellShiny (c : tv_c) (s r : ts_T) (k : Nat)  (hk : k < 6) : tv_Fi c 60 yX7_tellShiny wsX7_tellShiny { frames := 2, cells := 0, slots := 0, locals := 42 } [.ref (tv_ad c 0), .ref (tv_ad c (48 + k))] (eX c s r) (s 16 (3 * k + 0) + 100) (eX c (ts_s s 1 (31 * (31 * (s 1 0) + 2) + 1)) r) := by
  refine tv_metI (by decide +kernel) rfl rfl (Nat.le_of_ble_eq_true rfl) (fun X C hR => ?_)
  show tv_V c 60 X (eX c s r) 0 [(0, .ref (tv_ad c 0)), (1, .ref (tv_ad c (48 + k)))] []
  refine tv_aload_n C dX7_tellShiny_0 rfl 0 rfl ?_
  refine tv_iconst (v := 2) C dX7_tellShiny_1 (by decide) ?_
  refine tv_callv (As := [.int 2]) (rest := []) (ci := 7) (cn := RX7) (T := TX7) (Nf := 7) C 0 (kX7_mark c s r  2 ) gX7_tellShiny_X7_mark rfl yd_X7_mark ⟨rfl, rfl⟩ (by decide) (by decide) rfl rfl rfl rfl (Nat.le_of_ble_eq_true rfl) dX7_tellShiny_2 (fun u_1 z_1 => ?_)
  subst z_1
  refine tv_aload_n C dX7_tellShiny_5 rfl 0 rfl ?_
  refine tv_aload_n C dX7_tellShiny_6 rfl 1 rfl ?_
  refine tv_calli (As := [.ref (tv_ad c (48 + k))]) (rest := []) (ci := 7) (cn := RX7) (T := TX7) (Nf := 7) C 0 (kX7_tellPlain c (ts_s s 1 (31 * (s 1 0) + 2)) r k  (show k < 6 by omega)) gX7_tellShiny_X7_tellPlain rfl yd_X7_tellPlain ⟨rfl, rfl⟩ (by decide) (by decide) rfl rfl rfl rfl (Nat.le_of_ble_eq_true rfl) dX7_tellShiny_7 (fun q_2 u_2 z_2 => ?_)
  obtain ⟨rfl, rfl⟩ := z_2
  show tv_V c 60 X (eX c (ts_s (ts_s s 1 (31 * (s 1 0) + 2)) 1 (31 * ((31 * (s 1 0) + 2)) + 1)) r) 10 [(0, .ref (tv_ad c 0)), (1, .ref (tv_ad c (48 + k)))] [.int (s 16 (3 * k + 0))]
  refine tv_eqE (E' := (eX c (ts_s s 1 (31 * ((31 * (s 1 0) + 2)) + 1)) r)) (congrArg (fun z => eX c z r) (by funext zz; rcases Classical.em (zz = 1) with hzz | h_1; (subst hzz; rfl); simp only [ts_s, ts_a, h_1, ↓reduceIte])) ?_
  show tv_V c 60 X (eX c (ts_s s 1 (31 * ((31 * (s 1 0) + 2)) + 1)) r) 10 [(0, .ref (tv_ad c 0)), (1, .ref (tv_ad c (48 + k)))] [.int (s 16 (3 * k + 0))]
  refine tv_bipush (v := 100) C dX7_tellShiny_10 (by decide) ?_
  refine tv_iadd C dX7_tellShiny_12 ?_
  exact hR _ _ _ _ dX7_tellShiny_13 ⟨by first | (simp only [if_true, ↓reduceIte]; done) | rfl | (simp [if_true]; done) | (exfalso; clear hR C; simp_all; done), by first | (simp only [if_true, ts_ss, ts_aa, ↓reduceIte]; done) | rfl | (simp [if_true, ts_ss, ts_aa]; done) | (exfalso; clear hR C; simp_all; done)⟩
set_option maxHeartbeats 4000000 in
set_option maxRecDepth 100000 in
theorem kX7_tellFast (c : tv_c) (s r : ts_T) (k : Nat)  (hk : k < 6) : tv_Fi c 60 yX7_tellFast wsX7_tellFast { frames := 3, cells := 0, slots := 0, locals := 63 } [.ref (tv_ad c 0), .ref (tv_ad c (48 + k))] (eX c s r) ((s 16 (3 * k + 0) + 100) + s 16 (3 * k + 0)) (eX c (ts_s s 1 (31 * (31 * (31 * (31 * (s 1 0) + 3) + 2) + 1) + 1)) r) := by
  refine tv_metI (by decide +kernel) rfl rfl (Nat.le_of_ble_eq_true rfl) (fun X C hR => ?_)
  show tv_V c 60 X (eX c s r) 0 [(0, .ref (tv_ad c 0)), (1, .ref (tv_ad c (48 + k)))] []
  refine tv_aload_n C dX7_tellFast_0 rfl 0 rfl ?_
  refine tv_iconst (v := 3) C dX7_tellFast_1 (by decide) ?_
  refine tv_callv (As := [.int 3]) (rest := []) (ci := 7) (cn := RX7) (T := TX7) (Nf := 7) C 0 (kX7_mark c s r  3 ) gX7_tellFast_X7_mark rfl yd_X7_mark ⟨rfl, rfl⟩ (by decide) (by decide) rfl rfl rfl rfl (Nat.le_of_ble_eq_true rfl) dX7_tellFast_2 (fun u_1 z_1 => ?_)
  subst z_1
  refine tv_aload_n C dX7_tellFast_5 rfl 0 rfl ?_
  refine tv_aload_n C dX7_tellFast_6 rfl 1 rfl ?_
  refine tv_calli (As := [.ref (tv_ad c (48 + k))]) (rest := []) (ci := 7) (cn := RX7) (T := TX7) (Nf := 7) C 0 (kX7_tellShiny c (ts_s s 1 (31 * (s 1 0) + 3)) r k  (show k < 6 by omega)) gX7_tellFast_X7_tellShiny rfl yd_X7_tellShiny ⟨rfl, rfl⟩ (by decide) (by decide) rfl rfl rfl rfl (Nat.le_of_ble_eq_true rfl) dX7_tellFast_7 (fun q_2 u_2 z_2 => ?_)
  obtain ⟨rfl, rfl⟩ := z_2
  show tv_V c 60 X (eX c (ts_s (ts_s s 1 (31 * (s 1 0) + 3)) 1 (31 * (31 * ((31 * (s 1 0) + 3)) + 2) + 1)) r) 10 [(0, .ref (tv_ad c 0)), (1, .ref (tv_ad c (48 + k)))] [.int (s 16 (3 * k + 0) + 100)]
  refine tv_eqE (E' := (eX c (ts_s s 1 (31 * (31 * ((31 * (s 1 0) + 3)) + 2) + 1)) r)) (congrArg (fun z => eX c z r) (by funext zz; rcases Classical.em (zz = 1) with hzz | h_1; (subst hzz; rfl); simp only [ts_s, ts_a, h_1, ↓reduceIte])) ?_
  show tv_V c 60 X (eX c (ts_s s 1 (31 * (31 * ((31 * (s 1 0) + 3)) + 2) + 1)) r) 10 [(0, .ref (tv_ad c 0)), (1, .ref (tv_ad c (48 + k)))] [.int (s 16 (3 * k + 0) + 100)]
  refine tv_istore_n (lv' := [(2, .int (s 16 (3 * k + 0) + 100)), (0, .ref (tv_ad c 0)), (1, .ref (tv_ad c (48 + k)))]) C dX7_tellFast_10 rfl (by decide) rfl ?_
  refine tv_iload_n C dX7_tellFast_11 rfl 0 rfl ?_
  refine tv_aload_n C dX7_tellFast_12 rfl 1 rfl ?_
  refine tv_aload_n C dX7_tellFast_13 rfl 2 rfl ?_
  refine tv_calli (As := [.ref (tv_ad c (48 + k))]) (rest := [.int (s 16 (3 * k + 0) + 100)]) (ci := 7) (cn := RX7) (T := TX7) (Nf := 7) C 0 (kX7_tellPlain c (ts_s s 1 (31 * (31 * ((31 * (s 1 0) + 3)) + 2) + 1)) r k  (show k < 6 by omega)) gX7_tellFast_X7_tellPlain rfl yd_X7_tellPlain ⟨rfl, rfl⟩ (by decide) (by decide) rfl rfl rfl rfl (Nat.le_of_ble_eq_true rfl) dX7_tellFast_14 (fun q_3 u_3 z_3 => ?_)
  obtain ⟨rfl, rfl⟩ := z_3
  show tv_V c 60 X (eX c (ts_s (ts_s s 1 (31 * (31 * ((31 * (s 1 0) + 3)) + 2) + 1)) 1 (31 * ((31 * (31 * ((31 * (s 1 0) + 3)) + 2) + 1)) + 1)) r) 17 [(2, .int (s 16 (3 * k + 0) + 100)), (0, .ref (tv_ad c 0)), (1, .ref (tv_ad c (48 + k)))] [.int (s 16 (3 * k + 0)), .int (s 16 (3 * k + 0) + 100)]
  refine tv_eqE (E' := (eX c (ts_s s 1 (31 * ((31 * (31 * ((31 * (s 1 0) + 3)) + 2) + 1)) + 1)) r)) (congrArg (fun z => eX c z r) (by funext zz; rcases Classical.em (zz = 1) with hzz | h_1; (subst hzz; rfl); simp only [ts_s, ts_a, h_1, ↓reduceIte])) ?_
  show tv_V c 60 X (eX c (ts_s s 1 (31 * ((31 * (31 * ((31 * (s 1 0) + 3)) + 2) + 1)) + 1)) r) 17 [(2, .int (s 16 (3 * k + 0) + 100)), (0, .ref (tv_ad c 0)), (1, .ref (tv_ad c (48 + k)))] [.int (s 16 (3 * k + 0)), .int (s 16 (3 * k + 0) + 100)]
  refine tv_iadd C dX7_tellFast_17 ?_
  exact hR _ _ _ _ dX7_tellFast_18 ⟨by first | (simp only [if_true, ↓reduceIte]; done) | rfl | (simp [if_true]; done) | (exfalso; clear hR C; simp_all; done), by first | (simp only [if_true, ts_ss, ts_aa, ↓reduceIte]; done) | rfl | (simp [if_true, ts_ss, ts_aa]; done) | (exfalso; clear hR C; simp_all; done)⟩
set_option maxHeartbeats 4000000 in
set_option maxRecDepth 100000 in
theorem kX7_tell (c : tv_c) (s r : ts_T)  (p0 : Int32) (hI : iv s) : tv_Fi c 60 yX7_tell wsX7_tell { frames := 4, cells := 0, slots := 0, locals := 85 } [.ref (tv_ad c 0), .int p0] (eX c s r) ((sp_tell s p0).1) (eX c (sp_tell s p0).2 r) := by
  refine tv_metI (by decide +kernel) rfl rfl (Nat.le_of_ble_eq_true rfl) (fun X C hR => ?_)
  show tv_V c 60 X (eX c s r) 0 [(0, .ref (tv_ad c 0)), (1, .int p0)] []
  have hC := iv.hC hI
  obtain ⟨h, w, n, nk, nl, ny, nm, li, e2, e3, e9, hnw, hh, hw, hn, hz, hp, e7, hk, e8, hl, e4, hy, e5, hm, e6, hli, hcel, hkin, hban, hwei, hshe⟩ := id hI
  refine tv_aload_n C dX7_tell_0 rfl 0 rfl ?_
  refine tv_get (ci := 7) (Cn := RX7) (T := TX7) (Nf := 7) (v := .ref (tv_ad c 2)) C 0 (by decide) rfl rfl in_X7_tell_X7 1 (by decide) lk_X7_tell_20 rfl dX7_tell_1 ?_
  refine tv_iload_n C dX7_tell_4 rfl 1 rfl ?_
  refine tv_calli (As := [.int p0]) (rest := []) (ci := 6) (cn := RX6) (T := TX6) (Nf := 11) C 2 (kX6_hasCoat c s r  p0 ) gX7_tell_X6_hasCoat rfl yd_X6_hasCoat ⟨rfl, rfl⟩ (by decide) (by decide) rfl rfl rfl rfl (Nat.le_of_ble_eq_true rfl) dX7_tell_5 (fun q_1 u_1 z_1 => ?_)
  obtain ⟨rfl, rfl⟩ := z_1
  refine tv_if_ne C 13 dX7_tell_8 (by decide) (fun c_2 => ?_) (fun c_2 => ?_)
  · skip
    obtain ⟨j_p0, hj_p0, ej_p0, ek_p0⟩ := in_ix e7 (by omega) c_2
    refine tv_aload_n C dX7_tell_13 rfl 0 rfl ?_
    refine tv_get (ci := 7) (Cn := RX7) (T := TX7) (Nf := 7) (v := .ref (tv_ad c 2)) C 0 (by decide) rfl rfl in_X7_tell_X7 1 (by decide) lk_X7_tell_20 rfl dX7_tell_14 ?_
    refine tv_get (ci := 6) (Cn := RX6) (T := TX6) (Nf := 11) (v := .ref (tv_ad c 4)) C 2 (by decide) rfl rfl in_X7_tell_X6 1 (by decide) lk_X7_tell_146 rfl dX7_tell_17 ?_
    refine tv_iload_n C dX7_tell_20 rfl 1 rfl ?_
    refine tv_aald (Cn := RX1) (a := tv_ad c (48 + j_p0)) C 4 (by decide) rfl 4 rfl j_p0 ej_p0 (show j_p0 < 6 by omega) (by decide) rfl dX7_tell_21 ?_
    refine tv_astore_n (lv' := [(2, .ref (tv_ad c (48 + j_p0))), (0, .ref (tv_ad c 0)), (1, .int p0)]) C dX7_tell_22 rfl (by decide) rfl ?_
    refine tv_aload_n C dX7_tell_23 rfl 0 rfl ?_
    refine tv_get (ci := 1) (Cn := RX1) (T := TX1) (Nf := 2) (v := .int (s 15 j_p0)) C (48 + j_p0) (by omega) (eX_at_k c s r (by omega)) rfl in_X7_tell_X1 1 (by decide) lk_X7_tell_150 rfl dX7_tell_24 ?_
    by_cases c_3 : (s 15 j_p0) = 1
    · skip
      refine tv_lookup C 58 dX7_tell_27 (by decide) (by rw [c_3]; try rfl) (by decide) ?_
      refine tv_aload_n C dX7_tell_58 rfl 1 rfl ?_
      refine tv_aload_n C dX7_tell_59 rfl 0 rfl ?_
      refine tv_calli (As := [.ref (tv_ad c (48 + j_p0))]) (rest := []) (ci := 7) (cn := RX7) (T := TX7) (Nf := 7) C 0 (kX7_tellShiny c s r j_p0  (show j_p0 < 6 by omega)) gX7_tell_X7_tellShiny rfl yd_X7_tellShiny ⟨rfl, rfl⟩ (by decide) (by decide) rfl rfl rfl rfl (Nat.le_of_ble_eq_true rfl) dX7_tell_60 (fun q_4 u_4 z_4 => ?_)
      obtain ⟨rfl, rfl⟩ := z_4
      exact hR _ _ _ _ dX7_tell_63 ⟨by first | (simp only [sp_tell, sp_tr, c_2, ek_p0, eq_true c_3, if_true, ↓reduceIte]; done) | rfl | (simp [sp_tell, sp_tr, c_2, ek_p0, eq_true c_3, if_true]; done) | (exfalso; clear hR C; simp_all; done), by first | (simp only [sp_tell, sp_tr, c_2, ek_p0, eq_true c_3, if_true, ts_ss, ts_aa, ↓reduceIte]; done) | rfl | (simp [sp_tell, sp_tr, c_2, ek_p0, eq_true c_3, if_true, ts_ss, ts_aa]; done) | (exfalso; clear hR C; simp_all; done)⟩
    by_cases c_5 : (s 15 j_p0) = 2
    · skip
      refine tv_lookup C 52 dX7_tell_27 (by decide) (by rw [c_5]; try rfl) (by decide) ?_
      refine tv_aload_n C dX7_tell_52 rfl 1 rfl ?_
      refine tv_aload_n C dX7_tell_53 rfl 0 rfl ?_
      refine tv_calli (As := [.ref (tv_ad c (48 + j_p0))]) (rest := []) (ci := 7) (cn := RX7) (T := TX7) (Nf := 7) C 0 (kX7_tellFast c s r j_p0  (show j_p0 < 6 by omega)) gX7_tell_X7_tellFast rfl yd_X7_tellFast ⟨rfl, rfl⟩ (by decide) (by decide) rfl rfl rfl rfl (Nat.le_of_ble_eq_true rfl) dX7_tell_54 (fun q_6 u_6 z_6 => ?_)
      obtain ⟨rfl, rfl⟩ := z_6
      exact hR _ _ _ _ dX7_tell_57 ⟨by simp only [sp_tell, c_2, ek_p0, c_3, eq_true c_5, ↓reduceIte]; exact ti_2 _, by first | (simp only [sp_tell, sp_tr, c_2, ek_p0, c_3, eq_true c_5, if_true, ts_ss, ts_aa, ↓reduceIte]; done) | rfl | (simp [sp_tell, sp_tr, c_2, ek_p0, c_3, eq_true c_5, if_true, ts_ss, ts_aa]; done) | (exfalso; clear hR C; simp_all; done)⟩
    refine tv_lookup (off := 37) C 64 dX7_tell_27 (by decide) (by show Op.lookupswitch.offset [(1, 31), (2, 25)] 37 _ = 37; rw [lv_osw c_3 (by decide), lv_osw c_5 (by decide)]; try rfl) (by decide) ?_
    refine tv_aload_n C dX7_tell_64 rfl 1 rfl ?_
    refine tv_aload_n C dX7_tell_65 rfl 0 rfl ?_
    refine tv_calli (As := [.ref (tv_ad c (48 + j_p0))]) (rest := []) (ci := 7) (cn := RX7) (T := TX7) (Nf := 7) C 0 (kX7_tellPlain c s r j_p0  (show j_p0 < 6 by omega)) gX7_tell_X7_tellPlain rfl yd_X7_tellPlain ⟨rfl, rfl⟩ (by decide) (by decide) rfl rfl rfl rfl (Nat.le_of_ble_eq_true rfl) dX7_tell_66 (fun q_7 u_7 z_7 => ?_)
    obtain ⟨rfl, rfl⟩ := z_7
    exact hR _ _ _ _ dX7_tell_69 ⟨by first | (simp only [sp_tell, sp_tr, c_2, ek_p0, c_3, c_5, if_true, ↓reduceIte]; done) | rfl | (simp [sp_tell, sp_tr, c_2, ek_p0, c_3, c_5, if_true]; done) | (exfalso; clear hR C; simp_all; done), by first | (simp only [sp_tell, sp_tr, c_2, ek_p0, c_3, c_5, if_true, ts_ss, ts_aa, ↓reduceIte]; done) | rfl | (simp [sp_tell, sp_tr, c_2, ek_p0, c_3, c_5, if_true, ts_ss, ts_aa]; done) | (exfalso; clear hR C; simp_all; done)⟩
  · skip
    refine tv_iconst (v := (-1)) C dX7_tell_11 (by decide) ?_
    exact hR _ _ _ _ dX7_tell_12 ⟨by first | (simp only [sp_tell, sp_tr, eq_true c_2, if_true, ↓reduceIte]; done) | rfl | (simp [sp_tell, sp_tr, eq_true c_2, if_true]; done) | (exfalso; clear hR C; simp_all; done), by first | (simp only [sp_tell, sp_tr, eq_true c_2, if_true, ts_ss, ts_aa, ↓reduceIte]; done) | rfl | (simp [sp_tell, sp_tr, eq_true c_2, if_true, ts_ss, ts_aa]; done) | (exfalso; clear hR C; simp_all; done)⟩
set_option maxHeartbeats 4000000 in
set_option maxRecDepth 100000 in
theorem kX7_name (c : tv_c) (s r : ts_T)  (p0 : Int32) (hI : iv s) : tv_Fi c 60 yX7_name wsX7_name { frames := 1, cells := 0, slots := 0, locals := 21 } [.ref (tv_ad c 0), .int p0] (eX c s r) ((sp_name s p0).1) (eX c (sp_name s p0).2 r) := by
  refine tv_metI (by decide +kernel) rfl rfl (Nat.le_of_ble_eq_true rfl) (fun X C hR => ?_)
  show tv_V c 60 X (eX c s r) 0 [(0, .ref (tv_ad c 0)), (1, .int p0)] []
  have hC := iv.hC hI
  obtain ⟨h, w, n, nk, nl, ny, nm, li, e2, e3, e9, hnw, hh, hw, hn, hz, hp, e7, hk, e8, hl, e4, hy, e5, hm, e6, hli, hcel, hkin, hban, hwei, hshe⟩ := id hI
  refine tv_aload_n C dX7_name_0 rfl 0 rfl ?_
  refine tv_get (ci := 7) (Cn := RX7) (T := TX7) (Nf := 7) (v := .ref (tv_ad c 2)) C 0 (by decide) rfl rfl in_X7_name_X7 1 (by decide) lk_X7_name_20 rfl dX7_name_1 ?_
  refine tv_iload_n C dX7_name_4 rfl 1 rfl ?_
  refine tv_calli (As := [.int p0]) (rest := []) (ci := 6) (cn := RX6) (T := TX6) (Nf := 11) C 2 (kX6_hasCoat c s r  p0 ) gX7_name_X6_hasCoat rfl yd_X6_hasCoat ⟨rfl, rfl⟩ (by decide) (by decide) rfl rfl rfl rfl (Nat.le_of_ble_eq_true rfl) dX7_name_5 (fun q_1 u_1 z_1 => ?_)
  obtain ⟨rfl, rfl⟩ := z_1
  refine tv_if_ne C 13 dX7_name_8 (by decide) (fun c_2 => ?_) (fun c_2 => ?_)
  · skip
    obtain ⟨j_p0, hj_p0, ej_p0, ek_p0⟩ := in_ix e7 (by omega) c_2
    refine tv_aload_n C dX7_name_13 rfl 0 rfl ?_
    refine tv_get (ci := 7) (Cn := RX7) (T := TX7) (Nf := 7) (v := .ref (tv_ad c 2)) C 0 (by decide) rfl rfl in_X7_name_X7 1 (by decide) lk_X7_name_20 rfl dX7_name_14 ?_
    refine tv_get (ci := 6) (Cn := RX6) (T := TX6) (Nf := 11) (v := .ref (tv_ad c 4)) C 2 (by decide) rfl rfl in_X7_name_X6 1 (by decide) lk_X7_name_146 rfl dX7_name_17 ?_
    refine tv_iload_n C dX7_name_20 rfl 1 rfl ?_
    refine tv_aald (Cn := RX1) (a := tv_ad c (48 + j_p0)) C 4 (by decide) rfl 4 rfl j_p0 ej_p0 (show j_p0 < 6 by omega) (by decide) rfl dX7_name_21 ?_
    refine tv_get (ci := 1) (Cn := RX1) (T := TX1) (Nf := 2) (v := .int (s 15 j_p0)) C (48 + j_p0) (by omega) (eX_at_k c s r (by omega)) rfl in_X7_name_X1 1 (by decide) lk_X7_name_150 rfl dX7_name_22 ?_
    refine tv_iconst (v := 2) C dX7_name_25 (by decide) ?_
    refine tv_icmp_ne C 37 dX7_name_26 (by decide) (fun c_3 => ?_) (fun c_3 => ?_)
    · skip
      refine tv_aload_n C dX7_name_37 rfl 0 rfl ?_
      refine tv_iconst (v := 4) C dX7_name_38 (by decide) ?_
      refine tv_callv (As := [.int 4]) (rest := []) (ci := 7) (cn := RX7) (T := TX7) (Nf := 7) C 0 (kX7_mark c s r  4 ) gX7_name_X7_mark rfl yd_X7_mark ⟨rfl, rfl⟩ (by decide) (by decide) rfl rfl rfl rfl (Nat.le_of_ble_eq_true rfl) dX7_name_39 (fun u_4 z_4 => ?_)
      subst z_4
      refine tv_iload_n C dX7_name_42 rfl 1 rfl ?_
      exact hR _ _ _ _ dX7_name_43 ⟨by first | (simp only [sp_name, sp_tr, c_2, ek_p0, c_3, if_true, ↓reduceIte]; done) | rfl | (simp [sp_name, sp_tr, c_2, ek_p0, c_3, if_true]; done) | (exfalso; clear hR C; simp_all; done), by first | (simp only [sp_name, sp_tr, c_2, ek_p0, c_3, if_true, ts_ss, ts_aa, ↓reduceIte]; done) | rfl | (simp [sp_name, sp_tr, c_2, ek_p0, c_3, if_true, ts_ss, ts_aa]; done) | (exfalso; clear hR C; simp_all; done)⟩
    · skip
      refine tv_aload_n C dX7_name_29 rfl 0 rfl ?_
      refine tv_iconst (v := 5) C dX7_name_30 (by decide) ?_
      refine tv_callv (As := [.int 5]) (rest := []) (ci := 7) (cn := RX7) (T := TX7) (Nf := 7) C 0 (kX7_mark c s r  5 ) gX7_name_X7_mark rfl yd_X7_mark ⟨rfl, rfl⟩ (by decide) (by decide) rfl rfl rfl rfl (Nat.le_of_ble_eq_true rfl) dX7_name_31 (fun u_5 z_5 => ?_)
      subst z_5
      refine tv_bipush (v := 90) C dX7_name_34 (by decide) ?_
      exact hR _ _ _ _ dX7_name_36 ⟨by first | (simp only [sp_name, sp_tr, c_2, ek_p0, eq_true c_3, if_true, ↓reduceIte]; done) | rfl | (simp [sp_name, sp_tr, c_2, ek_p0, eq_true c_3, if_true]; done) | (exfalso; clear hR C; simp_all; done), by first | (simp only [sp_name, sp_tr, c_2, ek_p0, eq_true c_3, if_true, ts_ss, ts_aa, ↓reduceIte]; done) | rfl | (simp [sp_name, sp_tr, c_2, ek_p0, eq_true c_3, if_true, ts_ss, ts_aa]; done) | (exfalso; clear hR C; simp_all; done)⟩
  · skip
    refine tv_iconst (v := (-1)) C dX7_name_11 (by decide) ?_
    exact hR _ _ _ _ dX7_name_12 ⟨by first | (simp only [sp_name, sp_tr, eq_true c_2, if_true, ↓reduceIte]; done) | rfl | (simp [sp_name, sp_tr, eq_true c_2, if_true]; done) | (exfalso; clear hR C; simp_all; done), by first | (simp only [sp_name, sp_tr, eq_true c_2, if_true, ts_ss, ts_aa, ↓reduceIte]; done) | rfl | (simp [sp_name, sp_tr, eq_true c_2, if_true, ts_ss, ts_aa]; done) | (exfalso; clear hR C; simp_all; done)⟩
set_option maxHeartbeats 4000000 in
set_option maxRecDepth 100000 in
theorem kX7_as (c : tv_c) (s r : ts_T)  (p0 p1 : Int32) (hI : iv s) : tv_Fi c 60 yX7_as wsX7_as { frames := 2, cells := 0, slots := 0, locals := 42 } [.ref (tv_ad c 0), .int p0, .int p1] (eX c s r) ((sp_as s p0 p1).1) (eX c (sp_as s p0 p1).2 r) := by
  refine tv_metI (by decide +kernel) rfl rfl (Nat.le_of_ble_eq_true rfl) (fun X C hR => ?_)
  show tv_V c 60 X (eX c s r) 0 [(0, .ref (tv_ad c 0)), (1, .int p0), (2, .int p1)] []
  have hC := iv.hC hI
  obtain ⟨h, w, n, nk, nl, ny, nm, li, e2, e3, e9, hnw, hh, hw, hn, hz, hp, e7, hk, e8, hl, e4, hy, e5, hm, e6, hli, hcel, hkin, hban, hwei, hshe⟩ := id hI
  refine tv_aload_n C dX7_as_0 rfl 0 rfl ?_
  refine tv_iconst (v := 0) C dX7_as_1 (by decide) ?_
  refine tv_put (ci := 7) (Cn := RX7) (T := TX7) (Nf := 7) (ty := .int) (E' := (eX c (ts_s s 0 0) r)) C 0 (by decide) rfl rfl in_X7_as_X7 tyX7 tyX7_ok nmX7 6 (by decide) lk_X7_as_50 rfl (by decide +kernel) rfl rfl (Nat.le_of_ble_eq_true rfl) (eX_u_latestFault c s r 0) dX7_as_2 ?_
  refine tv_aload_n C dX7_as_5 rfl 0 rfl ?_
  refine tv_get (ci := 7) (Cn := RX7) (T := TX7) (Nf := 7) (v := .ref (tv_ad c 2)) C 0 (by decide) rfl rfl in_X7_as_X7 1 (by decide) lk_X7_as_20 rfl dX7_as_6 ?_
  refine tv_iload_n C dX7_as_9 rfl 1 rfl ?_
  refine tv_calli (As := [.int p0]) (rest := []) (ci := 6) (cn := RX6) (T := TX6) (Nf := 11) C 2 (kX6_hasCoat c (ts_s s 0 0) r  p0 ) gX7_as_X6_hasCoat rfl yd_X6_hasCoat ⟨rfl, rfl⟩ (by decide) (by decide) rfl rfl rfl rfl (Nat.le_of_ble_eq_true rfl) dX7_as_10 (fun q_1 u_1 z_1 => ?_)
  obtain ⟨rfl, rfl⟩ := z_1
  show tv_V c 60 X (eX c (ts_s s 0 0) r) 13 [(0, .ref (tv_ad c 0)), (1, .int p0), (2, .int p1)] [.int (sp_ix p0 (s 7 0))]
  refine tv_if_ne C 18 dX7_as_13 (by decide) (fun c_2 => ?_) (fun c_2 => ?_)
  · skip
    obtain ⟨j_p0, hj_p0, ej_p0, ek_p0⟩ := in_ix e7 (by omega) c_2
    refine tv_iload_n C dX7_as_18 rfl 2 rfl ?_
    refine tv_callis (As := [.int p1]) (rest := []) C (kX7_isKind c (ts_s s 0 0) r  p1 ) gX7_as_X7_isKind rfl yd_X7_isKind ⟨rfl, rfl⟩ (by decide) rfl rfl (Nat.le_of_ble_eq_true rfl) dX7_as_19 (fun q_3 u_3 z_3 => ?_)
    obtain ⟨rfl, rfl⟩ := z_3
    show tv_V c 60 X (eX c (ts_s s 0 0) r) 22 [(0, .ref (tv_ad c 0)), (1, .int p0), (2, .int p1)] [.int (sp_in p1 0 2)]
    refine tv_if_ne C 28 dX7_as_22 (by decide) (fun c_4 => ?_) (fun c_4 => ?_)
    · skip
      obtain ⟨j_p1, hj_p1, ej_p1, ek_p1⟩ := in_in (b := 2) (by decide) c_4
      refine tv_aload_n C dX7_as_28 rfl 0 rfl ?_
      refine tv_get (ci := 7) (Cn := RX7) (T := TX7) (Nf := 7) (v := .ref (tv_ad c 2)) C 0 (by decide) rfl rfl in_X7_as_X7 1 (by decide) lk_X7_as_20 rfl dX7_as_29 ?_
      refine tv_get (ci := 6) (Cn := RX6) (T := TX6) (Nf := 11) (v := .ref (tv_ad c 4)) C 2 (by decide) rfl rfl in_X7_as_X6 1 (by decide) lk_X7_as_146 rfl dX7_as_32 ?_
      refine tv_iload_n C dX7_as_35 rfl 1 rfl ?_
      refine tv_aald (Cn := RX1) (a := tv_ad c (48 + j_p0)) C 4 (by decide) rfl 4 rfl j_p0 ej_p0 (show j_p0 < 6 by omega) (by decide) rfl dX7_as_36 ?_
      refine tv_get (ci := 1) (Cn := RX1) (T := TX1) (Nf := 2) (v := .int (s 15 j_p0)) C (48 + j_p0) (by omega) (eX_at_k c (ts_s s 0 0) r (by omega)) rfl in_X7_as_X1 1 (by decide) lk_X7_as_150 rfl dX7_as_37 ?_
      refine tv_iload_n C dX7_as_40 rfl 2 rfl ?_
      refine tv_icmp_ge C 52 dX7_as_41 (by decide) (fun c_5 => ?_) (fun c_5 => ?_)
      · skip
        refine tv_iconst (v := 1) C dX7_as_52 (by decide) ?_
        exact hR _ _ _ _ dX7_as_53 ⟨by first | (simp only [sp_as, c_2, ek_p0, c_4, ek_p1, c_5, tn_d_le c_5, if_true, ↓reduceIte]; done) | rfl | (simp [sp_as, c_2, ek_p0, c_4, ek_p1, c_5, tn_d_le c_5, if_true]; done) | (exfalso; clear hR C; simp_all; done), by first | (simp only [sp_as, c_2, ek_p0, c_4, ek_p1, c_5, tn_d_le c_5, if_true, ts_ss, ts_aa, ↓reduceIte]; done) | rfl | (simp [sp_as, c_2, ek_p0, c_4, ek_p1, c_5, tn_d_le c_5, if_true, ts_ss, ts_aa]; done) | (exfalso; clear hR C; simp_all; done)⟩
      · skip
        refine tv_aload_n C dX7_as_44 rfl 0 rfl ?_
        refine tv_iconst (v := 2) C dX7_as_45 (by decide) ?_
        refine tv_calli (As := [.int 2]) (rest := []) (ci := 7) (cn := RX7) (T := TX7) (Nf := 7) C 0 (kX7_failed c (ts_s s 0 0) r  2 ) gX7_as_X7_failed rfl yd_X7_failed ⟨rfl, rfl⟩ (by decide) (by decide) rfl rfl rfl rfl (Nat.le_of_ble_eq_true rfl) dX7_as_46 (fun q_6 u_6 z_6 => ?_)
        obtain ⟨rfl, rfl⟩ := z_6
        show tv_V c 60 X (eX c (ts_s (ts_s s 0 0) 0 2) r) 49 [(0, .ref (tv_ad c 0)), (1, .int p0), (2, .int p1)] [.int ((-10) - 2)]
        refine tv_eqE (E' := (eX c (ts_s s 0 2) r)) (congrArg (fun z => eX c z r) (by funext zz; rcases Classical.em (zz = 0) with hzz | h_0; (subst hzz; rfl); simp only [ts_s, ts_a, h_0, ↓reduceIte])) ?_
        show tv_V c 60 X (eX c (ts_s s 0 2) r) 49 [(0, .ref (tv_ad c 0)), (1, .int p0), (2, .int p1)] [.int ((-10) - 2)]
        refine tv_goto C 53 dX7_as_49 (by decide) ?_
        exact hR _ _ _ _ dX7_as_53 ⟨by first | (simp only [sp_as, c_2, ek_p0, c_4, ek_p1, c_5, tn_d_nle c_5, if_true, ↓reduceIte]; done) | rfl | (simp [sp_as, c_2, ek_p0, c_4, ek_p1, c_5, tn_d_nle c_5, if_true]; done) | (exfalso; clear hR C; simp_all; done), by first | (simp only [sp_as, c_2, ek_p0, c_4, ek_p1, c_5, tn_d_nle c_5, if_true, ts_ss, ts_aa, ↓reduceIte]; done) | rfl | (simp [sp_as, c_2, ek_p0, c_4, ek_p1, c_5, tn_d_nle c_5, if_true, ts_ss, ts_aa]; done) | (exfalso; clear hR C; simp_all; done)⟩
    · skip
      refine tv_bipush (v := (-2)) C dX7_as_25 (by decide) ?_
      exact hR _ _ _ _ dX7_as_27 ⟨by first | (simp only [sp_as, c_2, ek_p0, eq_true c_4, if_true, ↓reduceIte]; done) | rfl | (simp [sp_as, c_2, ek_p0, eq_true c_4, if_true]; done) | (exfalso; clear hR C; simp_all; done), by first | (simp only [sp_as, c_2, ek_p0, eq_true c_4, if_true, ts_ss, ts_aa, ↓reduceIte]; done) | rfl | (simp [sp_as, c_2, ek_p0, eq_true c_4, if_true, ts_ss, ts_aa]; done) | (exfalso; clear hR C; simp_all; done)⟩
  · skip
    refine tv_iconst (v := (-1)) C dX7_as_16 (by decide) ?_
    exact hR _ _ _ _ dX7_as_17 ⟨by first | (simp only [sp_as, eq_true c_2, if_true, ↓reduceIte]; done) | rfl | (simp [sp_as, eq_true c_2, if_true]; done) | (exfalso; clear hR C; simp_all; done), by first | (simp only [sp_as, eq_true c_2, if_true, ts_ss, ts_aa, ↓reduceIte]; done) | rfl | (simp [sp_as, eq_true c_2, if_true, ts_ss, ts_aa]; done) | (exfalso; clear hR C; simp_all; done)⟩
set_option maxHeartbeats 4000000 in
set_option maxRecDepth 100000 in
theorem kX7_many (c : tv_c) (s r : ts_T)  (p0 : Int32) (hI : iv s) : tv_Fi c 60 yX7_many wsX7_many { frames := 0, cells := 0, slots := 0, locals := 0 } [.ref (tv_ad c 0), .int p0] (eX c s r) (sp_many s p0) (eX c s r) := by
  refine tv_metI (by decide +kernel) rfl rfl (Nat.le_of_ble_eq_true rfl) (fun X C hR => ?_)
  show tv_V c 60 X (eX c s r) 0 [(0, .ref (tv_ad c 0)), (1, .int p0)] []
  have hC := iv.hC hI
  obtain ⟨h, w, n, nk, nl, ny, nm, li, e2, e3, e9, hnw, hh, hw, hn, hz, hp, e7, hk, e8, hl, e4, hy, e5, hm, e6, hli, hcel, hkin, hban, hwei, hshe⟩ := id hI
  refine tv_iload_n C dX7_many_0 rfl 1 rfl ?_
  by_cases c_1 : p0 = 0
  · skip
    refine tv_tableIn C 44 dX7_many_1 (by rw [c_1]; decide) (by rw [c_1]; decide) (by rw [c_1]; rfl) (by decide) ?_
    refine tv_aload_n C dX7_many_44 rfl 0 rfl ?_
    refine tv_get (ci := 7) (Cn := RX7) (T := TX7) (Nf := 7) (v := .ref (tv_ad c 2)) C 0 (by decide) rfl rfl in_X7_many_X7 1 (by decide) lk_X7_many_20 rfl dX7_many_45 ?_
    refine tv_get (ci := 6) (Cn := RX6) (T := TX6) (Nf := 11) (v := .int (s 9 0)) C 2 (by decide) rfl rfl in_X7_many_X6 5 (by decide) lk_X7_many_80 rfl dX7_many_48 ?_
    exact hR _ _ _ _ dX7_many_51 ⟨by first | (simp only [sp_many, eq_true c_1, if_true, ↓reduceIte]; done) | rfl | (simp [sp_many, eq_true c_1, if_true]; done) | (exfalso; clear hR C; simp_all; done), by first | (simp only [sp_many, eq_true c_1, if_true, ts_ss, ts_aa, ↓reduceIte]; done) | rfl | (simp [sp_many, eq_true c_1, if_true, ts_ss, ts_aa]; done) | (exfalso; clear hR C; simp_all; done)⟩
  by_cases c_2 : p0 = 1
  · skip
    refine tv_tableIn C 52 dX7_many_1 (by rw [c_2]; decide) (by rw [c_2]; decide) (by rw [c_2]; rfl) (by decide) ?_
    refine tv_aload_n C dX7_many_52 rfl 0 rfl ?_
    refine tv_get (ci := 7) (Cn := RX7) (T := TX7) (Nf := 7) (v := .ref (tv_ad c 2)) C 0 (by decide) rfl rfl in_X7_many_X7 1 (by decide) lk_X7_many_20 rfl dX7_many_53 ?_
    refine tv_get (ci := 6) (Cn := RX6) (T := TX6) (Nf := 11) (v := .int (s 3 0)) C 2 (by decide) rfl rfl in_X7_many_X6 4 (by decide) lk_X7_many_285 rfl dX7_many_56 ?_
    exact hR _ _ _ _ dX7_many_59 ⟨by first | (simp only [sp_many, c_1, eq_true c_2, if_true, ↓reduceIte]; done) | rfl | (simp [sp_many, c_1, eq_true c_2, if_true]; done) | (exfalso; clear hR C; simp_all; done), by first | (simp only [sp_many, c_1, eq_true c_2, if_true, ts_ss, ts_aa, ↓reduceIte]; done) | rfl | (simp [sp_many, c_1, eq_true c_2, if_true, ts_ss, ts_aa]; done) | (exfalso; clear hR C; simp_all; done)⟩
  by_cases c_3 : p0 = 2
  · skip
    refine tv_tableIn C 60 dX7_many_1 (by rw [c_3]; decide) (by rw [c_3]; decide) (by rw [c_3]; rfl) (by decide) ?_
    refine tv_aload_n C dX7_many_60 rfl 0 rfl ?_
    refine tv_get (ci := 7) (Cn := RX7) (T := TX7) (Nf := 7) (v := .ref (tv_ad c 2)) C 0 (by decide) rfl rfl in_X7_many_X7 1 (by decide) lk_X7_many_20 rfl dX7_many_61 ?_
    refine tv_get (ci := 6) (Cn := RX6) (T := TX6) (Nf := 11) (v := .int (s 7 0)) C 2 (by decide) rfl rfl in_X7_many_X6 6 (by decide) lk_X7_many_136 rfl dX7_many_64 ?_
    exact hR _ _ _ _ dX7_many_67 ⟨by first | (simp only [sp_many, c_1, c_2, eq_true c_3, if_true, ↓reduceIte]; done) | rfl | (simp [sp_many, c_1, c_2, eq_true c_3, if_true]; done) | (exfalso; clear hR C; simp_all; done), by first | (simp only [sp_many, c_1, c_2, eq_true c_3, if_true, ts_ss, ts_aa, ↓reduceIte]; done) | rfl | (simp [sp_many, c_1, c_2, eq_true c_3, if_true, ts_ss, ts_aa]; done) | (exfalso; clear hR C; simp_all; done)⟩
  by_cases c_4 : p0 = 3
  · skip
    refine tv_tableIn C 68 dX7_many_1 (by rw [c_4]; decide) (by rw [c_4]; decide) (by rw [c_4]; rfl) (by decide) ?_
    refine tv_aload_n C dX7_many_68 rfl 0 rfl ?_
    refine tv_get (ci := 7) (Cn := RX7) (T := TX7) (Nf := 7) (v := .ref (tv_ad c 2)) C 0 (by decide) rfl rfl in_X7_many_X7 1 (by decide) lk_X7_many_20 rfl dX7_many_69 ?_
    refine tv_get (ci := 6) (Cn := RX6) (T := TX6) (Nf := 11) (v := .int (s 8 0)) C 2 (by decide) rfl rfl in_X7_many_X6 7 (by decide) lk_X7_many_166 rfl dX7_many_72 ?_
    exact hR _ _ _ _ dX7_many_75 ⟨by first | (simp only [sp_many, c_1, c_2, c_3, eq_true c_4, if_true, ↓reduceIte]; done) | rfl | (simp [sp_many, c_1, c_2, c_3, eq_true c_4, if_true]; done) | (exfalso; clear hR C; simp_all; done), by first | (simp only [sp_many, c_1, c_2, c_3, eq_true c_4, if_true, ts_ss, ts_aa, ↓reduceIte]; done) | rfl | (simp [sp_many, c_1, c_2, c_3, eq_true c_4, if_true, ts_ss, ts_aa]; done) | (exfalso; clear hR C; simp_all; done)⟩
  by_cases c_5 : p0 = 4
  · skip
    refine tv_tableIn C 76 dX7_many_1 (by rw [c_5]; decide) (by rw [c_5]; decide) (by rw [c_5]; rfl) (by decide) ?_
    refine tv_aload_n C dX7_many_76 rfl 0 rfl ?_
    refine tv_get (ci := 7) (Cn := RX7) (T := TX7) (Nf := 7) (v := .ref (tv_ad c 2)) C 0 (by decide) rfl rfl in_X7_many_X7 1 (by decide) lk_X7_many_20 rfl dX7_many_77 ?_
    refine tv_get (ci := 6) (Cn := RX6) (T := TX6) (Nf := 11) (v := .int (s 4 0)) C 2 (by decide) rfl rfl in_X7_many_X6 8 (by decide) lk_X7_many_122 rfl dX7_many_80 ?_
    exact hR _ _ _ _ dX7_many_83 ⟨by first | (simp only [sp_many, c_1, c_2, c_3, c_4, eq_true c_5, if_true, ↓reduceIte]; done) | rfl | (simp [sp_many, c_1, c_2, c_3, c_4, eq_true c_5, if_true]; done) | (exfalso; clear hR C; simp_all; done), by first | (simp only [sp_many, c_1, c_2, c_3, c_4, eq_true c_5, if_true, ts_ss, ts_aa, ↓reduceIte]; done) | rfl | (simp [sp_many, c_1, c_2, c_3, c_4, eq_true c_5, if_true, ts_ss, ts_aa]; done) | (exfalso; clear hR C; simp_all; done)⟩
  by_cases c_6 : p0 = 5
  · skip
    refine tv_tableIn C 84 dX7_many_1 (by rw [c_6]; decide) (by rw [c_6]; decide) (by rw [c_6]; rfl) (by decide) ?_
    refine tv_aload_n C dX7_many_84 rfl 0 rfl ?_
    refine tv_get (ci := 7) (Cn := RX7) (T := TX7) (Nf := 7) (v := .ref (tv_ad c 2)) C 0 (by decide) rfl rfl in_X7_many_X7 1 (by decide) lk_X7_many_20 rfl dX7_many_85 ?_
    refine tv_get (ci := 6) (Cn := RX6) (T := TX6) (Nf := 11) (v := .int (s 5 0)) C 2 (by decide) rfl rfl in_X7_many_X6 9 (by decide) lk_X7_many_116 rfl dX7_many_88 ?_
    exact hR _ _ _ _ dX7_many_91 ⟨by first | (simp only [sp_many, c_1, c_2, c_3, c_4, c_5, eq_true c_6, if_true, ↓reduceIte]; done) | rfl | (simp [sp_many, c_1, c_2, c_3, c_4, c_5, eq_true c_6, if_true]; done) | (exfalso; clear hR C; simp_all; done), by first | (simp only [sp_many, c_1, c_2, c_3, c_4, c_5, eq_true c_6, if_true, ts_ss, ts_aa, ↓reduceIte]; done) | rfl | (simp [sp_many, c_1, c_2, c_3, c_4, c_5, eq_true c_6, if_true, ts_ss, ts_aa]; done) | (exfalso; clear hR C; simp_all; done)⟩
  by_cases c_7 : p0 = 6
  · skip
    refine tv_tableIn C 92 dX7_many_1 (by rw [c_7]; decide) (by rw [c_7]; decide) (by rw [c_7]; rfl) (by decide) ?_
    refine tv_aload_n C dX7_many_92 rfl 0 rfl ?_
    refine tv_get (ci := 7) (Cn := RX7) (T := TX7) (Nf := 7) (v := .ref (tv_ad c 2)) C 0 (by decide) rfl rfl in_X7_many_X7 1 (by decide) lk_X7_many_20 rfl dX7_many_93 ?_
    refine tv_get (ci := 6) (Cn := RX6) (T := TX6) (Nf := 11) (v := .int (s 6 0)) C 2 (by decide) rfl rfl in_X7_many_X6 10 (by decide) lk_X7_many_119 rfl dX7_many_96 ?_
    exact hR _ _ _ _ dX7_many_99 ⟨by first | (simp only [sp_many, c_1, c_2, c_3, c_4, c_5, c_6, eq_true c_7, if_true, ↓reduceIte]; done) | rfl | (simp [sp_many, c_1, c_2, c_3, c_4, c_5, c_6, eq_true c_7, if_true]; done) | (exfalso; clear hR C; simp_all; done), by first | (simp only [sp_many, c_1, c_2, c_3, c_4, c_5, c_6, eq_true c_7, if_true, ts_ss, ts_aa, ↓reduceIte]; done) | rfl | (simp [sp_many, c_1, c_2, c_3, c_4, c_5, c_6, eq_true c_7, if_true, ts_ss, ts_aa]; done) | (exfalso; clear hR C; simp_all; done)⟩
  refine tv_tableOut C 100 dX7_many_1 (tn_out7 c_1 c_2 c_3 c_4 c_5 c_6 c_7) (by decide) ?_
  refine tv_bipush (v := (-2)) C dX7_many_100 (by decide) ?_
  exact hR _ _ _ _ dX7_many_102 ⟨by first | (simp only [sp_many, c_1, c_2, c_3, c_4, c_5, c_6, c_7, if_true, ↓reduceIte]; done) | rfl | (simp [sp_many, c_1, c_2, c_3, c_4, c_5, c_6, c_7, if_true]; done) | (exfalso; clear hR C; simp_all; done), by first | (simp only [sp_many, c_1, c_2, c_3, c_4, c_5, c_6, c_7, if_true, ts_ss, ts_aa, ↓reduceIte]; done) | rfl | (simp [sp_many, c_1, c_2, c_3, c_4, c_5, c_6, c_7, if_true, ts_ss, ts_aa]; done) | (exfalso; clear hR C; simp_all; done)⟩
set_option maxHeartbeats 4000000 in
set_option maxRecDepth 100000 in
theorem kX7_ofCell (c : tv_c) (s r : ts_T)  (p0 p1 : Int32) (hI : iv s) : tv_Fi c 60 yX7_ofCell wsX7_ofCell { frames := 1, cells := 0, slots := 0, locals := 21 } [.ref (tv_ad c 0), .int p0, .int p1] (eX c s r) (sp_ofCell s p0 p1) (eX c s r) := by
  refine tv_metI (by decide +kernel) rfl rfl (Nat.le_of_ble_eq_true rfl) (fun X C hR => ?_)
  show tv_V c 60 X (eX c s r) 0 [(0, .ref (tv_ad c 0)), (1, .int p0), (2, .int p1)] []
  have hC := iv.hC hI
  obtain ⟨h, w, n, nk, nl, ny, nm, li, e2, e3, e9, hnw, hh, hw, hn, hz, hp, e7, hk, e8, hl, e4, hy, e5, hm, e6, hli, hcel, hkin, hban, hwei, hshe⟩ := id hI
  refine tv_aload_n C dX7_ofCell_0 rfl 0 rfl ?_
  refine tv_get (ci := 7) (Cn := RX7) (T := TX7) (Nf := 7) (v := .ref (tv_ad c 2)) C 0 (by decide) rfl rfl in_X7_ofCell_X7 1 (by decide) lk_X7_ofCell_20 rfl dX7_ofCell_1 ?_
  refine tv_iload_n C dX7_ofCell_4 rfl 1 rfl ?_
  refine tv_calli (As := [.int p0]) (rest := []) (ci := 6) (cn := RX6) (T := TX6) (Nf := 11) C 2 (kX6_hasCell c s r  p0 ) gX7_ofCell_X6_hasCell rfl yd_X6_hasCell ⟨rfl, rfl⟩ (by decide) (by decide) rfl rfl rfl rfl (Nat.le_of_ble_eq_true rfl) dX7_ofCell_5 (fun q_1 u_1 z_1 => ?_)
  obtain ⟨rfl, rfl⟩ := z_1
  refine tv_if_ne C 13 dX7_ofCell_8 (by decide) (fun c_2 => ?_) (fun c_2 => ?_)
  · skip
    obtain ⟨j_p0, hj_p0, ej_p0, ek_p0⟩ := in_ix e9 (by omega) c_2
    obtain ⟨fs_p0, ⟨b_p0, hb_p0, eb_p0⟩, fh_p0, fa_p0, fz_p0⟩ := hcel j_p0 hj_p0
    refine tv_aload_n C dX7_ofCell_13 rfl 0 rfl ?_
    refine tv_get (ci := 7) (Cn := RX7) (T := TX7) (Nf := 7) (v := .ref (tv_ad c 2)) C 0 (by decide) rfl rfl in_X7_ofCell_X7 1 (by decide) lk_X7_ofCell_20 rfl dX7_ofCell_14 ?_
    refine tv_get (ci := 6) (Cn := RX6) (T := TX6) (Nf := 11) (v := .ref (tv_ad c 3)) C 2 (by decide) rfl rfl in_X7_ofCell_X6 0 (by decide) lk_X7_ofCell_86 rfl dX7_ofCell_17 ?_
    refine tv_iload_n C dX7_ofCell_20 rfl 1 rfl ?_
    refine tv_aald (Cn := RX0) (a := tv_ad c (24 + j_p0)) C 3 (by decide) rfl 3 rfl j_p0 ej_p0 (show j_p0 < 24 by omega) (by decide) rfl dX7_ofCell_21 ?_
    refine tv_astore_n (lv' := [(3, .ref (tv_ad c (24 + j_p0))), (0, .ref (tv_ad c 0)), (1, .int p0), (2, .int p1)]) C dX7_ofCell_22 rfl (by decide) rfl ?_
    refine tv_iload_n C dX7_ofCell_23 rfl 3 rfl ?_
    by_cases c_3 : p1 = 0
    · skip
      refine tv_tableIn C 60 dX7_ofCell_24 (by rw [c_3]; decide) (by rw [c_3]; decide) (by rw [c_3]; rfl) (by decide) ?_
      refine tv_aload_n C dX7_ofCell_60 rfl 0 rfl ?_
      refine tv_get (ci := 0) (Cn := RX0) (T := TX0) (Nf := 5) (v := .int (s 10 j_p0)) C (24 + j_p0) (by omega) (eX_at_c c s r (by omega)) rfl in_X7_ofCell_X0 0 (by decide) lk_X7_ofCell_90 rfl dX7_ofCell_61 ?_
      exact hR _ _ _ _ dX7_ofCell_64 ⟨by first | (simp only [sp_ofCell, c_2, ek_p0, eq_true c_3, if_true, ↓reduceIte]; done) | rfl | (simp [sp_ofCell, c_2, ek_p0, eq_true c_3, if_true]; done) | (exfalso; clear hR C; simp_all; done), by first | (simp only [sp_ofCell, c_2, ek_p0, eq_true c_3, if_true, ts_ss, ts_aa, ↓reduceIte]; done) | rfl | (simp [sp_ofCell, c_2, ek_p0, eq_true c_3, if_true, ts_ss, ts_aa]; done) | (exfalso; clear hR C; simp_all; done)⟩
    by_cases c_4 : p1 = 1
    · skip
      refine tv_tableIn C 65 dX7_ofCell_24 (by rw [c_4]; decide) (by rw [c_4]; decide) (by rw [c_4]; rfl) (by decide) ?_
      refine tv_aload_n C dX7_ofCell_65 rfl 0 rfl ?_
      refine tv_get (ci := 0) (Cn := RX0) (T := TX0) (Nf := 5) (v := .int (s 11 j_p0)) C (24 + j_p0) (by omega) (eX_at_c c s r (by omega)) rfl in_X7_ofCell_X0 1 (by decide) lk_X7_ofCell_95 rfl dX7_ofCell_66 ?_
      exact hR _ _ _ _ dX7_ofCell_69 ⟨by first | (simp only [sp_ofCell, c_2, ek_p0, c_3, eq_true c_4, if_true, ↓reduceIte]; done) | rfl | (simp [sp_ofCell, c_2, ek_p0, c_3, eq_true c_4, if_true]; done) | (exfalso; clear hR C; simp_all; done), by first | (simp only [sp_ofCell, c_2, ek_p0, c_3, eq_true c_4, if_true, ts_ss, ts_aa, ↓reduceIte]; done) | rfl | (simp [sp_ofCell, c_2, ek_p0, c_3, eq_true c_4, if_true, ts_ss, ts_aa]; done) | (exfalso; clear hR C; simp_all; done)⟩
    by_cases c_5 : p1 = 2
    · skip
      refine tv_tableIn C 70 dX7_ofCell_24 (by rw [c_5]; decide) (by rw [c_5]; decide) (by rw [c_5]; rfl) (by decide) ?_
      refine tv_aload_n C dX7_ofCell_70 rfl 0 rfl ?_
      refine tv_get (ci := 0) (Cn := RX0) (T := TX0) (Nf := 5) (v := .int (s 12 j_p0)) C (24 + j_p0) (by omega) (eX_at_c c s r (by omega)) rfl in_X7_ofCell_X0 2 (by decide) lk_X7_ofCell_98 rfl dX7_ofCell_71 ?_
      exact hR _ _ _ _ dX7_ofCell_74 ⟨by first | (simp only [sp_ofCell, c_2, ek_p0, c_3, c_4, eq_true c_5, if_true, ↓reduceIte]; done) | rfl | (simp [sp_ofCell, c_2, ek_p0, c_3, c_4, eq_true c_5, if_true]; done) | (exfalso; clear hR C; simp_all; done), by first | (simp only [sp_ofCell, c_2, ek_p0, c_3, c_4, eq_true c_5, if_true, ts_ss, ts_aa, ↓reduceIte]; done) | rfl | (simp [sp_ofCell, c_2, ek_p0, c_3, c_4, eq_true c_5, if_true, ts_ss, ts_aa]; done) | (exfalso; clear hR C; simp_all; done)⟩
    by_cases c_6 : p1 = 3
    · skip
      refine tv_tableIn C 75 dX7_ofCell_24 (by rw [c_6]; decide) (by rw [c_6]; decide) (by rw [c_6]; rfl) (by decide) ?_
      refine tv_aload_n C dX7_ofCell_75 rfl 0 rfl ?_
      refine tv_get (ci := 0) (Cn := RX0) (T := TX0) (Nf := 5) (v := .int (s 13 j_p0)) C (24 + j_p0) (by omega) (eX_at_c c s r (by omega)) rfl in_X7_ofCell_X0 3 (by decide) lk_X7_ofCell_101 rfl dX7_ofCell_76 ?_
      exact hR _ _ _ _ dX7_ofCell_79 ⟨by first | (simp only [sp_ofCell, c_2, ek_p0, c_3, c_4, c_5, eq_true c_6, if_true, ↓reduceIte]; done) | rfl | (simp [sp_ofCell, c_2, ek_p0, c_3, c_4, c_5, eq_true c_6, if_true]; done) | (exfalso; clear hR C; simp_all; done), by first | (simp only [sp_ofCell, c_2, ek_p0, c_3, c_4, c_5, eq_true c_6, if_true, ts_ss, ts_aa, ↓reduceIte]; done) | rfl | (simp [sp_ofCell, c_2, ek_p0, c_3, c_4, c_5, eq_true c_6, if_true, ts_ss, ts_aa]; done) | (exfalso; clear hR C; simp_all; done)⟩
    by_cases c_7 : p1 = 4
    · skip
      refine tv_tableIn C 80 dX7_ofCell_24 (by rw [c_7]; decide) (by rw [c_7]; decide) (by rw [c_7]; rfl) (by decide) ?_
      refine tv_aload_n C dX7_ofCell_80 rfl 0 rfl ?_
      refine tv_get (ci := 0) (Cn := RX0) (T := TX0) (Nf := 5) (v := .int (s 14 j_p0)) C (24 + j_p0) (by omega) (eX_at_c c s r (by omega)) rfl in_X7_ofCell_X0 4 (by decide) lk_X7_ofCell_104 rfl dX7_ofCell_81 ?_
      refine tv_if_eq C 91 dX7_ofCell_84 (by decide) (fun c_8 => ?_) (fun c_8 => ?_)
      · skip
        refine tv_iconst (v := 0) C dX7_ofCell_91 (by decide) ?_
        exact hR _ _ _ _ dX7_ofCell_92 ⟨by first | (simp only [sp_ofCell, c_2, ek_p0, c_3, c_4, c_5, c_6, eq_true c_7, eq_true c_8, if_true, ↓reduceIte]; done) | rfl | (simp [sp_ofCell, c_2, ek_p0, c_3, c_4, c_5, c_6, eq_true c_7, eq_true c_8, if_true]; done) | (exfalso; clear hR C; simp_all; done), by first | (simp only [sp_ofCell, c_2, ek_p0, c_3, c_4, c_5, c_6, eq_true c_7, eq_true c_8, if_true, ts_ss, ts_aa, ↓reduceIte]; done) | rfl | (simp [sp_ofCell, c_2, ek_p0, c_3, c_4, c_5, c_6, eq_true c_7, eq_true c_8, if_true, ts_ss, ts_aa]; done) | (exfalso; clear hR C; simp_all; done)⟩
      · skip
        refine tv_iconst (v := 1) C dX7_ofCell_87 (by decide) ?_
        refine tv_goto C 92 dX7_ofCell_88 (by decide) ?_
        exact hR _ _ _ _ dX7_ofCell_92 ⟨by first | (simp only [sp_ofCell, c_2, ek_p0, c_3, c_4, c_5, c_6, eq_true c_7, c_8, if_true, ↓reduceIte]; done) | rfl | (simp [sp_ofCell, c_2, ek_p0, c_3, c_4, c_5, c_6, eq_true c_7, c_8, if_true]; done) | (exfalso; clear hR C; simp_all; done), by first | (simp only [sp_ofCell, c_2, ek_p0, c_3, c_4, c_5, c_6, eq_true c_7, c_8, if_true, ts_ss, ts_aa, ↓reduceIte]; done) | rfl | (simp [sp_ofCell, c_2, ek_p0, c_3, c_4, c_5, c_6, eq_true c_7, c_8, if_true, ts_ss, ts_aa]; done) | (exfalso; clear hR C; simp_all; done)⟩
    refine tv_tableOut C 93 dX7_ofCell_24 (tn_out5 c_3 c_4 c_5 c_6 c_7) (by decide) ?_
    refine tv_bipush (v := (-2)) C dX7_ofCell_93 (by decide) ?_
    exact hR _ _ _ _ dX7_ofCell_95 ⟨by first | (simp only [sp_ofCell, c_2, ek_p0, c_3, c_4, c_5, c_6, c_7, if_true, ↓reduceIte]; done) | rfl | (simp [sp_ofCell, c_2, ek_p0, c_3, c_4, c_5, c_6, c_7, if_true]; done) | (exfalso; clear hR C; simp_all; done), by first | (simp only [sp_ofCell, c_2, ek_p0, c_3, c_4, c_5, c_6, c_7, if_true, ts_ss, ts_aa, ↓reduceIte]; done) | rfl | (simp [sp_ofCell, c_2, ek_p0, c_3, c_4, c_5, c_6, c_7, if_true, ts_ss, ts_aa]; done) | (exfalso; clear hR C; simp_all; done)⟩
  · skip
    refine tv_iconst (v := (-1)) C dX7_ofCell_11 (by decide) ?_
    exact hR _ _ _ _ dX7_ofCell_12 ⟨by first | (simp only [sp_ofCell, eq_true c_2, if_true, ↓reduceIte]; done) | rfl | (simp [sp_ofCell, eq_true c_2, if_true]; done) | (exfalso; clear hR C; simp_all; done), by first | (simp only [sp_ofCell, eq_true c_2, if_true, ts_ss, ts_aa, ↓reduceIte]; done) | rfl | (simp [sp_ofCell, eq_true c_2, if_true, ts_ss, ts_aa]; done) | (exfalso; clear hR C; simp_all; done)⟩
set_option maxHeartbeats 4000000 in
set_option maxRecDepth 100000 in
theorem kX7_set (c : tv_c) (s r : ts_T)  (p0 p1 : Int32) (hI : iv s) : tv_Fi c 60 yX7_set wsX7_set { frames := 1, cells := 0, slots := 0, locals := 22 } [.ref (tv_ad c 0), .int p0, .int p1] (eX c s r) ((sp_set s p0 p1).1) (eX c (sp_set s p0 p1).2 r) := by
  refine tv_metI (by decide +kernel) rfl rfl (Nat.le_of_ble_eq_true rfl) (fun X C hR => ?_)
  show tv_V c 60 X (eX c s r) 0 [(0, .ref (tv_ad c 0)), (1, .int p0), (2, .int p1)] []
  have hC := iv.hC hI
  obtain ⟨h, w, n, nk, nl, ny, nm, li, e2, e3, e9, hnw, hh, hw, hn, hz, hp, e7, hk, e8, hl, e4, hy, e5, hm, e6, hli, hcel, hkin, hban, hwei, hshe⟩ := id hI
  refine tv_iload_n C dX7_set_0 rfl 1 rfl ?_
  refine tv_iconst (v := 0) C dX7_set_1 (by decide) ?_
  refine tv_iconst (v := 1) C dX7_set_2 (by decide) ?_
  refine tv_callis (As := [.int p0, .int 0, .int 1]) (rest := []) C (kX7_isWithin c s r  p0 0 1 ) gX7_set_X7_isWithin rfl yd_X7_isWithin ⟨rfl, rfl⟩ (by decide) rfl rfl (Nat.le_of_ble_eq_true rfl) dX7_set_3 (fun q_1 u_1 z_1 => ?_)
  obtain ⟨rfl, rfl⟩ := z_1
  refine tv_if_eq C 29 dX7_set_6 (by decide) (fun c_2 => ?_) (fun c_2 => ?_)
  · skip
    refine tv_bipush (v := (-2)) C dX7_set_29 (by decide) ?_
    exact hR _ _ _ _ dX7_set_31 ⟨by first | (simp only [sp_set, eq_true c_2, if_true, ↓reduceIte]; done) | rfl | (simp [sp_set, eq_true c_2, if_true]; done) | (exfalso; clear hR C; simp_all; done), by first | (simp only [sp_set, eq_true c_2, if_true, ts_ss, ts_aa, ↓reduceIte]; done) | rfl | (simp [sp_set, eq_true c_2, if_true, ts_ss, ts_aa]; done) | (exfalso; clear hR C; simp_all; done)⟩
  · skip
    obtain ⟨j_p0, hj_p0, ej_p0, ek_p0⟩ := in_in (b := 1) (by decide) c_2
    refine tv_iload_n C dX7_set_9 rfl 2 rfl ?_
    refine tv_iconst (v := 0) C dX7_set_10 (by decide) ?_
    refine tv_iload_n C dX7_set_11 rfl 1 rfl ?_
    refine tv_if_ne C 20 dX7_set_12 (by decide) (fun c_3 => ?_) (fun c_3 => ?_)
    · skip
      refine tv_sipush (v := 999) C dX7_set_20 (by decide) ?_
      refine tv_callis (As := [.int p1, .int 0, .int 999]) (rest := []) C (kX7_isWithin c s r  p1 0 999 ) gX7_set_X7_isWithin rfl yd_X7_isWithin ⟨rfl, rfl⟩ (by decide) rfl rfl (Nat.le_of_ble_eq_true rfl) dX7_set_23 (fun q_4 u_4 z_4 => ?_)
      obtain ⟨rfl, rfl⟩ := z_4
      refine tv_if_ne C 32 dX7_set_26 (by decide) (fun c_5 => ?_) (fun c_5 => ?_)
      · skip
        obtain ⟨j_p1, hj_p1, ej_p1, ek_p1⟩ := in_in (b := 999) (by decide) c_5
        refine tv_aload_n C dX7_set_32 rfl 0 rfl ?_
        refine tv_get (ci := 7) (Cn := RX7) (T := TX7) (Nf := 7) (v := .ref (tv_ad c 2)) C 0 (by decide) rfl rfl in_X7_set_X7 1 (by decide) lk_X7_set_20 rfl dX7_set_33 ?_
        refine tv_calli (As := []) (rest := []) (ci := 6) (cn := RX6) (T := TX6) (Nf := 11) C 2 (kX6_stands c s r n  e9 hn) gX7_set_X6_stands rfl yd_X6_stands ⟨rfl, rfl⟩ (by decide) (by decide) rfl rfl rfl rfl (Nat.le_of_ble_eq_true rfl) dX7_set_36 (fun q_6 u_6 z_6 => ?_)
        obtain ⟨rfl, rfl⟩ := z_6
        refine tv_if_ne C 45 dX7_set_39 (by decide) (fun c_7 => ?_) (fun c_7 => ?_)
        · skip
          have mc_7 := sz_n c_7
          refine tv_iload_n C dX7_set_45 rfl 1 rfl ?_
          refine tv_if_ne C 59 dX7_set_46 (by decide) (fun c_8 => ?_) (fun c_8 => absurd c_8 c_3)
          refine tv_aload_n C dX7_set_59 rfl 0 rfl ?_
          refine tv_get (ci := 7) (Cn := RX7) (T := TX7) (Nf := 7) (v := .ref (tv_ad c 2)) C 0 (by decide) rfl rfl in_X7_set_X7 1 (by decide) lk_X7_set_20 rfl dX7_set_60 ?_
          refine tv_get (ci := 6) (Cn := RX6) (T := TX6) (Nf := 11) (v := .int (s 6 0)) C 2 (by decide) rfl rfl in_X7_set_X6 10 (by decide) lk_X7_set_119 rfl dX7_set_63 ?_
          refine tv_istore_n (lv' := [(3, .int (s 6 0)), (0, .ref (tv_ad c 0)), (1, .int p0), (2, .int p1)]) C dX7_set_66 rfl (by decide) rfl ?_
          refine tv_iload_n C dX7_set_67 rfl 2 rfl ?_
          refine tv_if_ne C 82 dX7_set_68 (by decide) (fun c_9 => ?_) (fun c_9 => absurd c_9 c_3)
          refine tv_aload_n C dX7_set_82 rfl 1 rfl ?_
          refine tv_get (ci := 7) (Cn := RX7) (T := TX7) (Nf := 7) (v := .ref (tv_ad c 2)) C 0 (by decide) rfl rfl in_X7_set_X7 1 (by decide) lk_X7_set_20 rfl dX7_set_83 ?_
          refine tv_iload_n C dX7_set_86 rfl 3 rfl ?_
          refine tv_put (ci := 6) (Cn := RX6) (T := TX6) (Nf := 11) (ty := .int) (E' := (eX c (ts_s s 6 p1) r)) C 2 (by decide) rfl rfl in_X7_set_X6 tyX6 tyX6_ok nmX6 10 (by decide) lk_X7_set_119 rfl (by decide +kernel) rfl rfl (Nat.le_of_ble_eq_true rfl) (eX_u_line c s r p1) dX7_set_87 ?_
          refine tv_iload_n C dX7_set_90 rfl 0 rfl ?_
          exact hR _ _ _ _ dX7_set_91 ⟨by first | (simp only [sp_set, c_2, ek_p0, c_3, c_5, ek_p1, c_7, mc_7, c_8, c_9, if_true, ↓reduceIte]; done) | rfl | (simp [sp_set, c_2, ek_p0, c_3, c_5, ek_p1, c_7, mc_7, c_8, c_9, if_true]; done) | (exfalso; clear hR C; simp_all; done), by first | (simp only [sp_set, c_2, ek_p0, c_3, c_5, ek_p1, c_7, mc_7, c_8, c_9, if_true, ts_ss, ts_aa, ↓reduceIte]; done) | rfl | (simp [sp_set, c_2, ek_p0, c_3, c_5, ek_p1, c_7, mc_7, c_8, c_9, if_true, ts_ss, ts_aa]; done) | (exfalso; clear hR C; simp_all; done)⟩
        · skip
          have mc_7 := sz_e c_7
          refine tv_bipush (v := (-3)) C dX7_set_42 (by decide) ?_
          exact hR _ _ _ _ dX7_set_44 ⟨by first | (simp only [sp_set, c_2, ek_p0, c_3, c_5, ek_p1, eq_true c_7, eq_true mc_7, if_true, ↓reduceIte]; done) | rfl | (simp [sp_set, c_2, ek_p0, c_3, c_5, ek_p1, eq_true c_7, eq_true mc_7, if_true]; done) | (exfalso; clear hR C; simp_all; done), by first | (simp only [sp_set, c_2, ek_p0, c_3, c_5, ek_p1, eq_true c_7, eq_true mc_7, if_true, ts_ss, ts_aa, ↓reduceIte]; done) | rfl | (simp [sp_set, c_2, ek_p0, c_3, c_5, ek_p1, eq_true c_7, eq_true mc_7, if_true, ts_ss, ts_aa]; done) | (exfalso; clear hR C; simp_all; done)⟩
      · skip
        refine tv_bipush (v := (-2)) C dX7_set_29 (by decide) ?_
        exact hR _ _ _ _ dX7_set_31 ⟨by first | (simp only [sp_set, c_2, ek_p0, c_3, eq_true c_5, if_true, ↓reduceIte]; done) | rfl | (simp [sp_set, c_2, ek_p0, c_3, eq_true c_5, if_true]; done) | (exfalso; clear hR C; simp_all; done), by first | (simp only [sp_set, c_2, ek_p0, c_3, eq_true c_5, if_true, ts_ss, ts_aa, ↓reduceIte]; done) | rfl | (simp [sp_set, c_2, ek_p0, c_3, eq_true c_5, if_true, ts_ss, ts_aa]; done) | (exfalso; clear hR C; simp_all; done)⟩
    · skip
      refine tv_bipush (v := 9) C dX7_set_15 (by decide) ?_
      refine tv_goto C 23 dX7_set_17 (by decide) ?_
      refine tv_callis (As := [.int p1, .int 0, .int 9]) (rest := []) C (kX7_isWithin c s r  p1 0 9 ) gX7_set_X7_isWithin rfl yd_X7_isWithin ⟨rfl, rfl⟩ (by decide) rfl rfl (Nat.le_of_ble_eq_true rfl) dX7_set_23 (fun q_10 u_10 z_10 => ?_)
      obtain ⟨rfl, rfl⟩ := z_10
      refine tv_if_ne C 32 dX7_set_26 (by decide) (fun c_11 => ?_) (fun c_11 => ?_)
      · skip
        obtain ⟨j_p1, hj_p1, ej_p1, ek_p1⟩ := in_in (b := 9) (by decide) c_11
        refine tv_aload_n C dX7_set_32 rfl 0 rfl ?_
        refine tv_get (ci := 7) (Cn := RX7) (T := TX7) (Nf := 7) (v := .ref (tv_ad c 2)) C 0 (by decide) rfl rfl in_X7_set_X7 1 (by decide) lk_X7_set_20 rfl dX7_set_33 ?_
        refine tv_calli (As := []) (rest := []) (ci := 6) (cn := RX6) (T := TX6) (Nf := 11) C 2 (kX6_stands c s r n  e9 hn) gX7_set_X6_stands rfl yd_X6_stands ⟨rfl, rfl⟩ (by decide) (by decide) rfl rfl rfl rfl (Nat.le_of_ble_eq_true rfl) dX7_set_36 (fun q_12 u_12 z_12 => ?_)
        obtain ⟨rfl, rfl⟩ := z_12
        refine tv_if_ne C 45 dX7_set_39 (by decide) (fun c_13 => ?_) (fun c_13 => ?_)
        · skip
          have mc_13 := sz_n c_13
          refine tv_iload_n C dX7_set_45 rfl 1 rfl ?_
          refine tv_if_ne C 59 dX7_set_46 (by decide) (fun c_14 => absurd c_3 c_14) (fun c_14 => ?_)
          refine tv_aload_n C dX7_set_49 rfl 0 rfl ?_
          refine tv_get (ci := 7) (Cn := RX7) (T := TX7) (Nf := 7) (v := .ref (tv_ad c 2)) C 0 (by decide) rfl rfl in_X7_set_X7 1 (by decide) lk_X7_set_20 rfl dX7_set_50 ?_
          refine tv_get (ci := 6) (Cn := RX6) (T := TX6) (Nf := 11) (v := .int (s 5 0)) C 2 (by decide) rfl rfl in_X7_set_X6 9 (by decide) lk_X7_set_116 rfl dX7_set_53 ?_
          refine tv_goto C 66 dX7_set_56 (by decide) ?_
          refine tv_istore_n (lv' := [(3, .int (s 5 0)), (0, .ref (tv_ad c 0)), (1, .int p0), (2, .int p1)]) C dX7_set_66 rfl (by decide) rfl ?_
          refine tv_iload_n C dX7_set_67 rfl 2 rfl ?_
          refine tv_if_ne C 82 dX7_set_68 (by decide) (fun c_15 => absurd c_3 c_15) (fun c_15 => ?_)
          refine tv_aload_n C dX7_set_71 rfl 1 rfl ?_
          refine tv_get (ci := 7) (Cn := RX7) (T := TX7) (Nf := 7) (v := .ref (tv_ad c 2)) C 0 (by decide) rfl rfl in_X7_set_X7 1 (by decide) lk_X7_set_20 rfl dX7_set_72 ?_
          refine tv_iload_n C dX7_set_75 rfl 3 rfl ?_
          refine tv_put (ci := 6) (Cn := RX6) (T := TX6) (Nf := 11) (ty := .int) (E' := (eX c (ts_s s 5 p1) r)) C 2 (by decide) rfl rfl in_X7_set_X6 tyX6 tyX6_ok nmX6 9 (by decide) lk_X7_set_116 rfl (by decide +kernel) rfl rfl (Nat.le_of_ble_eq_true rfl) (eX_u_smoke c s r p1) dX7_set_76 ?_
          refine tv_goto C 90 dX7_set_79 (by decide) ?_
          refine tv_iload_n C dX7_set_90 rfl 0 rfl ?_
          exact hR _ _ _ _ dX7_set_91 ⟨by first | (simp only [sp_set, c_2, ek_p0, eq_true c_3, c_11, ek_p1, c_13, mc_13, eq_true c_14, eq_true c_15, if_true, ↓reduceIte]; done) | rfl | (simp [sp_set, c_2, ek_p0, eq_true c_3, c_11, ek_p1, c_13, mc_13, eq_true c_14, eq_true c_15, if_true]; done) | (exfalso; clear hR C; simp_all; done), by first | (simp only [sp_set, c_2, ek_p0, eq_true c_3, c_11, ek_p1, c_13, mc_13, eq_true c_14, eq_true c_15, if_true, ts_ss, ts_aa, ↓reduceIte]; done) | rfl | (simp [sp_set, c_2, ek_p0, eq_true c_3, c_11, ek_p1, c_13, mc_13, eq_true c_14, eq_true c_15, if_true, ts_ss, ts_aa]; done) | (exfalso; clear hR C; simp_all; done)⟩
        · skip
          have mc_13 := sz_e c_13
          refine tv_bipush (v := (-3)) C dX7_set_42 (by decide) ?_
          exact hR _ _ _ _ dX7_set_44 ⟨by first | (simp only [sp_set, c_2, ek_p0, eq_true c_3, c_11, ek_p1, eq_true c_13, eq_true mc_13, if_true, ↓reduceIte]; done) | rfl | (simp [sp_set, c_2, ek_p0, eq_true c_3, c_11, ek_p1, eq_true c_13, eq_true mc_13, if_true]; done) | (exfalso; clear hR C; simp_all; done), by first | (simp only [sp_set, c_2, ek_p0, eq_true c_3, c_11, ek_p1, eq_true c_13, eq_true mc_13, if_true, ts_ss, ts_aa, ↓reduceIte]; done) | rfl | (simp [sp_set, c_2, ek_p0, eq_true c_3, c_11, ek_p1, eq_true c_13, eq_true mc_13, if_true, ts_ss, ts_aa]; done) | (exfalso; clear hR C; simp_all; done)⟩
      · skip
        refine tv_bipush (v := (-2)) C dX7_set_29 (by decide) ?_
        exact hR _ _ _ _ dX7_set_31 ⟨by first | (simp only [sp_set, c_2, ek_p0, eq_true c_3, eq_true c_11, if_true, ↓reduceIte]; done) | rfl | (simp [sp_set, c_2, ek_p0, eq_true c_3, eq_true c_11, if_true]; done) | (exfalso; clear hR C; simp_all; done), by first | (simp only [sp_set, c_2, ek_p0, eq_true c_3, eq_true c_11, if_true, ts_ss, ts_aa, ↓reduceIte]; done) | rfl | (simp [sp_set, c_2, ek_p0, eq_true c_3, eq_true c_11, if_true, ts_ss, ts_aa]; done) | (exfalso; clear hR C; simp_all; done)⟩
set_option maxHeartbeats 4000000 in
set_option maxRecDepth 100000 in
theorem kX7_hang (c : tv_c) (s r : ts_T)  (p0 p1 : Int32) (hI : iv s) (hz1 : p1 = 0 ∨ p1 = 1) : tv_Fi c 60 yX7_hang wsX7_hang { frames := 1, cells := 0, slots := 0, locals := 21 } [.ref (tv_ad c 0), .int p0, .int p1] (eX c s r) ((sp_hang s p0 p1).1) (eX c (sp_hang s p0 p1).2 r) := by
  refine tv_metI (by decide +kernel) rfl rfl (Nat.le_of_ble_eq_true rfl) (fun X C hR => ?_)
  show tv_V c 60 X (eX c s r) 0 [(0, .ref (tv_ad c 0)), (1, .int p0), (2, .int p1)] []
  have hC := iv.hC hI
  obtain ⟨h, w, n, nk, nl, ny, nm, li, e2, e3, e9, hnw, hh, hw, hn, hz, hp, e7, hk, e8, hl, e4, hy, e5, hm, e6, hli, hcel, hkin, hban, hwei, hshe⟩ := id hI
  refine tv_aload_n C dX7_hang_0 rfl 0 rfl ?_
  refine tv_get (ci := 7) (Cn := RX7) (T := TX7) (Nf := 7) (v := .ref (tv_ad c 2)) C 0 (by decide) rfl rfl in_X7_hang_X7 1 (by decide) lk_X7_hang_20 rfl dX7_hang_1 ?_
  refine tv_iload_n C dX7_hang_4 rfl 1 rfl ?_
  refine tv_calli (As := [.int p0]) (rest := []) (ci := 6) (cn := RX6) (T := TX6) (Nf := 11) C 2 (kX6_hasCell c s r  p0 ) gX7_hang_X6_hasCell rfl yd_X6_hasCell ⟨rfl, rfl⟩ (by decide) (by decide) rfl rfl rfl rfl (Nat.le_of_ble_eq_true rfl) dX7_hang_5 (fun q_1 u_1 z_1 => ?_)
  obtain ⟨rfl, rfl⟩ := z_1
  refine tv_if_ne C 13 dX7_hang_8 (by decide) (fun c_2 => ?_) (fun c_2 => ?_)
  · skip
    obtain ⟨j_p0, hj_p0, ej_p0, ek_p0⟩ := in_ix e9 (by omega) c_2
    obtain ⟨fs_p0, ⟨b_p0, hb_p0, eb_p0⟩, fh_p0, fa_p0, fz_p0⟩ := hcel j_p0 hj_p0
    refine tv_aload_n C dX7_hang_13 rfl 0 rfl ?_
    refine tv_get (ci := 7) (Cn := RX7) (T := TX7) (Nf := 7) (v := .ref (tv_ad c 2)) C 0 (by decide) rfl rfl in_X7_hang_X7 1 (by decide) lk_X7_hang_20 rfl dX7_hang_14 ?_
    refine tv_get (ci := 6) (Cn := RX6) (T := TX6) (Nf := 11) (v := .ref (tv_ad c 3)) C 2 (by decide) rfl rfl in_X7_hang_X6 0 (by decide) lk_X7_hang_86 rfl dX7_hang_17 ?_
    refine tv_iload_n C dX7_hang_20 rfl 1 rfl ?_
    refine tv_aald (Cn := RX0) (a := tv_ad c (24 + j_p0)) C 3 (by decide) rfl 3 rfl j_p0 ej_p0 (show j_p0 < 24 by omega) (by decide) rfl dX7_hang_21 ?_
    refine tv_astore_n (lv' := [(3, .ref (tv_ad c (24 + j_p0))), (0, .ref (tv_ad c 0)), (1, .int p0), (2, .int p1)]) C dX7_hang_22 rfl (by decide) rfl ?_
    refine tv_aload_n C dX7_hang_23 rfl 0 rfl ?_
    refine tv_get (ci := 0) (Cn := RX0) (T := TX0) (Nf := 5) (v := .int (s 14 j_p0)) C (24 + j_p0) (by omega) (eX_at_c c s r (by omega)) rfl in_X7_hang_X0 4 (by decide) lk_X7_hang_104 rfl dX7_hang_24 ?_
    refine tv_istore (lv' := [(4, .int (s 14 j_p0)), (3, .ref (tv_ad c (24 + j_p0))), (0, .ref (tv_ad c 0)), (1, .int p0), (2, .int p1)]) C dX7_hang_27 (by decide) rfl ?_
    refine tv_aload_n C dX7_hang_29 rfl 1 rfl ?_
    refine tv_iload_n C dX7_hang_30 rfl 4 rfl ?_
    refine tv_put (ci := 0) (Cn := RX0) (T := TX0) (Nf := 5) (ty := .boolean) (E' := (eX c (ts_a s 14 (upd (s 14) j_p0 p1)) r)) C (24 + j_p0) (by omega) (eX_at_c c s r (by omega)) rfl in_X7_hang_X0 tyX0 tyX0_ok nmX0 4 (by decide) lk_X7_hang_104 rfl (by decide +kernel) (tn_nz hz1) (tn_fz hz1) (Nat.le_of_ble_eq_true rfl) (eX_u_c_hidden c s r (by omega) p1) dX7_hang_31 ?_
    refine tv_iload C dX7_hang_34 0 rfl ?_
    refine tv_iload_n C dX7_hang_36 rfl 4 rfl ?_
    refine tv_icmp_ne C 44 dX7_hang_37 (by decide) (fun c_3 => ?_) (fun c_3 => ?_)
    · skip
      refine tv_iconst (v := 1) C dX7_hang_44 (by decide) ?_
      exact hR _ _ _ _ dX7_hang_45 ⟨by first | (simp only [sp_hang, c_2, ek_p0, c_3, if_true, ↓reduceIte]; done) | rfl | (simp [sp_hang, c_2, ek_p0, c_3, if_true]; done) | (exfalso; clear hR C; simp_all; done), by first | (simp only [sp_hang, c_2, ek_p0, c_3, if_true, ts_ss, ts_aa, ↓reduceIte]; done) | rfl | (simp [sp_hang, c_2, ek_p0, c_3, if_true, ts_ss, ts_aa]; done) | (exfalso; clear hR C; simp_all; done)⟩
    · skip
      refine tv_iconst (v := 0) C dX7_hang_40 (by decide) ?_
      refine tv_goto C 45 dX7_hang_41 (by decide) ?_
      exact hR _ _ _ _ dX7_hang_45 ⟨by first | (simp only [sp_hang, c_2, ek_p0, eq_true c_3, if_true, ↓reduceIte]; done) | rfl | (simp [sp_hang, c_2, ek_p0, eq_true c_3, if_true]; done) | (exfalso; clear hR C; simp_all; done), by first | (simp only [sp_hang, c_2, ek_p0, eq_true c_3, if_true, ts_ss, ts_aa, ↓reduceIte]; done) | rfl | (simp [sp_hang, c_2, ek_p0, eq_true c_3, if_true, ts_ss, ts_aa]; done) | (exfalso; clear hR C; simp_all; done)⟩
  · skip
    refine tv_iconst (v := (-1)) C dX7_hang_11 (by decide) ?_
    exact hR _ _ _ _ dX7_hang_12 ⟨by first | (simp only [sp_hang, eq_true c_2, if_true, ↓reduceIte]; done) | rfl | (simp [sp_hang, eq_true c_2, if_true]; done) | (exfalso; clear hR C; simp_all; done), by first | (simp only [sp_hang, eq_true c_2, if_true, ts_ss, ts_aa, ↓reduceIte]; done) | rfl | (simp [sp_hang, eq_true c_2, if_true, ts_ss, ts_aa]; done) | (exfalso; clear hR C; simp_all; done)⟩
set_option maxHeartbeats 4000000 in
set_option maxRecDepth 100000 in
theorem kX7_years (c : tv_c) (s r : ts_T)  (p0 : Int32) (hI : iv s) : tv_Fi c 60 yX7_years wsX7_years { frames := 2, cells := 0, slots := 0, locals := 43 } [.ref (tv_ad c 0), .int p0] (eX c s r) ((sp_years s p0).1) (eX c (sp_years s p0).2 r) := by
  refine tv_metI (by decide +kernel) rfl rfl (Nat.le_of_ble_eq_true rfl) (fun X C hR => ?_)
  show tv_V c 60 X (eX c s r) 0 [(0, .ref (tv_ad c 0)), (1, .int p0)] []
  have hC := iv.hC hI
  obtain ⟨h, w, n, nk, nl, ny, nm, li, e2, e3, e9, hnw, hh, hw, hn, hz, hp, e7, hk, e8, hl, e4, hy, e5, hm, e6, hli, hcel, hkin, hban, hwei, hshe⟩ := id hI
  have ek9 := tk_e e9 (by omega)
  refine tv_iload_n C dX7_years_0 rfl 1 rfl ?_
  refine tv_iconst (v := 0) C dX7_years_1 (by decide) ?_
  refine tv_bipush (v := 40) C dX7_years_2 (by decide) ?_
  refine tv_aload_n C dX7_years_4 rfl 0 rfl ?_
  refine tv_get (ci := 7) (Cn := RX7) (T := TX7) (Nf := 7) (v := .ref (tv_ad c 2)) C 0 (by decide) rfl rfl in_X7_years_X7 1 (by decide) lk_X7_years_20 rfl dX7_years_5 ?_
  refine tv_get (ci := 6) (Cn := RX6) (T := TX6) (Nf := 11) (v := .int (s 4 0)) C 2 (by decide) rfl rfl in_X7_years_X6 8 (by decide) lk_X7_years_122 rfl dX7_years_8 ?_
  refine tv_isub C dX7_years_11 ?_
  refine tv_callis (As := [.int p0, .int 0, .int (40 - (s 4 0))]) (rest := []) C (kX7_isWithin c s r  p0 0 (40 - (s 4 0)) ) gX7_years_X7_isWithin rfl yd_X7_isWithin ⟨rfl, rfl⟩ (by decide) rfl rfl (Nat.le_of_ble_eq_true rfl) dX7_years_12 (fun q_1 u_1 z_1 => ?_)
  obtain ⟨rfl, rfl⟩ := z_1
  refine tv_if_ne C 21 dX7_years_15 (by decide) (fun c_2 => ?_) (fun c_2 => ?_)
  · skip
    refine tv_aload_n C dX7_years_21 rfl 0 rfl ?_
    refine tv_get (ci := 7) (Cn := RX7) (T := TX7) (Nf := 7) (v := .ref (tv_ad c 2)) C 0 (by decide) rfl rfl in_X7_years_X7 1 (by decide) lk_X7_years_20 rfl dX7_years_22 ?_
    refine tv_calli (As := []) (rest := []) (ci := 6) (cn := RX6) (T := TX6) (Nf := 11) C 2 (kX6_stands c s r n  e9 hn) gX7_years_X6_stands rfl yd_X6_stands ⟨rfl, rfl⟩ (by decide) (by decide) rfl rfl rfl rfl (Nat.le_of_ble_eq_true rfl) dX7_years_25 (fun q_3 u_3 z_3 => ?_)
    obtain ⟨rfl, rfl⟩ := z_3
    refine tv_if_ne C 34 dX7_years_28 (by decide) (fun c_4 => ?_) (fun c_4 => ?_)
    · skip
      have mc_4 := sz_n c_4
      refine tv_aload_n C dX7_years_34 rfl 0 rfl ?_
      refine tv_get (ci := 7) (Cn := RX7) (T := TX7) (Nf := 7) (v := .ref (tv_ad c 2)) C 0 (by decide) rfl rfl in_X7_years_X7 1 (by decide) lk_X7_years_20 rfl dX7_years_35 ?_
      refine tv_iload_n C dX7_years_38 rfl 1 rfl ?_
      refine tv_callv (As := [.int p0]) (rest := []) (ci := 6) (cn := RX6) (T := TX6) (Nf := 11) C 2 (kX6_age c s r n p0 e9 hn) gX7_years_X6_age rfl yd_X6_age ⟨rfl, rfl⟩ (by decide) (by decide) rfl rfl rfl rfl (Nat.le_of_ble_eq_true rfl) dX7_years_39 (fun u_5 z_5 => ?_)
      subst z_5
      refine tv_aload_n C dX7_years_42 rfl 0 rfl ?_
      refine tv_get (ci := 7) (Cn := RX7) (T := TX7) (Nf := 7) (v := .ref (tv_ad c 2)) C 0 (by decide) rfl rfl in_X7_years_X7 1 (by decide) lk_X7_years_20 rfl dX7_years_43 ?_
      refine tv_get (ci := 6) (Cn := RX6) (T := TX6) (Nf := 11) (v := .int (s 4 0 + p0)) C 2 (by decide) rfl rfl in_X7_years_X6 8 (by decide) lk_X7_years_122 rfl dX7_years_46 ?_
      exact hR _ _ _ _ dX7_years_49 ⟨by rw [years_eq e4 hy]; simp only [ek9, c_2, c_4, mc_4, ↓reduceIte], by rw [years_eq e4 hy]; simp only [ek9, c_2, c_4, mc_4, ↓reduceIte]; exact congrArg (fun z => eX c z r) (by funext a; simp only [ts_s, ts_a]; (repeat' split) <;> first | rfl | (exfalso; omega))⟩
    · skip
      have mc_4 := sz_e c_4
      refine tv_bipush (v := (-3)) C dX7_years_31 (by decide) ?_
      exact hR _ _ _ _ dX7_years_33 ⟨by rw [years_eq e4 hy]; simp only [ek9, c_2, eq_true c_4, eq_true mc_4, ↓reduceIte], by rw [years_eq e4 hy]; simp only [ek9, c_2, eq_true c_4, eq_true mc_4, ↓reduceIte]⟩
  · skip
    refine tv_bipush (v := (-2)) C dX7_years_18 (by decide) ?_
    exact hR _ _ _ _ dX7_years_20 ⟨by rw [years_eq e4 hy]; simp only [ek9, eq_true c_2, ↓reduceIte], by rw [years_eq e4 hy]; simp only [ek9, eq_true c_2, ↓reduceIte]⟩
set_option maxHeartbeats 4000000 in
set_option maxRecDepth 100000 in
theorem kX7_coat (c : tv_c) (s r : ts_T)  (p0 p1 p2 p3 : Int32) (hI : iv s) : tv_Fi c 60 yX7_coat wsX7_coat { frames := 2, cells := 0, slots := 0, locals := 45 } [.ref (tv_ad c 0), .int p0, .int p1, .int p2, .int p3] (eX c s r) ((sp_coat s p0 p1 p2 p3).1) (eX c (sp_coat s p0 p1 p2 p3).2 r) := by
  refine tv_metI (by decide +kernel) rfl rfl (Nat.le_of_ble_eq_true rfl) (fun X C hR => ?_)
  show tv_V c 60 X (eX c s r) 0 [(0, .ref (tv_ad c 0)), (1, .int p0), (2, .int p1), (3, .int p2), (4, .int p3)] []
  have hC := iv.hC hI
  obtain ⟨h, w, n, nk, nl, ny, nm, li, e2, e3, e9, hnw, hh, hw, hn, hz, hp, e7, hk, e8, hl, e4, hy, e5, hm, e6, hli, hcel, hkin, hban, hwei, hshe⟩ := id hI
  have ek7 := tk_e e7 (by omega)
  refine tv_iload_n C dX7_coat_0 rfl 1 rfl ?_
  refine tv_callis (As := [.int p0]) (rest := []) C (kX7_isKind c s r  p0 ) gX7_coat_X7_isKind rfl yd_X7_isKind ⟨rfl, rfl⟩ (by decide) rfl rfl (Nat.le_of_ble_eq_true rfl) dX7_coat_1 (fun q_1 u_1 z_1 => ?_)
  obtain ⟨rfl, rfl⟩ := z_1
  refine tv_if_eq C 19 dX7_coat_4 (by decide) (fun c_2 => ?_) (fun c_2 => ?_)
  · skip
    refine tv_bipush (v := (-2)) C dX7_coat_19 (by decide) ?_
    exact hR _ _ _ _ dX7_coat_21 ⟨by rw [coat_eq e7 hk]; simp only [ek7, eq_true c_2, ↓reduceIte], by rw [coat_eq e7 hk]; simp only [ek7, eq_true c_2, ↓reduceIte]⟩
  · skip
    obtain ⟨j_p0, hj_p0, ej_p0, ek_p0⟩ := in_in (b := 2) (by decide) c_2
    refine tv_iload_n C dX7_coat_7 rfl 2 rfl ?_
    refine tv_iload_n C dX7_coat_8 rfl 3 rfl ?_
    refine tv_iload C dX7_coat_9 4 rfl ?_
    refine tv_bipush (v := 99) C dX7_coat_11 (by decide) ?_
    refine tv_callis (As := [.int p1, .int p2, .int p3, .int 99]) (rest := []) C (kX7_areWithin c s r  p1 p2 p3 99 ) gX7_coat_X7_areWithin rfl yd_X7_areWithin ⟨rfl, rfl⟩ (by decide) rfl rfl (Nat.le_of_ble_eq_true rfl) dX7_coat_13 (fun q_3 u_3 z_3 => ?_)
    obtain ⟨rfl, rfl⟩ := z_3
    refine tv_if_ne C 22 dX7_coat_16 (by decide) (fun c_4 => ?_) (fun c_4 => ?_)
    · skip
      refine tv_aload_n C dX7_coat_22 rfl 0 rfl ?_
      refine tv_get (ci := 7) (Cn := RX7) (T := TX7) (Nf := 7) (v := .ref (tv_ad c 2)) C 0 (by decide) rfl rfl in_X7_coat_X7 1 (by decide) lk_X7_coat_20 rfl dX7_coat_23 ?_
      refine tv_calli (As := []) (rest := []) (ci := 6) (cn := RX6) (T := TX6) (Nf := 11) C 2 (kX6_stands c s r n  e9 hn) gX7_coat_X6_stands rfl yd_X6_stands ⟨rfl, rfl⟩ (by decide) (by decide) rfl rfl rfl rfl (Nat.le_of_ble_eq_true rfl) dX7_coat_26 (fun q_5 u_5 z_5 => ?_)
      obtain ⟨rfl, rfl⟩ := z_5
      refine tv_if_ne C 35 dX7_coat_29 (by decide) (fun c_6 => ?_) (fun c_6 => ?_)
      · skip
        have mc_6 := sz_n c_6
        refine tv_aload_n C dX7_coat_35 rfl 0 rfl ?_
        refine tv_get (ci := 7) (Cn := RX7) (T := TX7) (Nf := 7) (v := .ref (tv_ad c 2)) C 0 (by decide) rfl rfl in_X7_coat_X7 1 (by decide) lk_X7_coat_20 rfl dX7_coat_36 ?_
        refine tv_get (ci := 6) (Cn := RX6) (T := TX6) (Nf := 11) (v := .int (s 7 0)) C 2 (by decide) rfl rfl in_X7_coat_X6 6 (by decide) lk_X7_coat_136 rfl dX7_coat_39 ?_
        refine tv_bipush (v := 6) C dX7_coat_42 (by decide) ?_
        refine tv_icmp_lt C 50 dX7_coat_44 (by decide) (fun c_7 => ?_) (fun c_7 => ?_)
        · skip
          have nc_7 : nk < 6 := (tn_ltI e7 (tn_l 6) (by omega) (by omega)).mp c_7
          refine tv_aload_n C dX7_coat_50 rfl 0 rfl ?_
          refine tv_get (ci := 7) (Cn := RX7) (T := TX7) (Nf := 7) (v := .ref (tv_ad c 2)) C 0 (by decide) rfl rfl in_X7_coat_X7 1 (by decide) lk_X7_coat_20 rfl dX7_coat_51 ?_
          refine tv_iload_n C dX7_coat_54 rfl 1 rfl ?_
          refine tv_iload_n C dX7_coat_55 rfl 2 rfl ?_
          refine tv_iload_n C dX7_coat_56 rfl 3 rfl ?_
          refine tv_iload C dX7_coat_57 4 rfl ?_
          refine tv_calli (As := [.int p0, .int p1, .int p2, .int p3]) (rest := []) (ci := 6) (cn := RX6) (T := TX6) (Nf := 11) C 2 (kX6_addCoat c s r nk p0 p1 p2 p3 (by omega) e7) gX7_coat_X6_addCoat rfl yd_X6_addCoat ⟨rfl, rfl⟩ (by decide) (by decide) rfl rfl rfl rfl (Nat.le_of_ble_eq_true rfl) dX7_coat_59 (fun q_8 u_8 z_8 => ?_)
          obtain ⟨rfl, rfl⟩ := z_8
          exact hR _ _ _ _ dX7_coat_62 ⟨by rw [coat_eq e7 hk]; simp only [ek7, c_2, ek_p0, c_4, c_6, mc_6, c_7, nc_7, tn_d_lt c_7, ↓reduceIte], by rw [coat_eq e7 hk]; simp only [ek7, c_2, ek_p0, c_4, c_6, mc_6, c_7, nc_7, tn_d_lt c_7, ↓reduceIte]⟩
        · skip
          have nc_7 : ¬ nk < 6 := tn_nf (tn_ltI e7 (tn_l 6) (by omega) (by omega)) c_7
          refine tv_bipush (v := (-4)) C dX7_coat_47 (by decide) ?_
          exact hR _ _ _ _ dX7_coat_49 ⟨by rw [coat_eq e7 hk]; simp only [ek7, c_2, ek_p0, c_4, c_6, mc_6, c_7, nc_7, tn_d_nlt c_7, ↓reduceIte], by rw [coat_eq e7 hk]; simp only [ek7, c_2, ek_p0, c_4, c_6, mc_6, c_7, nc_7, tn_d_nlt c_7, ↓reduceIte]⟩
      · skip
        have mc_6 := sz_e c_6
        refine tv_bipush (v := (-3)) C dX7_coat_32 (by decide) ?_
        exact hR _ _ _ _ dX7_coat_34 ⟨by rw [coat_eq e7 hk]; simp only [ek7, c_2, ek_p0, c_4, eq_true c_6, eq_true mc_6, ↓reduceIte], by rw [coat_eq e7 hk]; simp only [ek7, c_2, ek_p0, c_4, eq_true c_6, eq_true mc_6, ↓reduceIte]⟩
    · skip
      refine tv_bipush (v := (-2)) C dX7_coat_19 (by decide) ?_
      exact hR _ _ _ _ dX7_coat_21 ⟨by rw [coat_eq e7 hk]; simp only [ek7, c_2, ek_p0, eq_true c_4, ↓reduceIte], by rw [coat_eq e7 hk]; simp only [ek7, c_2, ek_p0, eq_true c_4, ↓reduceIte]⟩
set_option maxHeartbeats 4000000 in
set_option maxRecDepth 100000 in
theorem kX7_light (c : tv_c) (s r : ts_T)  (p0 p1 p2 : Int32) (hI : iv s) : tv_Fi c 60 yX7_light wsX7_light { frames := 2, cells := 0, slots := 0, locals := 45 } [.ref (tv_ad c 0), .int p0, .int p1, .int p2] (eX c s r) ((sp_light s p0 p1 p2).1) (eX c (sp_light s p0 p1 p2).2 r) := by
  refine tv_metI (by decide +kernel) rfl rfl (Nat.le_of_ble_eq_true rfl) (fun X C hR => ?_)
  show tv_V c 60 X (eX c s r) 0 [(0, .ref (tv_ad c 0)), (1, .int p0), (2, .int p1), (3, .int p2)] []
  have hC := iv.hC hI
  obtain ⟨h, w, n, nk, nl, ny, nm, li, e2, e3, e9, hnw, hh, hw, hn, hz, hp, e7, hk, e8, hl, e4, hy, e5, hm, e6, hli, hcel, hkin, hban, hwei, hshe⟩ := id hI
  have ek8 := tk_e e8 (by omega)
  refine tv_iload_n C dX7_light_0 rfl 1 rfl ?_
  refine tv_iload_n C dX7_light_1 rfl 2 rfl ?_
  refine tv_iload_n C dX7_light_2 rfl 3 rfl ?_
  refine tv_bipush (v := 9) C dX7_light_3 (by decide) ?_
  refine tv_callis (As := [.int p0, .int p1, .int p2, .int 9]) (rest := []) C (kX7_areWithin c s r  p0 p1 p2 9 ) gX7_light_X7_areWithin rfl yd_X7_areWithin ⟨rfl, rfl⟩ (by decide) rfl rfl (Nat.le_of_ble_eq_true rfl) dX7_light_5 (fun q_1 u_1 z_1 => ?_)
  obtain ⟨rfl, rfl⟩ := z_1
  refine tv_if_ne C 14 dX7_light_8 (by decide) (fun c_2 => ?_) (fun c_2 => ?_)
  · skip
    refine tv_aload_n C dX7_light_14 rfl 0 rfl ?_
    refine tv_get (ci := 7) (Cn := RX7) (T := TX7) (Nf := 7) (v := .ref (tv_ad c 2)) C 0 (by decide) rfl rfl in_X7_light_X7 1 (by decide) lk_X7_light_20 rfl dX7_light_15 ?_
    refine tv_calli (As := []) (rest := []) (ci := 6) (cn := RX6) (T := TX6) (Nf := 11) C 2 (kX6_stands c s r n  e9 hn) gX7_light_X6_stands rfl yd_X6_stands ⟨rfl, rfl⟩ (by decide) (by decide) rfl rfl rfl rfl (Nat.le_of_ble_eq_true rfl) dX7_light_18 (fun q_3 u_3 z_3 => ?_)
    obtain ⟨rfl, rfl⟩ := z_3
    refine tv_if_ne C 27 dX7_light_21 (by decide) (fun c_4 => ?_) (fun c_4 => ?_)
    · skip
      have mc_4 := sz_n c_4
      refine tv_aload_n C dX7_light_27 rfl 0 rfl ?_
      refine tv_get (ci := 7) (Cn := RX7) (T := TX7) (Nf := 7) (v := .ref (tv_ad c 2)) C 0 (by decide) rfl rfl in_X7_light_X7 1 (by decide) lk_X7_light_20 rfl dX7_light_28 ?_
      refine tv_get (ci := 6) (Cn := RX6) (T := TX6) (Nf := 11) (v := .int (s 8 0)) C 2 (by decide) rfl rfl in_X7_light_X6 7 (by decide) lk_X7_light_166 rfl dX7_light_31 ?_
      refine tv_iconst (v := 4) C dX7_light_34 (by decide) ?_
      refine tv_icmp_lt C 41 dX7_light_35 (by decide) (fun c_5 => ?_) (fun c_5 => ?_)
      · skip
        have nc_5 : nl < 4 := (tn_ltI e8 (tn_l 4) (by omega) (by omega)).mp c_5
        refine tv_aload_n C dX7_light_41 rfl 0 rfl ?_
        refine tv_get (ci := 7) (Cn := RX7) (T := TX7) (Nf := 7) (v := .ref (tv_ad c 2)) C 0 (by decide) rfl rfl in_X7_light_X7 1 (by decide) lk_X7_light_20 rfl dX7_light_42 ?_
        refine tv_iload_n C dX7_light_45 rfl 1 rfl ?_
        refine tv_iload_n C dX7_light_46 rfl 2 rfl ?_
        refine tv_iload_n C dX7_light_47 rfl 3 rfl ?_
        refine tv_calli (As := [.int p0, .int p1, .int p2]) (rest := []) (ci := 6) (cn := RX6) (T := TX6) (Nf := 11) C 2 (kX6_addLight c s r nl p0 p1 p2 (by omega) e8) gX7_light_X6_addLight rfl yd_X6_addLight ⟨rfl, rfl⟩ (by decide) (by decide) rfl rfl rfl rfl (Nat.le_of_ble_eq_true rfl) dX7_light_48 (fun q_6 u_6 z_6 => ?_)
        obtain ⟨rfl, rfl⟩ := z_6
        exact hR _ _ _ _ dX7_light_51 ⟨by rw [light_eq e8 hl]; simp only [ek8, c_2, c_4, mc_4, c_5, nc_5, tn_d_lt c_5, ↓reduceIte], by rw [light_eq e8 hl]; simp only [ek8, c_2, c_4, mc_4, c_5, nc_5, tn_d_lt c_5, ↓reduceIte]⟩
      · skip
        have nc_5 : ¬ nl < 4 := tn_nf (tn_ltI e8 (tn_l 4) (by omega) (by omega)) c_5
        refine tv_bipush (v := (-4)) C dX7_light_38 (by decide) ?_
        exact hR _ _ _ _ dX7_light_40 ⟨by rw [light_eq e8 hl]; simp only [ek8, c_2, c_4, mc_4, c_5, nc_5, tn_d_nlt c_5, ↓reduceIte], by rw [light_eq e8 hl]; simp only [ek8, c_2, c_4, mc_4, c_5, nc_5, tn_d_nlt c_5, ↓reduceIte]⟩
    · skip
      have mc_4 := sz_e c_4
      refine tv_bipush (v := (-3)) C dX7_light_24 (by decide) ?_
      exact hR _ _ _ _ dX7_light_26 ⟨by rw [light_eq e8 hl]; simp only [ek8, c_2, eq_true c_4, eq_true mc_4, ↓reduceIte], by rw [light_eq e8 hl]; simp only [ek8, c_2, eq_true c_4, eq_true mc_4, ↓reduceIte]⟩
  · skip
    refine tv_bipush (v := (-2)) C dX7_light_11 (by decide) ?_
    exact hR _ _ _ _ dX7_light_13 ⟨by rw [light_eq e8 hl]; simp only [ek8, eq_true c_2, ↓reduceIte], by rw [light_eq e8 hl]; simp only [ek8, eq_true c_2, ↓reduceIte]⟩
set_option maxHeartbeats 4000000 in
set_option maxRecDepth 100000 in
theorem kX7_ofCoat (c : tv_c) (s r : ts_T)  (p0 p1 : Int32) (hI : iv s) : tv_Fi c 60 yX7_ofCoat wsX7_ofCoat { frames := 1, cells := 0, slots := 0, locals := 22 } [.ref (tv_ad c 0), .int p0, .int p1] (eX c s r) (sp_ofCoat s p0 p1) (eX c s r) := by
  refine tv_metI (by decide +kernel) rfl rfl (Nat.le_of_ble_eq_true rfl) (fun X C hR => ?_)
  show tv_V c 60 X (eX c s r) 0 [(0, .ref (tv_ad c 0)), (1, .int p0), (2, .int p1)] []
  have hC := iv.hC hI
  obtain ⟨h, w, n, nk, nl, ny, nm, li, e2, e3, e9, hnw, hh, hw, hn, hz, hp, e7, hk, e8, hl, e4, hy, e5, hm, e6, hli, hcel, hkin, hban, hwei, hshe⟩ := id hI
  refine tv_aload_n C dX7_ofCoat_0 rfl 0 rfl ?_
  refine tv_get (ci := 7) (Cn := RX7) (T := TX7) (Nf := 7) (v := .ref (tv_ad c 2)) C 0 (by decide) rfl rfl in_X7_ofCoat_X7 1 (by decide) lk_X7_ofCoat_20 rfl dX7_ofCoat_1 ?_
  refine tv_iload_n C dX7_ofCoat_4 rfl 1 rfl ?_
  refine tv_calli (As := [.int p0]) (rest := []) (ci := 6) (cn := RX6) (T := TX6) (Nf := 11) C 2 (kX6_hasCoat c s r  p0 ) gX7_ofCoat_X6_hasCoat rfl yd_X6_hasCoat ⟨rfl, rfl⟩ (by decide) (by decide) rfl rfl rfl rfl (Nat.le_of_ble_eq_true rfl) dX7_ofCoat_5 (fun q_1 u_1 z_1 => ?_)
  obtain ⟨rfl, rfl⟩ := z_1
  refine tv_if_ne C 13 dX7_ofCoat_8 (by decide) (fun c_2 => ?_) (fun c_2 => ?_)
  · skip
    obtain ⟨j_p0, hj_p0, ej_p0, ek_p0⟩ := in_ix e7 (by omega) c_2
    refine tv_iload_n C dX7_ofCoat_13 rfl 2 rfl ?_
    refine tv_iconst (v := (-1)) C dX7_ofCoat_14 (by decide) ?_
    refine tv_iconst (v := 2) C dX7_ofCoat_15 (by decide) ?_
    refine tv_callis (As := [.int p1, .int (-1), .int 2]) (rest := []) C (kX7_isWithin c s r  p1 (-1) 2 ) gX7_ofCoat_X7_isWithin rfl yd_X7_isWithin ⟨rfl, rfl⟩ (by decide) rfl rfl (Nat.le_of_ble_eq_true rfl) dX7_ofCoat_16 (fun q_3 u_3 z_3 => ?_)
    obtain ⟨rfl, rfl⟩ := z_3
    refine tv_if_ne C 25 dX7_ofCoat_19 (by decide) (fun c_4 => ?_) (fun c_4 => ?_)
    · skip
      refine tv_aload_n C dX7_ofCoat_25 rfl 0 rfl ?_
      refine tv_get (ci := 7) (Cn := RX7) (T := TX7) (Nf := 7) (v := .ref (tv_ad c 2)) C 0 (by decide) rfl rfl in_X7_ofCoat_X7 1 (by decide) lk_X7_ofCoat_20 rfl dX7_ofCoat_26 ?_
      refine tv_get (ci := 6) (Cn := RX6) (T := TX6) (Nf := 11) (v := .ref (tv_ad c 4)) C 2 (by decide) rfl rfl in_X7_ofCoat_X6 1 (by decide) lk_X7_ofCoat_146 rfl dX7_ofCoat_29 ?_
      refine tv_iload_n C dX7_ofCoat_32 rfl 1 rfl ?_
      refine tv_aald (Cn := RX1) (a := tv_ad c (48 + j_p0)) C 4 (by decide) rfl 4 rfl j_p0 ej_p0 (show j_p0 < 6 by omega) (by decide) rfl dX7_ofCoat_33 ?_
      refine tv_astore_n (lv' := [(3, .ref (tv_ad c (48 + j_p0))), (0, .ref (tv_ad c 0)), (1, .int p0), (2, .int p1)]) C dX7_ofCoat_34 rfl (by decide) rfl ?_
      refine tv_iload_n C dX7_ofCoat_35 rfl 3 rfl ?_
      refine tv_if_ge C 46 dX7_ofCoat_36 (by decide) (fun c_5 => ?_) (fun c_5 => ?_)
      · skip
        obtain ⟨b1, hb1, eb1, ekb1⟩ := in_m1 (by assumption) (by assumption)
        refine tv_aload_n C dX7_ofCoat_46 rfl 0 rfl ?_
        refine tv_get (ci := 1) (Cn := RX1) (T := TX1) (Nf := 2) (v := .ref (tv_ad c (54 + j_p0))) C (48 + j_p0) (by omega) (eX_at_k c s r (by omega)) rfl in_X7_ofCoat_X1 0 (by decide) lk_X7_ofCoat_155 rfl dX7_ofCoat_47 ?_
        refine tv_iload_n C dX7_ofCoat_50 rfl 3 rfl ?_
        refine tv_iald (v := (s 16 (3 * j_p0 + b1))) C (54 + j_p0) (by omega) (eX_at_b c s r (by omega)) b1 eb1 (show b1 < 3 by omega) (by decide) (if_pos (show b1 < 3 by omega)) dX7_ofCoat_51 ?_
        exact hR _ _ _ _ dX7_ofCoat_52 ⟨by rw [ofCoat_eq]; simp only [c_2, ek_p0, c_4, c_5, tn_d_le c_5, ekb1, ↓reduceIte], by first | (simp only [c_2, ek_p0, c_4, c_5, tn_d_le c_5, ekb1, if_true, ts_ss, ts_aa, ↓reduceIte]; done) | rfl | (simp [c_2, ek_p0, c_4, c_5, tn_d_le c_5, ekb1, if_true, ts_ss, ts_aa]; done) | (exfalso; clear hR C; simp_all; done)⟩
      · skip
        refine tv_aload_n C dX7_ofCoat_39 rfl 0 rfl ?_
        refine tv_get (ci := 1) (Cn := RX1) (T := TX1) (Nf := 2) (v := .int (s 15 j_p0)) C (48 + j_p0) (by omega) (eX_at_k c s r (by omega)) rfl in_X7_ofCoat_X1 1 (by decide) lk_X7_ofCoat_150 rfl dX7_ofCoat_40 ?_
        refine tv_goto C 52 dX7_ofCoat_43 (by decide) ?_
        exact hR _ _ _ _ dX7_ofCoat_52 ⟨by rw [ofCoat_eq]; simp only [c_2, ek_p0, c_4, c_5, tn_d_nle c_5, ↓reduceIte], by first | (simp only [c_2, ek_p0, c_4, c_5, tn_d_nle c_5, if_true, ts_ss, ts_aa, ↓reduceIte]; done) | rfl | (simp [c_2, ek_p0, c_4, c_5, tn_d_nle c_5, if_true, ts_ss, ts_aa]; done) | (exfalso; clear hR C; simp_all; done)⟩
    · skip
      refine tv_bipush (v := (-2)) C dX7_ofCoat_22 (by decide) ?_
      exact hR _ _ _ _ dX7_ofCoat_24 ⟨by rw [ofCoat_eq]; simp only [c_2, ek_p0, eq_true c_4, ↓reduceIte], by first | (simp only [c_2, ek_p0, eq_true c_4, if_true, ts_ss, ts_aa, ↓reduceIte]; done) | rfl | (simp [c_2, ek_p0, eq_true c_4, if_true, ts_ss, ts_aa]; done) | (exfalso; clear hR C; simp_all; done)⟩
  · skip
    refine tv_iconst (v := (-1)) C dX7_ofCoat_11 (by decide) ?_
    exact hR _ _ _ _ dX7_ofCoat_12 ⟨by rw [ofCoat_eq]; simp only [eq_true c_2, ↓reduceIte], by first | (simp only [eq_true c_2, if_true, ts_ss, ts_aa, ↓reduceIte]; done) | rfl | (simp [eq_true c_2, if_true, ts_ss, ts_aa]; done) | (exfalso; clear hR C; simp_all; done)⟩
set_option maxHeartbeats 4000000 in
set_option maxRecDepth 100000 in
theorem kX7_paint (c : tv_c) (s r : ts_T)  (p0 p1 : Int32) (hI : iv s) : tv_Fi c 60 yX7_paint wsX7_paint { frames := 1, cells := 0, slots := 0, locals := 21 } [.ref (tv_ad c 0), .int p0, .int p1] (eX c s r) ((sp_paint s p0 p1).1) (eX c (sp_paint s p0 p1).2 r) := by
  refine tv_metI (by decide +kernel) rfl rfl (Nat.le_of_ble_eq_true rfl) (fun X C hR => ?_)
  show tv_V c 60 X (eX c s r) 0 [(0, .ref (tv_ad c 0)), (1, .int p0), (2, .int p1)] []
  have hC := iv.hC hI
  obtain ⟨h, w, n, nk, nl, ny, nm, li, e2, e3, e9, hnw, hh, hw, hn, hz, hp, e7, hk, e8, hl, e4, hy, e5, hm, e6, hli, hcel, hkin, hban, hwei, hshe⟩ := id hI
  refine tv_aload_n C dX7_paint_0 rfl 0 rfl ?_
  refine tv_get (ci := 7) (Cn := RX7) (T := TX7) (Nf := 7) (v := .ref (tv_ad c 2)) C 0 (by decide) rfl rfl in_X7_paint_X7 1 (by decide) lk_X7_paint_20 rfl dX7_paint_1 ?_
  refine tv_iload_n C dX7_paint_4 rfl 1 rfl ?_
  refine tv_calli (As := [.int p0]) (rest := []) (ci := 6) (cn := RX6) (T := TX6) (Nf := 11) C 2 (kX6_hasCell c s r  p0 ) gX7_paint_X6_hasCell rfl yd_X6_hasCell ⟨rfl, rfl⟩ (by decide) (by decide) rfl rfl rfl rfl (Nat.le_of_ble_eq_true rfl) dX7_paint_5 (fun q_1 u_1 z_1 => ?_)
  obtain ⟨rfl, rfl⟩ := z_1
  refine tv_if_eq C 22 dX7_paint_8 (by decide) (fun c_2 => ?_) (fun c_2 => ?_)
  · skip
    refine tv_iconst (v := (-1)) C dX7_paint_22 (by decide) ?_
    exact hR _ _ _ _ dX7_paint_23 ⟨by first | (simp only [sp_paint, eq_true c_2, if_true, ↓reduceIte]; done) | rfl | (simp [sp_paint, eq_true c_2, if_true]; done) | (exfalso; clear hR C; simp_all; done), by first | (simp only [sp_paint, eq_true c_2, if_true, ts_ss, ts_aa, ↓reduceIte]; done) | rfl | (simp [sp_paint, eq_true c_2, if_true, ts_ss, ts_aa]; done) | (exfalso; clear hR C; simp_all; done)⟩
  · skip
    obtain ⟨j_p0, hj_p0, ej_p0, ek_p0⟩ := in_ix e9 (by omega) c_2
    obtain ⟨fs_p0, ⟨b_p0, hb_p0, eb_p0⟩, fh_p0, fa_p0, fz_p0⟩ := hcel j_p0 hj_p0
    refine tv_aload_n C dX7_paint_11 rfl 0 rfl ?_
    refine tv_get (ci := 7) (Cn := RX7) (T := TX7) (Nf := 7) (v := .ref (tv_ad c 2)) C 0 (by decide) rfl rfl in_X7_paint_X7 1 (by decide) lk_X7_paint_20 rfl dX7_paint_12 ?_
    refine tv_iload_n C dX7_paint_15 rfl 2 rfl ?_
    refine tv_calli (As := [.int p1]) (rest := []) (ci := 6) (cn := RX6) (T := TX6) (Nf := 11) C 2 (kX6_hasCoat c s r  p1 ) gX7_paint_X6_hasCoat rfl yd_X6_hasCoat ⟨rfl, rfl⟩ (by decide) (by decide) rfl rfl rfl rfl (Nat.le_of_ble_eq_true rfl) dX7_paint_16 (fun q_3 u_3 z_3 => ?_)
    obtain ⟨rfl, rfl⟩ := z_3
    refine tv_if_ne C 24 dX7_paint_19 (by decide) (fun c_4 => ?_) (fun c_4 => ?_)
    · skip
      obtain ⟨j_p1, hj_p1, ej_p1, ek_p1⟩ := in_ix e7 (by omega) c_4
      refine tv_aload_n C dX7_paint_24 rfl 0 rfl ?_
      refine tv_get (ci := 7) (Cn := RX7) (T := TX7) (Nf := 7) (v := .ref (tv_ad c 2)) C 0 (by decide) rfl rfl in_X7_paint_X7 1 (by decide) lk_X7_paint_20 rfl dX7_paint_25 ?_
      refine tv_get (ci := 6) (Cn := RX6) (T := TX6) (Nf := 11) (v := .ref (tv_ad c 3)) C 2 (by decide) rfl rfl in_X7_paint_X6 0 (by decide) lk_X7_paint_86 rfl dX7_paint_28 ?_
      refine tv_iload_n C dX7_paint_31 rfl 1 rfl ?_
      refine tv_aald (Cn := RX0) (a := tv_ad c (24 + j_p0)) C 3 (by decide) rfl 3 rfl j_p0 ej_p0 (show j_p0 < 24 by omega) (by decide) rfl dX7_paint_32 ?_
      refine tv_astore_n (lv' := [(3, .ref (tv_ad c (24 + j_p0))), (0, .ref (tv_ad c 0)), (1, .int p0), (2, .int p1)]) C dX7_paint_33 rfl (by decide) rfl ?_
      refine tv_aload_n C dX7_paint_34 rfl 0 rfl ?_
      refine tv_get (ci := 0) (Cn := RX0) (T := TX0) (Nf := 5) (v := .int (s 11 j_p0)) C (24 + j_p0) (by omega) (eX_at_c c s r (by omega)) rfl in_X7_paint_X0 1 (by decide) lk_X7_paint_95 rfl dX7_paint_35 ?_
      refine tv_istore (lv' := [(4, .int (s 11 j_p0)), (3, .ref (tv_ad c (24 + j_p0))), (0, .ref (tv_ad c 0)), (1, .int p0), (2, .int p1)]) C dX7_paint_38 (by decide) rfl ?_
      refine tv_aload_n C dX7_paint_40 rfl 1 rfl ?_
      refine tv_iload_n C dX7_paint_41 rfl 4 rfl ?_
      refine tv_callv (As := [.int p1]) (rest := []) (ci := 0) (cn := RX0) (T := TX0) (Nf := 5) C (24 + j_p0) (kX0_takeFresh c s r j_p0 p1 (show j_p0 < 24 by omega)) gX7_paint_X0_takeFresh rfl yd_X0_takeFresh ⟨rfl, rfl⟩ (by decide) (by omega) (eX_at_c c s r (by omega)) rfl rfl rfl (Nat.le_of_ble_eq_true rfl) dX7_paint_42 (fun u_5 z_5 => ?_)
      subst z_5
      refine tv_iload C dX7_paint_45 0 rfl ?_
      exact hR _ _ _ _ dX7_paint_47 ⟨by first | (simp only [sp_paint, c_2, ek_p0, c_4, ek_p1, if_true, ↓reduceIte]; done) | rfl | (simp [sp_paint, c_2, ek_p0, c_4, ek_p1, if_true]; done) | (exfalso; clear hR C; simp_all; done), by first | (simp only [sp_paint, c_2, ek_p0, c_4, ek_p1, if_true, ts_ss, ts_aa, ↓reduceIte]; done) | rfl | (simp [sp_paint, c_2, ek_p0, c_4, ek_p1, if_true, ts_ss, ts_aa]; done) | (exfalso; clear hR C; simp_all; done)⟩
    · skip
      refine tv_iconst (v := (-1)) C dX7_paint_22 (by decide) ?_
      exact hR _ _ _ _ dX7_paint_23 ⟨by first | (simp only [sp_paint, c_2, ek_p0, eq_true c_4, if_true, ↓reduceIte]; done) | rfl | (simp [sp_paint, c_2, ek_p0, eq_true c_4, if_true]; done) | (exfalso; clear hR C; simp_all; done), by first | (simp only [sp_paint, c_2, ek_p0, eq_true c_4, if_true, ts_ss, ts_aa, ↓reduceIte]; done) | rfl | (simp [sp_paint, c_2, ek_p0, eq_true c_4, if_true, ts_ss, ts_aa]; done) | (exfalso; clear hR C; simp_all; done)⟩
set_option maxHeartbeats 4000000 in
set_option maxRecDepth 100000 in
theorem kX7_back (c : tv_c) (s r : ts_T)  (p0 p1 p2 : Int32) (hI : iv s) : tv_Fi c 60 yX7_back wsX7_back { frames := 2, cells := 0, slots := 0, locals := 51 } [.ref (tv_ad c 0), .int p0, .int p1, .int p2] (eX c s r) (sp_back s p0 p1 p2) (eX c s r) := by
  refine tv_metI (by decide +kernel) rfl rfl (Nat.le_of_ble_eq_true rfl) (fun X C hR => ?_)
  show tv_V c 60 X (eX c s r) 0 [(0, .ref (tv_ad c 0)), (1, .int p0), (2, .int p1), (3, .int p2)] []
  have hC := iv.hC hI
  obtain ⟨h, w, n, nk, nl, ny, nm, li, e2, e3, e9, hnw, hh, hw, hn, hz, hp, e7, hk, e8, hl, e4, hy, e5, hm, e6, hli, hcel, hkin, hban, hwei, hshe⟩ := id hI
  refine tv_aload_n C dX7_back_0 rfl 0 rfl ?_
  refine tv_get (ci := 7) (Cn := RX7) (T := TX7) (Nf := 7) (v := .ref (tv_ad c 2)) C 0 (by decide) rfl rfl in_X7_back_X7 1 (by decide) lk_X7_back_20 rfl dX7_back_1 ?_
  refine tv_iload_n C dX7_back_4 rfl 1 rfl ?_
  refine tv_calli (As := [.int p0]) (rest := []) (ci := 6) (cn := RX6) (T := TX6) (Nf := 11) C 2 (kX6_hasCell c s r  p0 ) gX7_back_X6_hasCell rfl yd_X6_hasCell ⟨rfl, rfl⟩ (by decide) (by decide) rfl rfl rfl rfl (Nat.le_of_ble_eq_true rfl) dX7_back_5 (fun q_1 u_1 z_1 => ?_)
  obtain ⟨rfl, rfl⟩ := z_1
  refine tv_if_ne C 13 dX7_back_8 (by decide) (fun c_2 => ?_) (fun c_2 => ?_)
  · skip
    obtain ⟨j_p0, hj_p0, ej_p0, ek_p0⟩ := in_ix e9 (by omega) c_2
    obtain ⟨fs_p0, ⟨b_p0, hb_p0, eb_p0⟩, fh_p0, fa_p0, fz_p0⟩ := hcel j_p0 hj_p0
    refine tv_iload_n C dX7_back_13 rfl 2 rfl ?_
    refine tv_iconst (v := 0) C dX7_back_14 (by decide) ?_
    refine tv_iconst (v := 2) C dX7_back_15 (by decide) ?_
    refine tv_callis (As := [.int p1, .int 0, .int 2]) (rest := []) C (kX7_isWithin c s r  p1 0 2 ) gX7_back_X7_isWithin rfl yd_X7_isWithin ⟨rfl, rfl⟩ (by decide) rfl rfl (Nat.le_of_ble_eq_true rfl) dX7_back_16 (fun q_3 u_3 z_3 => ?_)
    obtain ⟨rfl, rfl⟩ := z_3
    refine tv_if_ne C 25 dX7_back_19 (by decide) (fun c_4 => ?_) (fun c_4 => ?_)
    · skip
      obtain ⟨j_p1, hj_p1, ej_p1, ek_p1⟩ := in_in (b := 2) (by decide) c_4
      refine tv_aload_n C dX7_back_25 rfl 0 rfl ?_
      refine tv_get (ci := 7) (Cn := RX7) (T := TX7) (Nf := 7) (v := .ref (tv_ad c 2)) C 0 (by decide) rfl rfl in_X7_back_X7 1 (by decide) lk_X7_back_20 rfl dX7_back_26 ?_
      refine tv_get (ci := 6) (Cn := RX6) (T := TX6) (Nf := 11) (v := .ref (tv_ad c 3)) C 2 (by decide) rfl rfl in_X7_back_X6 0 (by decide) lk_X7_back_86 rfl dX7_back_29 ?_
      refine tv_iload_n C dX7_back_32 rfl 1 rfl ?_
      refine tv_aald (Cn := RX0) (a := tv_ad c (24 + j_p0)) C 3 (by decide) rfl 3 rfl j_p0 ej_p0 (show j_p0 < 24 by omega) (by decide) rfl dX7_back_33 ?_
      refine tv_astore (lv' := [(4, .ref (tv_ad c (24 + j_p0))), (0, .ref (tv_ad c 0)), (1, .int p0), (2, .int p1), (3, .int p2)]) C dX7_back_34 (by decide) rfl ?_
      refine tv_aload_n C dX7_back_36 rfl 1 rfl ?_
      refine tv_get (ci := 7) (Cn := RX7) (T := TX7) (Nf := 7) (v := .ref (tv_ad c 2)) C 0 (by decide) rfl rfl in_X7_back_X7 1 (by decide) lk_X7_back_20 rfl dX7_back_37 ?_
      refine tv_get (ci := 6) (Cn := RX6) (T := TX6) (Nf := 11) (v := .ref (tv_ad c 4)) C 2 (by decide) rfl rfl in_X7_back_X6 1 (by decide) lk_X7_back_146 rfl dX7_back_40 ?_
      refine tv_aload C dX7_back_43 0 rfl ?_
      refine tv_get (ci := 0) (Cn := RX0) (T := TX0) (Nf := 5) (v := .int (s 11 j_p0)) C (24 + j_p0) (by omega) (eX_at_c c s r (by omega)) rfl in_X7_back_X0 1 (by decide) lk_X7_back_95 rfl dX7_back_45 ?_
      refine tv_aald (Cn := RX1) (a := tv_ad c (cp_p b_p0)) C 4 (by decide) rfl 4 rfl b_p0 eb_p0 (show b_p0 < 6 by omega) (by decide) (cp_ld (show b_p0 < 6 by omega)) dX7_back_48 ?_
      refine tv_iload_n C dX7_back_49 rfl 3 rfl ?_
      refine tv_aload C dX7_back_50 0 rfl ?_
      refine tv_get (ci := 0) (Cn := RX0) (T := TX0) (Nf := 5) (v := .int (s 12 j_p0)) C (24 + j_p0) (by omega) (eX_at_c c s r (by omega)) rfl in_X7_back_X0 2 (by decide) lk_X7_back_98 rfl dX7_back_52 ?_
      refine tv_aload C dX7_back_55 0 rfl ?_
      refine tv_get (ci := 0) (Cn := RX0) (T := TX0) (Nf := 5) (v := .int (s 13 j_p0)) C (24 + j_p0) (by omega) (eX_at_c c s r (by omega)) rfl in_X7_back_X0 3 (by decide) lk_X7_back_101 rfl dX7_back_57 ?_
      refine tv_aload_n C dX7_back_60 rfl 1 rfl ?_
      refine tv_get (ci := 7) (Cn := RX7) (T := TX7) (Nf := 7) (v := .ref (tv_ad c 2)) C 0 (by decide) rfl rfl in_X7_back_X7 1 (by decide) lk_X7_back_20 rfl dX7_back_61 ?_
      refine tv_get (ci := 6) (Cn := RX6) (T := TX6) (Nf := 11) (v := .int (s 5 0)) C 2 (by decide) rfl rfl in_X7_back_X6 9 (by decide) lk_X7_back_116 rfl dX7_back_64 ?_
      refine tv_iload_n C dX7_back_67 rfl 4 rfl ?_
      refine tv_calli (As := [.int p1, .int (s 12 j_p0), .int (s 13 j_p0), .int (s 5 0), .int p2]) (rest := []) (ci := 1) (cn := RX1) (T := TX1) (Nf := 2) C (cp_p b_p0) (kX1_comesBack c s r b_p0 j_p1 p1 (s 12 j_p0) (s 13 j_p0) (s 5 0) p2 (show b_p0 < 7 by omega) ej_p1 (by omega) (by rw [cp_v6 hb_p0]; exact hban _ (by omega)) (ls_b ⟨j_p1, by omega, ej_p1⟩ (fh_p0.mono (by omega)) (fa_p0.mono (by omega)) ⟨nm, hm, e5⟩)) gX7_back_X1_comesBack rfl yd_X1_comesBack ⟨rfl, rfl⟩ (by decide) (cp_lt (show b_p0 < 7 by omega)) (cp_at c s r (show b_p0 < 7 by omega)) rfl rfl rfl (Nat.le_of_ble_eq_true rfl) dX7_back_68 (fun q_5 u_5 z_5 => ?_)
      obtain ⟨rfl, rfl⟩ := z_5
      rw [cp_k6 hb_p0, cp_v6 hb_p0]
      exact hR _ _ _ _ dX7_back_71 ⟨by simp only [sp_back, c_2, ek_p0, c_4, ek_p1, ↓reduceIte]; try (rw [tk_e eb_p0 (by omega)]), by first | (simp only [c_2, ek_p0, c_4, ek_p1, if_true, ts_ss, ts_aa, ↓reduceIte]; done) | rfl | (simp [c_2, ek_p0, c_4, ek_p1, if_true, ts_ss, ts_aa]; done) | (exfalso; clear hR C; simp_all; done)⟩
    · skip
      refine tv_bipush (v := (-2)) C dX7_back_22 (by decide) ?_
      exact hR _ _ _ _ dX7_back_24 ⟨by simp only [sp_back, c_2, ek_p0, eq_true c_4, ↓reduceIte]; try (rw [tk_e eb_p0 (by omega)]), by first | (simp only [c_2, ek_p0, eq_true c_4, if_true, ts_ss, ts_aa, ↓reduceIte]; done) | rfl | (simp [c_2, ek_p0, eq_true c_4, if_true, ts_ss, ts_aa]; done) | (exfalso; clear hR C; simp_all; done)⟩
  · skip
    refine tv_iconst (v := (-1)) C dX7_back_11 (by decide) ?_
    exact hR _ _ _ _ dX7_back_12 ⟨by simp only [sp_back, eq_true c_2, ↓reduceIte]; try (rw [tk_e eb_p0 (by omega)]), by first | (simp only [eq_true c_2, if_true, ts_ss, ts_aa, ↓reduceIte]; done) | rfl | (simp [eq_true c_2, if_true, ts_ss, ts_aa]; done) | (exfalso; clear hR C; simp_all; done)⟩
set_option maxHeartbeats 4000000 in
set_option maxRecDepth 100000 in
theorem kX7_look (c : tv_c) (s r : ts_T)  (p0 p1 p2 : Int32) (hI : iv s) : tv_Fi c 60 yX7_look wsX7_look { frames := 4, cells := 0, slots := 0, locals := 102 } [.ref (tv_ad c 0), .int p0, .int p1, .int p2] (eX c s r) (sp_look s p0 p1 p2) (eX c s r) := by
  refine tv_metI (by decide +kernel) rfl rfl (Nat.le_of_ble_eq_true rfl) (fun X C hR => ?_)
  show tv_V c 60 X (eX c s r) 0 [(0, .ref (tv_ad c 0)), (1, .int p0), (2, .int p1), (3, .int p2)] []
  have hC := iv.hC hI
  obtain ⟨h, w, n, nk, nl, ny, nm, li, e2, e3, e9, hnw, hh, hw, hn, hz, hp, e7, hk, e8, hl, e4, hy, e5, hm, e6, hli, hcel, hkin, hban, hwei, hshe⟩ := id hI
  refine tv_aload_n C dX7_look_0 rfl 0 rfl ?_
  refine tv_get (ci := 7) (Cn := RX7) (T := TX7) (Nf := 7) (v := .ref (tv_ad c 2)) C 0 (by decide) rfl rfl in_X7_look_X7 1 (by decide) lk_X7_look_20 rfl dX7_look_1 ?_
  refine tv_iload_n C dX7_look_4 rfl 1 rfl ?_
  refine tv_calli (As := [.int p0]) (rest := []) (ci := 6) (cn := RX6) (T := TX6) (Nf := 11) C 2 (kX6_hasCell c s r  p0 ) gX7_look_X6_hasCell rfl yd_X6_hasCell ⟨rfl, rfl⟩ (by decide) (by decide) rfl rfl rfl rfl (Nat.le_of_ble_eq_true rfl) dX7_look_5 (fun q_1 u_1 z_1 => ?_)
  obtain ⟨rfl, rfl⟩ := z_1
  refine tv_if_eq C 22 dX7_look_8 (by decide) (fun c_2 => ?_) (fun c_2 => ?_)
  · skip
    refine tv_iconst (v := (-1)) C dX7_look_22 (by decide) ?_
    exact hR _ _ _ _ dX7_look_23 ⟨by first | (simp only [sp_look, eq_true c_2, if_true, ↓reduceIte]; done) | rfl | (simp [sp_look, eq_true c_2, if_true]; done) | (exfalso; clear hR C; simp_all; done), by first | (simp only [sp_look, eq_true c_2, if_true, ts_ss, ts_aa, ↓reduceIte]; done) | rfl | (simp [sp_look, eq_true c_2, if_true, ts_ss, ts_aa]; done) | (exfalso; clear hR C; simp_all; done)⟩
  · skip
    obtain ⟨j_p0, hj_p0, ej_p0, ek_p0⟩ := in_ix e9 (by omega) c_2
    obtain ⟨fs_p0, ⟨b_p0, hb_p0, eb_p0⟩, fh_p0, fa_p0, fz_p0⟩ := hcel j_p0 hj_p0
    refine tv_aload_n C dX7_look_11 rfl 0 rfl ?_
    refine tv_get (ci := 7) (Cn := RX7) (T := TX7) (Nf := 7) (v := .ref (tv_ad c 2)) C 0 (by decide) rfl rfl in_X7_look_X7 1 (by decide) lk_X7_look_20 rfl dX7_look_12 ?_
    refine tv_iload_n C dX7_look_15 rfl 2 rfl ?_
    refine tv_calli (As := [.int p1]) (rest := []) (ci := 6) (cn := RX6) (T := TX6) (Nf := 11) C 2 (kX6_hasLight c s r  p1 ) gX7_look_X6_hasLight rfl yd_X6_hasLight ⟨rfl, rfl⟩ (by decide) (by decide) rfl rfl rfl rfl (Nat.le_of_ble_eq_true rfl) dX7_look_16 (fun q_3 u_3 z_3 => ?_)
    obtain ⟨rfl, rfl⟩ := z_3
    refine tv_if_ne C 24 dX7_look_19 (by decide) (fun c_4 => ?_) (fun c_4 => ?_)
    · skip
      obtain ⟨j_p1, hj_p1, ej_p1, ek_p1⟩ := in_ix e8 (by omega) c_4
      refine tv_aload_n C dX7_look_24 rfl 0 rfl ?_
      refine tv_get (ci := 7) (Cn := RX7) (T := TX7) (Nf := 7) (v := .ref (tv_ad c 2)) C 0 (by decide) rfl rfl in_X7_look_X7 1 (by decide) lk_X7_look_20 rfl dX7_look_25 ?_
      refine tv_iload_n C dX7_look_28 rfl 1 rfl ?_
      refine tv_iload_n C dX7_look_29 rfl 2 rfl ?_
      refine tv_iload_n C dX7_look_30 rfl 3 rfl ?_
      refine tv_calli (As := [.int p0, .int p1, .int p2]) (rest := []) (ci := 6) (cn := RX6) (T := TX6) (Nf := 11) C 2 (kX6_lookOfCell c s r j_p0 j_p1 p0 p1 p2 ej_p0 (by omega) ej_p1 (by omega) (iv_c40 hy (hcel j_p0 hj_p0)) hban ⟨nm, hm, e5⟩) gX7_look_X6_lookOfCell rfl yd_X6_lookOfCell ⟨rfl, rfl⟩ (by decide) (by decide) rfl rfl rfl rfl (Nat.le_of_ble_eq_true rfl) dX7_look_31 (fun q_5 u_5 z_5 => ?_)
      obtain ⟨rfl, rfl⟩ := z_5
      exact hR _ _ _ _ dX7_look_34 ⟨by first | (simp only [sp_look, c_2, ek_p0, c_4, ek_p1, if_true, ↓reduceIte]; done) | rfl | (simp [sp_look, c_2, ek_p0, c_4, ek_p1, if_true]; done) | (exfalso; clear hR C; simp_all; done), by first | (simp only [sp_look, c_2, ek_p0, c_4, ek_p1, if_true, ts_ss, ts_aa, ↓reduceIte]; done) | rfl | (simp [sp_look, c_2, ek_p0, c_4, ek_p1, if_true, ts_ss, ts_aa]; done) | (exfalso; clear hR C; simp_all; done)⟩
    · skip
      refine tv_iconst (v := (-1)) C dX7_look_22 (by decide) ?_
      exact hR _ _ _ _ dX7_look_23 ⟨by first | (simp only [sp_look, c_2, ek_p0, eq_true c_4, if_true, ↓reduceIte]; done) | rfl | (simp [sp_look, c_2, ek_p0, eq_true c_4, if_true]; done) | (exfalso; clear hR C; simp_all; done), by first | (simp only [sp_look, c_2, ek_p0, eq_true c_4, if_true, ts_ss, ts_aa, ↓reduceIte]; done) | rfl | (simp [sp_look, c_2, ek_p0, eq_true c_4, if_true, ts_ss, ts_aa]; done) | (exfalso; clear hR C; simp_all; done)⟩
set_option maxHeartbeats 4000000 in
set_option maxRecDepth 100000 in
theorem kX7_unlike (c : tv_c) (s r : ts_T)  (p0 p1 p2 p3 : Int32) (hI : iv s) : tv_Fi c 60 yX7_unlike wsX7_unlike { frames := 4, cells := 0, slots := 0, locals := 102 } [.ref (tv_ad c 0), .int p0, .int p1, .int p2, .int p3] (eX c s r) (sp_unlike s p0 p1 p2 p3) (eX c s r) := by
  refine tv_metI (by decide +kernel) rfl rfl (Nat.le_of_ble_eq_true rfl) (fun X C hR => ?_)
  show tv_V c 60 X (eX c s r) 0 [(0, .ref (tv_ad c 0)), (1, .int p0), (2, .int p1), (3, .int p2), (4, .int p3)] []
  have hC := iv.hC hI
  obtain ⟨h, w, n, nk, nl, ny, nm, li, e2, e3, e9, hnw, hh, hw, hn, hz, hp, e7, hk, e8, hl, e4, hy, e5, hm, e6, hli, hcel, hkin, hban, hwei, hshe⟩ := id hI
  refine tv_aload_n C dX7_unlike_0 rfl 0 rfl ?_
  refine tv_get (ci := 7) (Cn := RX7) (T := TX7) (Nf := 7) (v := .ref (tv_ad c 2)) C 0 (by decide) rfl rfl in_X7_unlike_X7 1 (by decide) lk_X7_unlike_20 rfl dX7_unlike_1 ?_
  refine tv_iload_n C dX7_unlike_4 rfl 1 rfl ?_
  refine tv_calli (As := [.int p0]) (rest := []) (ci := 6) (cn := RX6) (T := TX6) (Nf := 11) C 2 (kX6_hasCell c s r  p0 ) gX7_unlike_X6_hasCell rfl yd_X6_hasCell ⟨rfl, rfl⟩ (by decide) (by decide) rfl rfl rfl rfl (Nat.le_of_ble_eq_true rfl) dX7_unlike_5 (fun q_1 u_1 z_1 => ?_)
  obtain ⟨rfl, rfl⟩ := z_1
  refine tv_if_eq C 33 dX7_unlike_8 (by decide) (fun c_2 => ?_) (fun c_2 => ?_)
  · skip
    refine tv_iconst (v := (-1)) C dX7_unlike_33 (by decide) ?_
    exact hR _ _ _ _ dX7_unlike_34 ⟨by simp only [sp_unlike, eq_true c_2, ↓reduceIte, ab_abs], by first | (simp only [sp_unlike, eq_true c_2, if_true, ts_ss, ts_aa, ↓reduceIte]; done) | rfl | (simp [sp_unlike, eq_true c_2, if_true, ts_ss, ts_aa]; done) | (exfalso; clear hR C; simp_all; done)⟩
  · skip
    obtain ⟨j_p0, hj_p0, ej_p0, ek_p0⟩ := in_ix e9 (by omega) c_2
    obtain ⟨fs_p0, ⟨b_p0, hb_p0, eb_p0⟩, fh_p0, fa_p0, fz_p0⟩ := hcel j_p0 hj_p0
    refine tv_aload_n C dX7_unlike_11 rfl 0 rfl ?_
    refine tv_get (ci := 7) (Cn := RX7) (T := TX7) (Nf := 7) (v := .ref (tv_ad c 2)) C 0 (by decide) rfl rfl in_X7_unlike_X7 1 (by decide) lk_X7_unlike_20 rfl dX7_unlike_12 ?_
    refine tv_iload_n C dX7_unlike_15 rfl 2 rfl ?_
    refine tv_calli (As := [.int p1]) (rest := []) (ci := 6) (cn := RX6) (T := TX6) (Nf := 11) C 2 (kX6_hasCell c s r  p1 ) gX7_unlike_X6_hasCell rfl yd_X6_hasCell ⟨rfl, rfl⟩ (by decide) (by decide) rfl rfl rfl rfl (Nat.le_of_ble_eq_true rfl) dX7_unlike_16 (fun q_3 u_3 z_3 => ?_)
    obtain ⟨rfl, rfl⟩ := z_3
    refine tv_if_eq C 33 dX7_unlike_19 (by decide) (fun c_4 => ?_) (fun c_4 => ?_)
    · skip
      refine tv_iconst (v := (-1)) C dX7_unlike_33 (by decide) ?_
      exact hR _ _ _ _ dX7_unlike_34 ⟨by simp only [sp_unlike, c_2, ek_p0, eq_true c_4, ↓reduceIte, ab_abs], by first | (simp only [sp_unlike, c_2, ek_p0, eq_true c_4, if_true, ts_ss, ts_aa, ↓reduceIte]; done) | rfl | (simp [sp_unlike, c_2, ek_p0, eq_true c_4, if_true, ts_ss, ts_aa]; done) | (exfalso; clear hR C; simp_all; done)⟩
    · skip
      obtain ⟨j_p1, hj_p1, ej_p1, ek_p1⟩ := in_ix e9 (by omega) c_4
      obtain ⟨fs_p1, ⟨b_p1, hb_p1, eb_p1⟩, fh_p1, fa_p1, fz_p1⟩ := hcel j_p1 hj_p1
      refine tv_aload_n C dX7_unlike_22 rfl 0 rfl ?_
      refine tv_get (ci := 7) (Cn := RX7) (T := TX7) (Nf := 7) (v := .ref (tv_ad c 2)) C 0 (by decide) rfl rfl in_X7_unlike_X7 1 (by decide) lk_X7_unlike_20 rfl dX7_unlike_23 ?_
      refine tv_iload_n C dX7_unlike_26 rfl 3 rfl ?_
      refine tv_calli (As := [.int p2]) (rest := []) (ci := 6) (cn := RX6) (T := TX6) (Nf := 11) C 2 (kX6_hasLight c s r  p2 ) gX7_unlike_X6_hasLight rfl yd_X6_hasLight ⟨rfl, rfl⟩ (by decide) (by decide) rfl rfl rfl rfl (Nat.le_of_ble_eq_true rfl) dX7_unlike_27 (fun q_5 u_5 z_5 => ?_)
      obtain ⟨rfl, rfl⟩ := z_5
      refine tv_if_ne C 35 dX7_unlike_30 (by decide) (fun c_6 => ?_) (fun c_6 => ?_)
      · skip
        obtain ⟨j_p2, hj_p2, ej_p2, ek_p2⟩ := in_ix e8 (by omega) c_6
        refine tv_aload_n C dX7_unlike_35 rfl 0 rfl ?_
        refine tv_get (ci := 7) (Cn := RX7) (T := TX7) (Nf := 7) (v := .ref (tv_ad c 2)) C 0 (by decide) rfl rfl in_X7_unlike_X7 1 (by decide) lk_X7_unlike_20 rfl dX7_unlike_36 ?_
        refine tv_iload_n C dX7_unlike_39 rfl 1 rfl ?_
        refine tv_iload_n C dX7_unlike_40 rfl 3 rfl ?_
        refine tv_iload C dX7_unlike_41 4 rfl ?_
        refine tv_calli (As := [.int p0, .int p2, .int p3]) (rest := []) (ci := 6) (cn := RX6) (T := TX6) (Nf := 11) C 2 (kX6_lookOfCell c s r j_p0 j_p2 p0 p2 p3 ej_p0 (by omega) ej_p2 (by omega) (iv_c40 hy (hcel j_p0 hj_p0)) hban ⟨nm, hm, e5⟩) gX7_unlike_X6_lookOfCell rfl yd_X6_lookOfCell ⟨rfl, rfl⟩ (by decide) (by decide) rfl rfl rfl rfl (Nat.le_of_ble_eq_true rfl) dX7_unlike_43 (fun q_7 u_7 z_7 => ?_)
        obtain ⟨rfl, rfl⟩ := z_7
        refine tv_aload_n C dX7_unlike_46 rfl 0 rfl ?_
        refine tv_get (ci := 7) (Cn := RX7) (T := TX7) (Nf := 7) (v := .ref (tv_ad c 2)) C 0 (by decide) rfl rfl in_X7_unlike_X7 1 (by decide) lk_X7_unlike_20 rfl dX7_unlike_47 ?_
        refine tv_iload_n C dX7_unlike_50 rfl 2 rfl ?_
        refine tv_iload_n C dX7_unlike_51 rfl 3 rfl ?_
        refine tv_iload C dX7_unlike_52 4 rfl ?_
        refine tv_calli (As := [.int p1, .int p2, .int p3]) (rest := [.int (sp_ln s j_p0 j_p2 p3)]) (ci := 6) (cn := RX6) (T := TX6) (Nf := 11) C 2 (kX6_lookOfCell c s r j_p1 j_p2 p1 p2 p3 ej_p1 (by omega) ej_p2 (by omega) (iv_c40 hy (hcel j_p1 hj_p1)) hban ⟨nm, hm, e5⟩) gX7_unlike_X6_lookOfCell rfl yd_X6_lookOfCell ⟨rfl, rfl⟩ (by decide) (by decide) rfl rfl rfl rfl (Nat.le_of_ble_eq_true rfl) dX7_unlike_54 (fun q_8 u_8 z_8 => ?_)
        obtain ⟨rfl, rfl⟩ := z_8
        refine tv_isub C dX7_unlike_57 ?_
        refine tv_abs C wd_X7_unlike_m180 wd_X7_unlike_stabs wd_X7_unlike_inim wd_X7_unlike_cdabs (by decide) (Nat.le_of_ble_eq_true rfl) dX7_unlike_58 ?_
        exact hR _ _ _ _ dX7_unlike_61 ⟨by simp only [sp_unlike, c_2, ek_p0, c_4, ek_p1, c_6, ek_p2, ↓reduceIte, ab_abs], by first | (simp only [sp_unlike, c_2, ek_p0, c_4, ek_p1, c_6, ek_p2, if_true, ts_ss, ts_aa, ↓reduceIte]; done) | rfl | (simp [sp_unlike, c_2, ek_p0, c_4, ek_p1, c_6, ek_p2, if_true, ts_ss, ts_aa]; done) | (exfalso; clear hR C; simp_all; done)⟩
      · skip
        refine tv_iconst (v := (-1)) C dX7_unlike_33 (by decide) ?_
        exact hR _ _ _ _ dX7_unlike_34 ⟨by simp only [sp_unlike, c_2, ek_p0, c_4, ek_p1, eq_true c_6, ↓reduceIte, ab_abs], by first | (simp only [sp_unlike, c_2, ek_p0, c_4, ek_p1, eq_true c_6, if_true, ts_ss, ts_aa, ↓reduceIte]; done) | rfl | (simp [sp_unlike, c_2, ek_p0, c_4, ek_p1, eq_true c_6, if_true, ts_ss, ts_aa]; done) | (exfalso; clear hR C; simp_all; done)⟩
set_option maxHeartbeats 4000000 in
set_option maxRecDepth 100000 in
theorem kX7_on (c : tv_c) (s r : ts_T)  (p0 p1 p2 : Int32) (hI : iv s) : tv_Fi c 60 yX7_on wsX7_on { frames := 3, cells := 0, slots := 0, locals := 78 } [.ref (tv_ad c 0), .int p0, .int p1, .int p2] (eX c s r) (sp_on s p0 p1 p2) (eX c s r) := by
  refine tv_metI (by decide +kernel) rfl rfl (Nat.le_of_ble_eq_true rfl) (fun X C hR => ?_)
  show tv_V c 60 X (eX c s r) 0 [(0, .ref (tv_ad c 0)), (1, .int p0), (2, .int p1), (3, .int p2)] []
  have hC := iv.hC hI
  obtain ⟨h, w, n, nk, nl, ny, nm, li, e2, e3, e9, hnw, hh, hw, hn, hz, hp, e7, hk, e8, hl, e4, hy, e5, hm, e6, hli, hcel, hkin, hban, hwei, hshe⟩ := id hI
  refine tv_aload_n C dX7_on_0 rfl 0 rfl ?_
  refine tv_get (ci := 7) (Cn := RX7) (T := TX7) (Nf := 7) (v := .ref (tv_ad c 2)) C 0 (by decide) rfl rfl in_X7_on_X7 1 (by decide) lk_X7_on_20 rfl dX7_on_1 ?_
  refine tv_iload_n C dX7_on_4 rfl 1 rfl ?_
  refine tv_calli (As := [.int p0]) (rest := []) (ci := 6) (cn := RX6) (T := TX6) (Nf := 11) C 2 (kX6_hasCell c s r  p0 ) gX7_on_X6_hasCell rfl yd_X6_hasCell ⟨rfl, rfl⟩ (by decide) (by decide) rfl rfl rfl rfl (Nat.le_of_ble_eq_true rfl) dX7_on_5 (fun q_1 u_1 z_1 => ?_)
  obtain ⟨rfl, rfl⟩ := z_1
  refine tv_if_eq C 22 dX7_on_8 (by decide) (fun c_2 => ?_) (fun c_2 => ?_)
  · skip
    refine tv_iconst (v := (-1)) C dX7_on_22 (by decide) ?_
    exact hR _ _ _ _ dX7_on_23 ⟨by simp only [sp_on, eq_true c_2, ↓reduceIte]; try (rw [tk_e eb_p0 (by omega)]), by first | (simp only [eq_true c_2, if_true, ts_ss, ts_aa, ↓reduceIte]; done) | rfl | (simp [eq_true c_2, if_true, ts_ss, ts_aa]; done) | (exfalso; clear hR C; simp_all; done)⟩
  · skip
    obtain ⟨j_p0, hj_p0, ej_p0, ek_p0⟩ := in_ix e9 (by omega) c_2
    obtain ⟨fs_p0, ⟨b_p0, hb_p0, eb_p0⟩, fh_p0, fa_p0, fz_p0⟩ := hcel j_p0 hj_p0
    refine tv_aload_n C dX7_on_11 rfl 0 rfl ?_
    refine tv_get (ci := 7) (Cn := RX7) (T := TX7) (Nf := 7) (v := .ref (tv_ad c 2)) C 0 (by decide) rfl rfl in_X7_on_X7 1 (by decide) lk_X7_on_20 rfl dX7_on_12 ?_
    refine tv_iload_n C dX7_on_15 rfl 2 rfl ?_
    refine tv_calli (As := [.int p1]) (rest := []) (ci := 6) (cn := RX6) (T := TX6) (Nf := 11) C 2 (kX6_hasLight c s r  p1 ) gX7_on_X6_hasLight rfl yd_X6_hasLight ⟨rfl, rfl⟩ (by decide) (by decide) rfl rfl rfl rfl (Nat.le_of_ble_eq_true rfl) dX7_on_16 (fun q_3 u_3 z_3 => ?_)
    obtain ⟨rfl, rfl⟩ := z_3
    refine tv_if_ne C 24 dX7_on_19 (by decide) (fun c_4 => ?_) (fun c_4 => ?_)
    · skip
      obtain ⟨j_p1, hj_p1, ej_p1, ek_p1⟩ := in_ix e8 (by omega) c_4
      refine tv_iload_n C dX7_on_24 rfl 3 rfl ?_
      refine tv_iconst (v := 0) C dX7_on_25 (by decide) ?_
      refine tv_bipush (v := 40) C dX7_on_26 (by decide) ?_
      refine tv_callis (As := [.int p2, .int 0, .int 40]) (rest := []) C (kX7_isWithin c s r  p2 0 40 ) gX7_on_X7_isWithin rfl yd_X7_isWithin ⟨rfl, rfl⟩ (by decide) rfl rfl (Nat.le_of_ble_eq_true rfl) dX7_on_28 (fun q_5 u_5 z_5 => ?_)
      obtain ⟨rfl, rfl⟩ := z_5
      refine tv_if_ne C 37 dX7_on_31 (by decide) (fun c_6 => ?_) (fun c_6 => ?_)
      · skip
        obtain ⟨j_p2, hj_p2, ej_p2, ek_p2⟩ := in_in (b := 40) (by decide) c_6
        refine tv_aload_n C dX7_on_37 rfl 0 rfl ?_
        refine tv_get (ci := 7) (Cn := RX7) (T := TX7) (Nf := 7) (v := .ref (tv_ad c 2)) C 0 (by decide) rfl rfl in_X7_on_X7 1 (by decide) lk_X7_on_20 rfl dX7_on_38 ?_
        refine tv_get (ci := 6) (Cn := RX6) (T := TX6) (Nf := 11) (v := .ref (tv_ad c 3)) C 2 (by decide) rfl rfl in_X7_on_X6 0 (by decide) lk_X7_on_86 rfl dX7_on_41 ?_
        refine tv_iload_n C dX7_on_44 rfl 1 rfl ?_
        refine tv_aald (Cn := RX0) (a := tv_ad c (24 + j_p0)) C 3 (by decide) rfl 3 rfl j_p0 ej_p0 (show j_p0 < 24 by omega) (by decide) rfl dX7_on_45 ?_
        refine tv_astore (lv' := [(4, .ref (tv_ad c (24 + j_p0))), (0, .ref (tv_ad c 0)), (1, .int p0), (2, .int p1), (3, .int p2)]) C dX7_on_46 (by decide) rfl ?_
        refine tv_aload C dX7_on_48 0 rfl ?_
        refine tv_get (ci := 0) (Cn := RX0) (T := TX0) (Nf := 5) (v := .int (s 14 j_p0)) C (24 + j_p0) (by omega) (eX_at_c c s r (by omega)) rfl in_X7_on_X0 4 (by decide) lk_X7_on_104 rfl dX7_on_50 ?_
        refine tv_if_eq C 60 dX7_on_53 (by decide) (fun c_7 => ?_) (fun c_7 => ?_)
        · skip
          refine tv_iload_n C dX7_on_60 rfl 4 rfl ?_
          refine tv_istore (lv' := [(5, .int p2), (4, .ref (tv_ad c (24 + j_p0))), (0, .ref (tv_ad c 0)), (1, .int p0), (2, .int p1), (3, .int p2)]) C dX7_on_61 (by decide) rfl ?_
          refine tv_aload_n C dX7_on_63 rfl 2 rfl ?_
          refine tv_get (ci := 7) (Cn := RX7) (T := TX7) (Nf := 7) (v := .ref (tv_ad c 2)) C 0 (by decide) rfl rfl in_X7_on_X7 1 (by decide) lk_X7_on_20 rfl dX7_on_64 ?_
          refine tv_aload_n C dX7_on_67 rfl 2 rfl ?_
          refine tv_get (ci := 7) (Cn := RX7) (T := TX7) (Nf := 7) (v := .ref (tv_ad c 2)) C 0 (by decide) rfl rfl in_X7_on_X7 1 (by decide) lk_X7_on_20 rfl dX7_on_68 ?_
          refine tv_get (ci := 6) (Cn := RX6) (T := TX6) (Nf := 11) (v := .ref (tv_ad c 4)) C 2 (by decide) rfl rfl in_X7_on_X6 1 (by decide) lk_X7_on_146 rfl dX7_on_71 ?_
          refine tv_aload C dX7_on_74 1 rfl ?_
          refine tv_get (ci := 0) (Cn := RX0) (T := TX0) (Nf := 5) (v := .int (s 11 j_p0)) C (24 + j_p0) (by omega) (eX_at_c c s r (by omega)) rfl in_X7_on_X0 1 (by decide) lk_X7_on_95 rfl dX7_on_76 ?_
          refine tv_aald (Cn := RX1) (a := tv_ad c (cp_p b_p0)) C 4 (by decide) rfl 4 rfl b_p0 eb_p0 (show b_p0 < 6 by omega) (by decide) (cp_ld (show b_p0 < 6 by omega)) dX7_on_79 ?_
          refine tv_aload C dX7_on_80 1 rfl ?_
          refine tv_get (ci := 0) (Cn := RX0) (T := TX0) (Nf := 5) (v := .int (s 12 j_p0)) C (24 + j_p0) (by omega) (eX_at_c c s r (by omega)) rfl in_X7_on_X0 2 (by decide) lk_X7_on_98 rfl dX7_on_82 ?_
          refine tv_iload C dX7_on_85 0 rfl ?_
          refine tv_aload C dX7_on_87 1 rfl ?_
          refine tv_get (ci := 0) (Cn := RX0) (T := TX0) (Nf := 5) (v := .int (s 10 j_p0)) C (24 + j_p0) (by omega) (eX_at_c c s r (by omega)) rfl in_X7_on_X0 0 (by decide) lk_X7_on_90 rfl dX7_on_89 ?_
          refine tv_imul C dX7_on_92 ?_
          refine tv_iadd C dX7_on_93 ?_
          refine tv_aload C dX7_on_94 1 rfl ?_
          refine tv_get (ci := 0) (Cn := RX0) (T := TX0) (Nf := 5) (v := .int (s 13 j_p0)) C (24 + j_p0) (by omega) (eX_at_c c s r (by omega)) rfl in_X7_on_X0 3 (by decide) lk_X7_on_101 rfl dX7_on_96 ?_
          refine tv_iload C dX7_on_99 0 rfl ?_
          refine tv_iadd C dX7_on_101 ?_
          refine tv_iload_n C dX7_on_102 rfl 4 rfl ?_
          refine tv_iconst (v := 0) C dX7_on_103 (by decide) ?_
          refine tv_calli (As := [.ref (tv_ad c (cp_p b_p0)), .int ((s 12 j_p0) + (p2 * (s 10 j_p0))), .int ((s 13 j_p0) + p2), .int p1, .int 0]) (rest := []) (ci := 6) (cn := RX6) (T := TX6) (Nf := 11) C 2 (kX6_lookOfCoat c s r b_p0 j_p1 ((s 12 j_p0) + (p2 * (s 10 j_p0))) ((s 13 j_p0) + p2) p1 0 (show b_p0 < 7 by omega) ej_p1 (by omega) (fun b hb => by rw [cp_v6 hb_p0]; exact hban _ (by omega)) (by first | exact (fh_p0.add (tn_b.mul (⟨j_p2, hj_p2, ej_p2⟩ : tn_b p2 40) fs_p0)).mono (by omega) | exact (fh_p0.add (tn_b.mul (⟨0, by decide, rfl⟩ : tn_b 0 0) fs_p0)).mono (by omega)) (by first | exact (fa_p0.add (⟨j_p2, hj_p2, ej_p2⟩ : tn_b p2 40)).mono (by omega) | exact (fa_p0.add (⟨0, by decide, rfl⟩ : tn_b 0 0)).mono (by omega)) ⟨nm, hm, e5⟩) gX7_on_X6_lookOfCoat rfl yd_X6_lookOfCoat ⟨rfl, rfl⟩ (by decide) (by decide) rfl rfl rfl rfl (Nat.le_of_ble_eq_true rfl) dX7_on_104 (fun q_8 u_8 z_8 => ?_)
          obtain ⟨rfl, rfl⟩ := z_8
          rw [lq_lk hb_p0]
          exact hR _ _ _ _ dX7_on_107 ⟨by simp only [sp_on, c_2, ek_p0, c_4, ek_p1, c_6, ek_p2, eq_true c_7, ↓reduceIte]; try (rw [tk_e eb_p0 (by omega)]), by first | (simp only [c_2, ek_p0, c_4, ek_p1, c_6, ek_p2, eq_true c_7, if_true, ts_ss, ts_aa, ↓reduceIte]; done) | rfl | (simp [c_2, ek_p0, c_4, ek_p1, c_6, ek_p2, eq_true c_7, if_true, ts_ss, ts_aa]; done) | (exfalso; clear hR C; simp_all; done)⟩
        · skip
          refine tv_iconst (v := 0) C dX7_on_56 (by decide) ?_
          refine tv_goto C 61 dX7_on_57 (by decide) ?_
          refine tv_istore (lv' := [(5, .int 0), (4, .ref (tv_ad c (24 + j_p0))), (0, .ref (tv_ad c 0)), (1, .int p0), (2, .int p1), (3, .int p2)]) C dX7_on_61 (by decide) rfl ?_
          refine tv_aload_n C dX7_on_63 rfl 2 rfl ?_
          refine tv_get (ci := 7) (Cn := RX7) (T := TX7) (Nf := 7) (v := .ref (tv_ad c 2)) C 0 (by decide) rfl rfl in_X7_on_X7 1 (by decide) lk_X7_on_20 rfl dX7_on_64 ?_
          refine tv_aload_n C dX7_on_67 rfl 2 rfl ?_
          refine tv_get (ci := 7) (Cn := RX7) (T := TX7) (Nf := 7) (v := .ref (tv_ad c 2)) C 0 (by decide) rfl rfl in_X7_on_X7 1 (by decide) lk_X7_on_20 rfl dX7_on_68 ?_
          refine tv_get (ci := 6) (Cn := RX6) (T := TX6) (Nf := 11) (v := .ref (tv_ad c 4)) C 2 (by decide) rfl rfl in_X7_on_X6 1 (by decide) lk_X7_on_146 rfl dX7_on_71 ?_
          refine tv_aload C dX7_on_74 1 rfl ?_
          refine tv_get (ci := 0) (Cn := RX0) (T := TX0) (Nf := 5) (v := .int (s 11 j_p0)) C (24 + j_p0) (by omega) (eX_at_c c s r (by omega)) rfl in_X7_on_X0 1 (by decide) lk_X7_on_95 rfl dX7_on_76 ?_
          refine tv_aald (Cn := RX1) (a := tv_ad c (cp_p b_p0)) C 4 (by decide) rfl 4 rfl b_p0 eb_p0 (show b_p0 < 6 by omega) (by decide) (cp_ld (show b_p0 < 6 by omega)) dX7_on_79 ?_
          refine tv_aload C dX7_on_80 1 rfl ?_
          refine tv_get (ci := 0) (Cn := RX0) (T := TX0) (Nf := 5) (v := .int (s 12 j_p0)) C (24 + j_p0) (by omega) (eX_at_c c s r (by omega)) rfl in_X7_on_X0 2 (by decide) lk_X7_on_98 rfl dX7_on_82 ?_
          refine tv_iload C dX7_on_85 0 rfl ?_
          refine tv_aload C dX7_on_87 1 rfl ?_
          refine tv_get (ci := 0) (Cn := RX0) (T := TX0) (Nf := 5) (v := .int (s 10 j_p0)) C (24 + j_p0) (by omega) (eX_at_c c s r (by omega)) rfl in_X7_on_X0 0 (by decide) lk_X7_on_90 rfl dX7_on_89 ?_
          refine tv_imul C dX7_on_92 ?_
          refine tv_iadd C dX7_on_93 ?_
          refine tv_aload C dX7_on_94 1 rfl ?_
          refine tv_get (ci := 0) (Cn := RX0) (T := TX0) (Nf := 5) (v := .int (s 13 j_p0)) C (24 + j_p0) (by omega) (eX_at_c c s r (by omega)) rfl in_X7_on_X0 3 (by decide) lk_X7_on_101 rfl dX7_on_96 ?_
          refine tv_iload C dX7_on_99 0 rfl ?_
          refine tv_iadd C dX7_on_101 ?_
          refine tv_iload_n C dX7_on_102 rfl 4 rfl ?_
          refine tv_iconst (v := 0) C dX7_on_103 (by decide) ?_
          refine tv_calli (As := [.ref (tv_ad c (cp_p b_p0)), .int ((s 12 j_p0) + (0 * (s 10 j_p0))), .int ((s 13 j_p0) + 0), .int p1, .int 0]) (rest := []) (ci := 6) (cn := RX6) (T := TX6) (Nf := 11) C 2 (kX6_lookOfCoat c s r b_p0 j_p1 ((s 12 j_p0) + (0 * (s 10 j_p0))) ((s 13 j_p0) + 0) p1 0 (show b_p0 < 7 by omega) ej_p1 (by omega) (fun b hb => by rw [cp_v6 hb_p0]; exact hban _ (by omega)) (by first | exact (fh_p0.add (tn_b.mul (⟨j_p2, hj_p2, ej_p2⟩ : tn_b p2 40) fs_p0)).mono (by omega) | exact (fh_p0.add (tn_b.mul (⟨0, by decide, rfl⟩ : tn_b 0 0) fs_p0)).mono (by omega)) (by first | exact (fa_p0.add (⟨j_p2, hj_p2, ej_p2⟩ : tn_b p2 40)).mono (by omega) | exact (fa_p0.add (⟨0, by decide, rfl⟩ : tn_b 0 0)).mono (by omega)) ⟨nm, hm, e5⟩) gX7_on_X6_lookOfCoat rfl yd_X6_lookOfCoat ⟨rfl, rfl⟩ (by decide) (by decide) rfl rfl rfl rfl (Nat.le_of_ble_eq_true rfl) dX7_on_104 (fun q_9 u_9 z_9 => ?_)
          obtain ⟨rfl, rfl⟩ := z_9
          rw [lq_lk hb_p0]
          exact hR _ _ _ _ dX7_on_107 ⟨by simp only [sp_on, c_2, ek_p0, c_4, ek_p1, c_6, ek_p2, c_7, ↓reduceIte]; try (rw [tk_e eb_p0 (by omega)]), by first | (simp only [c_2, ek_p0, c_4, ek_p1, c_6, ek_p2, c_7, if_true, ts_ss, ts_aa, ↓reduceIte]; done) | rfl | (simp [c_2, ek_p0, c_4, ek_p1, c_6, ek_p2, c_7, if_true, ts_ss, ts_aa]; done) | (exfalso; clear hR C; simp_all; done)⟩
      · skip
        refine tv_bipush (v := (-2)) C dX7_on_34 (by decide) ?_
        exact hR _ _ _ _ dX7_on_36 ⟨by simp only [sp_on, c_2, ek_p0, c_4, ek_p1, eq_true c_6, ↓reduceIte]; try (rw [tk_e eb_p0 (by omega)]), by first | (simp only [c_2, ek_p0, c_4, ek_p1, eq_true c_6, if_true, ts_ss, ts_aa, ↓reduceIte]; done) | rfl | (simp [c_2, ek_p0, c_4, ek_p1, eq_true c_6, if_true, ts_ss, ts_aa]; done) | (exfalso; clear hR C; simp_all; done)⟩
    · skip
      refine tv_iconst (v := (-1)) C dX7_on_22 (by decide) ?_
      exact hR _ _ _ _ dX7_on_23 ⟨by simp only [sp_on, c_2, ek_p0, eq_true c_4, ↓reduceIte]; try (rw [tk_e eb_p0 (by omega)]), by first | (simp only [c_2, ek_p0, eq_true c_4, if_true, ts_ss, ts_aa, ↓reduceIte]; done) | rfl | (simp [c_2, ek_p0, eq_true c_4, if_true, ts_ss, ts_aa]; done) | (exfalso; clear hR C; simp_all; done)⟩
set_option maxHeartbeats 4000000 in
set_option maxRecDepth 100000 in
theorem kX7_lose (c : tv_c) (s r : ts_T)  (p0 : Int32) (hI : iv s) : tv_Fi c 60 yX7_lose wsX7_lose { frames := 2, cells := 0, slots := 0, locals := 42 } [.ref (tv_ad c 0), .int p0] (eX c s r) ((sp_lose s p0).1) (eX c (sp_lose s p0).2 r) := by
  refine tv_metI (by decide +kernel) rfl rfl (Nat.le_of_ble_eq_true rfl) (fun X C hR => ?_)
  show tv_V c 60 X (eX c s r) 0 [(0, .ref (tv_ad c 0)), (1, .int p0)] []
  have hC := iv.hC hI
  obtain ⟨h, w, n, nk, nl, ny, nm, li, e2, e3, e9, hnw, hh, hw, hn, hz, hp, e7, hk, e8, hl, e4, hy, e5, hm, e6, hli, hcel, hkin, hban, hwei, hshe⟩ := id hI
  refine tv_iload_n C dX7_lose_0 rfl 1 rfl ?_
  refine tv_callis (As := [.int p0]) (rest := []) C (kX7_isSheet c s r  p0 ) gX7_lose_X7_isSheet rfl yd_X7_isSheet ⟨rfl, rfl⟩ (by decide) rfl rfl (Nat.le_of_ble_eq_true rfl) dX7_lose_1 (fun q_1 u_1 z_1 => ?_)
  obtain ⟨rfl, rfl⟩ := z_1
  refine tv_if_ne C 9 dX7_lose_4 (by decide) (fun c_2 => ?_) (fun c_2 => ?_)
  · skip
    obtain ⟨j_p0, hj_p0, ej_p0, ek_p0⟩ := in_in (b := 3) (by decide) c_2
    refine tv_aload_n C dX7_lose_9 rfl 0 rfl ?_
    refine tv_get (ci := 7) (Cn := RX7) (T := TX7) (Nf := 7) (v := .ref (tv_ad c 1)) C 0 (by decide) rfl rfl in_X7_lose_X7 0 (by decide) lk_X7_lose_13 rfl dX7_lose_10 ?_
    refine tv_iload_n C dX7_lose_13 rfl 1 rfl ?_
    refine tv_aald (Cn := RX5) (a := tv_ad c (16 + j_p0)) C 1 (by decide) rfl 2 rfl j_p0 ej_p0 (show j_p0 < 4 by omega) (by decide) rfl dX7_lose_14 ?_
    refine tv_get (ci := 5) (Cn := RX5) (T := TX5) (Nf := 4) (v := .int (s 18 j_p0)) C (16 + j_p0) (by omega) (eX_at_s c s r (by omega)) rfl in_X7_lose_X5 1 (by decide) lk_X7_lose_251 rfl dX7_lose_15 ?_
    refine tv_istore_n (lv' := [(2, .int (s 18 j_p0)), (0, .ref (tv_ad c 0)), (1, .int p0)]) C dX7_lose_18 rfl (by decide) rfl ?_
    refine tv_aload_n C dX7_lose_19 rfl 1 rfl ?_
    refine tv_get (ci := 7) (Cn := RX7) (T := TX7) (Nf := 7) (v := .ref (tv_ad c 1)) C 0 (by decide) rfl rfl in_X7_lose_X7 0 (by decide) lk_X7_lose_13 rfl dX7_lose_20 ?_
    refine tv_iload_n C dX7_lose_23 rfl 2 rfl ?_
    refine tv_aald (Cn := RX5) (a := tv_ad c (16 + j_p0)) C 1 (by decide) rfl 2 rfl j_p0 ej_p0 (show j_p0 < 4 by omega) (by decide) rfl dX7_lose_24 ?_
    refine tv_iconst (v := 0) C dX7_lose_25 (by decide) ?_
    refine tv_put (ci := 5) (Cn := RX5) (T := TX5) (Nf := 4) (ty := .boolean) (E' := (eX c (ts_a s 18 (upd (s 18) j_p0 0)) r)) C (16 + j_p0) (by omega) (eX_at_s c s r (by omega)) rfl in_X7_lose_X5 tyX5 tyX5_ok nmX5 1 (by decide) lk_X7_lose_251 rfl (by decide +kernel) rfl rfl (Nat.le_of_ble_eq_true rfl) (eX_u_s_has c s r (by omega) 0) dX7_lose_26 ?_
    refine tv_iload_n C dX7_lose_29 rfl 0 rfl ?_
    refine tv_if_eq C 37 dX7_lose_30 (by decide) (fun c_3 => ?_) (fun c_3 => ?_)
    · skip
      refine tv_iconst (v := 0) C dX7_lose_37 (by decide) ?_
      exact hR _ _ _ _ dX7_lose_38 ⟨by first | (simp only [sp_lose, c_2, ek_p0, eq_true c_3, if_true, ↓reduceIte]; done) | rfl | (simp [sp_lose, c_2, ek_p0, eq_true c_3, if_true]; done) | (exfalso; clear hR C; simp_all; done), by first | (simp only [sp_lose, c_2, ek_p0, eq_true c_3, if_true, ts_ss, ts_aa, ↓reduceIte]; done) | rfl | (simp [sp_lose, c_2, ek_p0, eq_true c_3, if_true, ts_ss, ts_aa]; done) | (exfalso; clear hR C; simp_all; done)⟩
    · skip
      refine tv_iconst (v := 1) C dX7_lose_33 (by decide) ?_
      refine tv_goto C 38 dX7_lose_34 (by decide) ?_
      exact hR _ _ _ _ dX7_lose_38 ⟨by first | (simp only [sp_lose, c_2, ek_p0, c_3, if_true, ↓reduceIte]; done) | rfl | (simp [sp_lose, c_2, ek_p0, c_3, if_true]; done) | (exfalso; clear hR C; simp_all; done), by first | (simp only [sp_lose, c_2, ek_p0, c_3, if_true, ts_ss, ts_aa, ↓reduceIte]; done) | rfl | (simp [sp_lose, c_2, ek_p0, c_3, if_true, ts_ss, ts_aa]; done) | (exfalso; clear hR C; simp_all; done)⟩
  · skip
    refine tv_iconst (v := (-1)) C dX7_lose_7 (by decide) ?_
    exact hR _ _ _ _ dX7_lose_8 ⟨by first | (simp only [sp_lose, eq_true c_2, if_true, ↓reduceIte]; done) | rfl | (simp [sp_lose, eq_true c_2, if_true]; done) | (exfalso; clear hR C; simp_all; done), by first | (simp only [sp_lose, eq_true c_2, if_true, ts_ss, ts_aa, ↓reduceIte]; done) | rfl | (simp [sp_lose, eq_true c_2, if_true, ts_ss, ts_aa]; done) | (exfalso; clear hR C; simp_all; done)⟩
