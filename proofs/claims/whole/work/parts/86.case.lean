/-! the cases of the law -/
theorem yl_X7_wall : yX7_wall.cls = RX7 ∧ yX7_wall.cls ≠ "java/lang/invoke/MethodHandle" ∧ yX7_wall.cls ≠ "java/lang/invoke/VarHandle" ∧ (parseMethodDescriptor yX7_wall.desc).map (fun d => d.parameters.length) = some 4 := by decide +kernel
theorem yl_X8_wall : yX8_wall.cls = RX8 ∧ yX8_wall.cls ≠ "java/lang/invoke/MethodHandle" ∧ yX8_wall.cls ≠ "java/lang/invoke/VarHandle" ∧ (parseMethodDescriptor yX8_wall.desc).map (fun d => d.parameters.length) = some 4 := by decide +kernel
theorem yl_X7_ofCell : yX7_ofCell.cls = RX7 ∧ yX7_ofCell.cls ≠ "java/lang/invoke/MethodHandle" ∧ yX7_ofCell.cls ≠ "java/lang/invoke/VarHandle" ∧ (parseMethodDescriptor yX7_ofCell.desc).map (fun d => d.parameters.length) = some 2 := by decide +kernel
theorem yl_X8_ofCell : yX8_ofCell.cls = RX8 ∧ yX8_ofCell.cls ≠ "java/lang/invoke/MethodHandle" ∧ yX8_ofCell.cls ≠ "java/lang/invoke/VarHandle" ∧ (parseMethodDescriptor yX8_ofCell.desc).map (fun d => d.parameters.length) = some 2 := by decide +kernel
theorem yl_X7_set : yX7_set.cls = RX7 ∧ yX7_set.cls ≠ "java/lang/invoke/MethodHandle" ∧ yX7_set.cls ≠ "java/lang/invoke/VarHandle" ∧ (parseMethodDescriptor yX7_set.desc).map (fun d => d.parameters.length) = some 2 := by decide +kernel
theorem yl_X8_set : yX8_set.cls = RX8 ∧ yX8_set.cls ≠ "java/lang/invoke/MethodHandle" ∧ yX8_set.cls ≠ "java/lang/invoke/VarHandle" ∧ (parseMethodDescriptor yX8_set.desc).map (fun d => d.parameters.length) = some 2 := by decide +kernel
theorem yl_X7_years : yX7_years.cls = RX7 ∧ yX7_years.cls ≠ "java/lang/invoke/MethodHandle" ∧ yX7_years.cls ≠ "java/lang/invoke/VarHandle" ∧ (parseMethodDescriptor yX7_years.desc).map (fun d => d.parameters.length) = some 1 := by decide +kernel
theorem yl_X8_years : yX8_years.cls = RX8 ∧ yX8_years.cls ≠ "java/lang/invoke/MethodHandle" ∧ yX8_years.cls ≠ "java/lang/invoke/VarHandle" ∧ (parseMethodDescriptor yX8_years.desc).map (fun d => d.parameters.length) = some 1 := by decide +kernel
theorem yl_X7_hang : yX7_hang.cls = RX7 ∧ yX7_hang.cls ≠ "java/lang/invoke/MethodHandle" ∧ yX7_hang.cls ≠ "java/lang/invoke/VarHandle" ∧ (parseMethodDescriptor yX7_hang.desc).map (fun d => d.parameters.length) = some 2 := by decide +kernel
theorem yl_X8_hang : yX8_hang.cls = RX8 ∧ yX8_hang.cls ≠ "java/lang/invoke/MethodHandle" ∧ yX8_hang.cls ≠ "java/lang/invoke/VarHandle" ∧ (parseMethodDescriptor yX8_hang.desc).map (fun d => d.parameters.length) = some 2 := by decide +kernel
theorem yl_X7_coat : yX7_coat.cls = RX7 ∧ yX7_coat.cls ≠ "java/lang/invoke/MethodHandle" ∧ yX7_coat.cls ≠ "java/lang/invoke/VarHandle" ∧ (parseMethodDescriptor yX7_coat.desc).map (fun d => d.parameters.length) = some 4 := by decide +kernel
theorem yl_X8_coat : yX8_coat.cls = RX8 ∧ yX8_coat.cls ≠ "java/lang/invoke/MethodHandle" ∧ yX8_coat.cls ≠ "java/lang/invoke/VarHandle" ∧ (parseMethodDescriptor yX8_coat.desc).map (fun d => d.parameters.length) = some 4 := by decide +kernel
theorem yl_X7_ofCoat : yX7_ofCoat.cls = RX7 ∧ yX7_ofCoat.cls ≠ "java/lang/invoke/MethodHandle" ∧ yX7_ofCoat.cls ≠ "java/lang/invoke/VarHandle" ∧ (parseMethodDescriptor yX7_ofCoat.desc).map (fun d => d.parameters.length) = some 2 := by decide +kernel
theorem yl_X8_ofCoat : yX8_ofCoat.cls = RX8 ∧ yX8_ofCoat.cls ≠ "java/lang/invoke/MethodHandle" ∧ yX8_ofCoat.cls ≠ "java/lang/invoke/VarHandle" ∧ (parseMethodDescriptor yX8_ofCoat.desc).map (fun d => d.parameters.length) = some 2 := by decide +kernel
theorem yl_X7_paint : yX7_paint.cls = RX7 ∧ yX7_paint.cls ≠ "java/lang/invoke/MethodHandle" ∧ yX7_paint.cls ≠ "java/lang/invoke/VarHandle" ∧ (parseMethodDescriptor yX7_paint.desc).map (fun d => d.parameters.length) = some 2 := by decide +kernel
theorem yl_X8_paint : yX8_paint.cls = RX8 ∧ yX8_paint.cls ≠ "java/lang/invoke/MethodHandle" ∧ yX8_paint.cls ≠ "java/lang/invoke/VarHandle" ∧ (parseMethodDescriptor yX8_paint.desc).map (fun d => d.parameters.length) = some 2 := by decide +kernel
theorem yl_X7_back : yX7_back.cls = RX7 ∧ yX7_back.cls ≠ "java/lang/invoke/MethodHandle" ∧ yX7_back.cls ≠ "java/lang/invoke/VarHandle" ∧ (parseMethodDescriptor yX7_back.desc).map (fun d => d.parameters.length) = some 3 := by decide +kernel
theorem yl_X8_back : yX8_back.cls = RX8 ∧ yX8_back.cls ≠ "java/lang/invoke/MethodHandle" ∧ yX8_back.cls ≠ "java/lang/invoke/VarHandle" ∧ (parseMethodDescriptor yX8_back.desc).map (fun d => d.parameters.length) = some 3 := by decide +kernel
theorem yl_X7_light : yX7_light.cls = RX7 ∧ yX7_light.cls ≠ "java/lang/invoke/MethodHandle" ∧ yX7_light.cls ≠ "java/lang/invoke/VarHandle" ∧ (parseMethodDescriptor yX7_light.desc).map (fun d => d.parameters.length) = some 3 := by decide +kernel
theorem yl_X8_light : yX8_light.cls = RX8 ∧ yX8_light.cls ≠ "java/lang/invoke/MethodHandle" ∧ yX8_light.cls ≠ "java/lang/invoke/VarHandle" ∧ (parseMethodDescriptor yX8_light.desc).map (fun d => d.parameters.length) = some 3 := by decide +kernel
theorem yl_X7_look : yX7_look.cls = RX7 ∧ yX7_look.cls ≠ "java/lang/invoke/MethodHandle" ∧ yX7_look.cls ≠ "java/lang/invoke/VarHandle" ∧ (parseMethodDescriptor yX7_look.desc).map (fun d => d.parameters.length) = some 3 := by decide +kernel
theorem yl_X8_look : yX8_look.cls = RX8 ∧ yX8_look.cls ≠ "java/lang/invoke/MethodHandle" ∧ yX8_look.cls ≠ "java/lang/invoke/VarHandle" ∧ (parseMethodDescriptor yX8_look.desc).map (fun d => d.parameters.length) = some 3 := by decide +kernel
theorem yl_X7_unlike : yX7_unlike.cls = RX7 ∧ yX7_unlike.cls ≠ "java/lang/invoke/MethodHandle" ∧ yX7_unlike.cls ≠ "java/lang/invoke/VarHandle" ∧ (parseMethodDescriptor yX7_unlike.desc).map (fun d => d.parameters.length) = some 4 := by decide +kernel
theorem yl_X8_unlike : yX8_unlike.cls = RX8 ∧ yX8_unlike.cls ≠ "java/lang/invoke/MethodHandle" ∧ yX8_unlike.cls ≠ "java/lang/invoke/VarHandle" ∧ (parseMethodDescriptor yX8_unlike.desc).map (fun d => d.parameters.length) = some 4 := by decide +kernel
theorem yl_X7_seen : yX7_seen.cls = RX7 ∧ yX7_seen.cls ≠ "java/lang/invoke/MethodHandle" ∧ yX7_seen.cls ≠ "java/lang/invoke/VarHandle" ∧ (parseMethodDescriptor yX7_seen.desc).map (fun d => d.parameters.length) = some 1 := by decide +kernel
theorem yl_X8_seen : yX8_seen.cls = RX8 ∧ yX8_seen.cls ≠ "java/lang/invoke/MethodHandle" ∧ yX8_seen.cls ≠ "java/lang/invoke/VarHandle" ∧ (parseMethodDescriptor yX8_seen.desc).map (fun d => d.parameters.length) = some 1 := by decide +kernel
theorem yl_X7_mix : yX7_mix.cls = RX7 ∧ yX7_mix.cls ≠ "java/lang/invoke/MethodHandle" ∧ yX7_mix.cls ≠ "java/lang/invoke/VarHandle" ∧ (parseMethodDescriptor yX7_mix.desc).map (fun d => d.parameters.length) = some 4 := by decide +kernel
theorem yl_X8_mix : yX8_mix.cls = RX8 ∧ yX8_mix.cls ≠ "java/lang/invoke/MethodHandle" ∧ yX8_mix.cls ≠ "java/lang/invoke/VarHandle" ∧ (parseMethodDescriptor yX8_mix.desc).map (fun d => d.parameters.length) = some 4 := by decide +kernel
theorem yl_X7_best : yX7_best.cls = RX7 ∧ yX7_best.cls ≠ "java/lang/invoke/MethodHandle" ∧ yX7_best.cls ≠ "java/lang/invoke/VarHandle" ∧ (parseMethodDescriptor yX7_best.desc).map (fun d => d.parameters.length) = some 2 := by decide +kernel
theorem yl_X8_best : yX8_best.cls = RX8 ∧ yX8_best.cls ≠ "java/lang/invoke/MethodHandle" ∧ yX8_best.cls ≠ "java/lang/invoke/VarHandle" ∧ (parseMethodDescriptor yX8_best.desc).map (fun d => d.parameters.length) = some 2 := by decide +kernel
theorem yl_X7_traitors : yX7_traitors.cls = RX7 ∧ yX7_traitors.cls ≠ "java/lang/invoke/MethodHandle" ∧ yX7_traitors.cls ≠ "java/lang/invoke/VarHandle" ∧ (parseMethodDescriptor yX7_traitors.desc).map (fun d => d.parameters.length) = some 3 := by decide +kernel
theorem yl_X8_traitors : yX8_traitors.cls = RX8 ∧ yX8_traitors.cls ≠ "java/lang/invoke/MethodHandle" ∧ yX8_traitors.cls ≠ "java/lang/invoke/VarHandle" ∧ (parseMethodDescriptor yX8_traitors.desc).map (fun d => d.parameters.length) = some 3 := by decide +kernel
theorem yl_X7_patch : yX7_patch.cls = RX7 ∧ yX7_patch.cls ≠ "java/lang/invoke/MethodHandle" ∧ yX7_patch.cls ≠ "java/lang/invoke/VarHandle" ∧ (parseMethodDescriptor yX7_patch.desc).map (fun d => d.parameters.length) = some 3 := by decide +kernel
theorem yl_X8_patch : yX8_patch.cls = RX8 ∧ yX8_patch.cls ≠ "java/lang/invoke/MethodHandle" ∧ yX8_patch.cls ≠ "java/lang/invoke/VarHandle" ∧ (parseMethodDescriptor yX8_patch.desc).map (fun d => d.parameters.length) = some 3 := by decide +kernel
theorem yl_X7_leave : yX7_leave.cls = RX7 ∧ yX7_leave.cls ≠ "java/lang/invoke/MethodHandle" ∧ yX7_leave.cls ≠ "java/lang/invoke/VarHandle" ∧ (parseMethodDescriptor yX7_leave.desc).map (fun d => d.parameters.length) = some 2 := by decide +kernel
theorem yl_X8_leave : yX8_leave.cls = RX8 ∧ yX8_leave.cls ≠ "java/lang/invoke/MethodHandle" ∧ yX8_leave.cls ≠ "java/lang/invoke/VarHandle" ∧ (parseMethodDescriptor yX8_leave.desc).map (fun d => d.parameters.length) = some 2 := by decide +kernel
theorem yl_X7_on : yX7_on.cls = RX7 ∧ yX7_on.cls ≠ "java/lang/invoke/MethodHandle" ∧ yX7_on.cls ≠ "java/lang/invoke/VarHandle" ∧ (parseMethodDescriptor yX7_on.desc).map (fun d => d.parameters.length) = some 3 := by decide +kernel
theorem yl_X8_on : yX8_on.cls = RX8 ∧ yX8_on.cls ≠ "java/lang/invoke/MethodHandle" ∧ yX8_on.cls ≠ "java/lang/invoke/VarHandle" ∧ (parseMethodDescriptor yX8_on.desc).map (fun d => d.parameters.length) = some 3 := by decide +kernel
theorem yl_X7_hide : yX7_hide.cls = RX7 ∧ yX7_hide.cls ≠ "java/lang/invoke/MethodHandle" ∧ yX7_hide.cls ≠ "java/lang/invoke/VarHandle" ∧ (parseMethodDescriptor yX7_hide.desc).map (fun d => d.parameters.length) = some 1 := by decide +kernel
theorem yl_X8_hide : yX8_hide.cls = RX8 ∧ yX8_hide.cls ≠ "java/lang/invoke/MethodHandle" ∧ yX8_hide.cls ≠ "java/lang/invoke/VarHandle" ∧ (parseMethodDescriptor yX8_hide.desc).map (fun d => d.parameters.length) = some 1 := by decide +kernel
theorem yl_X7_hung : yX7_hung.cls = RX7 ∧ yX7_hung.cls ≠ "java/lang/invoke/MethodHandle" ∧ yX7_hung.cls ≠ "java/lang/invoke/VarHandle" ∧ (parseMethodDescriptor yX7_hung.desc).map (fun d => d.parameters.length) = some 6 := by decide +kernel
theorem yl_X8_hung : yX8_hung.cls = RX8 ∧ yX8_hung.cls ≠ "java/lang/invoke/MethodHandle" ∧ yX8_hung.cls ≠ "java/lang/invoke/VarHandle" ∧ (parseMethodDescriptor yX8_hung.desc).map (fun d => d.parameters.length) = some 6 := by decide +kernel
theorem yl_X7_old : yX7_old.cls = RX7 ∧ yX7_old.cls ≠ "java/lang/invoke/MethodHandle" ∧ yX7_old.cls ≠ "java/lang/invoke/VarHandle" ∧ (parseMethodDescriptor yX7_old.desc).map (fun d => d.parameters.length) = some 5 := by decide +kernel
theorem yl_X8_old : yX8_old.cls = RX8 ∧ yX8_old.cls ≠ "java/lang/invoke/MethodHandle" ∧ yX8_old.cls ≠ "java/lang/invoke/VarHandle" ∧ (parseMethodDescriptor yX8_old.desc).map (fun d => d.parameters.length) = some 5 := by decide +kernel
theorem yl_X7_sheet : yX7_sheet.cls = RX7 ∧ yX7_sheet.cls ≠ "java/lang/invoke/MethodHandle" ∧ yX7_sheet.cls ≠ "java/lang/invoke/VarHandle" ∧ (parseMethodDescriptor yX7_sheet.desc).map (fun d => d.parameters.length) = some 3 := by decide +kernel
theorem yl_X8_sheet : yX8_sheet.cls = RX8 ∧ yX8_sheet.cls ≠ "java/lang/invoke/MethodHandle" ∧ yX8_sheet.cls ≠ "java/lang/invoke/VarHandle" ∧ (parseMethodDescriptor yX8_sheet.desc).map (fun d => d.parameters.length) = some 3 := by decide +kernel
theorem yl_X7_lose : yX7_lose.cls = RX7 ∧ yX7_lose.cls ≠ "java/lang/invoke/MethodHandle" ∧ yX7_lose.cls ≠ "java/lang/invoke/VarHandle" ∧ (parseMethodDescriptor yX7_lose.desc).map (fun d => d.parameters.length) = some 1 := by decide +kernel
theorem yl_X8_lose : yX8_lose.cls = RX8 ∧ yX8_lose.cls ≠ "java/lang/invoke/MethodHandle" ∧ yX8_lose.cls ≠ "java/lang/invoke/VarHandle" ∧ (parseMethodDescriptor yX8_lose.desc).map (fun d => d.parameters.length) = some 1 := by decide +kernel
theorem yl_X7_put : yX7_put.cls = RX7 ∧ yX7_put.cls ≠ "java/lang/invoke/MethodHandle" ∧ yX7_put.cls ≠ "java/lang/invoke/VarHandle" ∧ (parseMethodDescriptor yX7_put.desc).map (fun d => d.parameters.length) = some 3 := by decide +kernel
theorem yl_X8_put : yX8_put.cls = RX8 ∧ yX8_put.cls ≠ "java/lang/invoke/MethodHandle" ∧ yX8_put.cls ≠ "java/lang/invoke/VarHandle" ∧ (parseMethodDescriptor yX8_put.desc).map (fun d => d.parameters.length) = some 3 := by decide +kernel
theorem yl_X7_cell : yX7_cell.cls = RX7 ∧ yX7_cell.cls ≠ "java/lang/invoke/MethodHandle" ∧ yX7_cell.cls ≠ "java/lang/invoke/VarHandle" ∧ (parseMethodDescriptor yX7_cell.desc).map (fun d => d.parameters.length) = some 3 := by decide +kernel
theorem yl_X8_cell : yX8_cell.cls = RX8 ∧ yX8_cell.cls ≠ "java/lang/invoke/MethodHandle" ∧ yX8_cell.cls ≠ "java/lang/invoke/VarHandle" ∧ (parseMethodDescriptor yX8_cell.desc).map (fun d => d.parameters.length) = some 3 := by decide +kernel
theorem yl_X7_copy : yX7_copy.cls = RX7 ∧ yX7_copy.cls ≠ "java/lang/invoke/MethodHandle" ∧ yX7_copy.cls ≠ "java/lang/invoke/VarHandle" ∧ (parseMethodDescriptor yX7_copy.desc).map (fun d => d.parameters.length) = some 5 := by decide +kernel
theorem yl_X8_copy : yX8_copy.cls = RX8 ∧ yX8_copy.cls ≠ "java/lang/invoke/MethodHandle" ∧ yX8_copy.cls ≠ "java/lang/invoke/VarHandle" ∧ (parseMethodDescriptor yX8_copy.desc).map (fun d => d.parameters.length) = some 5 := by decide +kernel
theorem yl_X7_tell : yX7_tell.cls = RX7 ∧ yX7_tell.cls ≠ "java/lang/invoke/MethodHandle" ∧ yX7_tell.cls ≠ "java/lang/invoke/VarHandle" ∧ (parseMethodDescriptor yX7_tell.desc).map (fun d => d.parameters.length) = some 1 := by decide +kernel
theorem yl_X8_tell : yX8_tell.cls = RX8 ∧ yX8_tell.cls ≠ "java/lang/invoke/MethodHandle" ∧ yX8_tell.cls ≠ "java/lang/invoke/VarHandle" ∧ (parseMethodDescriptor yX8_tell.desc).map (fun d => d.parameters.length) = some 1 := by decide +kernel
theorem yl_X7_name : yX7_name.cls = RX7 ∧ yX7_name.cls ≠ "java/lang/invoke/MethodHandle" ∧ yX7_name.cls ≠ "java/lang/invoke/VarHandle" ∧ (parseMethodDescriptor yX7_name.desc).map (fun d => d.parameters.length) = some 1 := by decide +kernel
theorem yl_X8_name : yX8_name.cls = RX8 ∧ yX8_name.cls ≠ "java/lang/invoke/MethodHandle" ∧ yX8_name.cls ≠ "java/lang/invoke/VarHandle" ∧ (parseMethodDescriptor yX8_name.desc).map (fun d => d.parameters.length) = some 1 := by decide +kernel
theorem yl_X7_as : yX7_as.cls = RX7 ∧ yX7_as.cls ≠ "java/lang/invoke/MethodHandle" ∧ yX7_as.cls ≠ "java/lang/invoke/VarHandle" ∧ (parseMethodDescriptor yX7_as.desc).map (fun d => d.parameters.length) = some 2 := by decide +kernel
theorem yl_X8_as : yX8_as.cls = RX8 ∧ yX8_as.cls ≠ "java/lang/invoke/MethodHandle" ∧ yX8_as.cls ≠ "java/lang/invoke/VarHandle" ∧ (parseMethodDescriptor yX8_as.desc).map (fun d => d.parameters.length) = some 2 := by decide +kernel
theorem yl_X7_trace : yX7_trace.cls = RX7 ∧ yX7_trace.cls ≠ "java/lang/invoke/MethodHandle" ∧ yX7_trace.cls ≠ "java/lang/invoke/VarHandle" ∧ (parseMethodDescriptor yX7_trace.desc).map (fun d => d.parameters.length) = some 0 := by decide +kernel
theorem yl_X8_trace : yX8_trace.cls = RX8 ∧ yX8_trace.cls ≠ "java/lang/invoke/MethodHandle" ∧ yX8_trace.cls ≠ "java/lang/invoke/VarHandle" ∧ (parseMethodDescriptor yX8_trace.desc).map (fun d => d.parameters.length) = some 0 := by decide +kernel
theorem yl_X7_fault : yX7_fault.cls = RX7 ∧ yX7_fault.cls ≠ "java/lang/invoke/MethodHandle" ∧ yX7_fault.cls ≠ "java/lang/invoke/VarHandle" ∧ (parseMethodDescriptor yX7_fault.desc).map (fun d => d.parameters.length) = some 0 := by decide +kernel
theorem yl_X8_fault : yX8_fault.cls = RX8 ∧ yX8_fault.cls ≠ "java/lang/invoke/MethodHandle" ∧ yX8_fault.cls ≠ "java/lang/invoke/VarHandle" ∧ (parseMethodDescriptor yX8_fault.desc).map (fun d => d.parameters.length) = some 0 := by decide +kernel
theorem yl_X7_many : yX7_many.cls = RX7 ∧ yX7_many.cls ≠ "java/lang/invoke/MethodHandle" ∧ yX7_many.cls ≠ "java/lang/invoke/VarHandle" ∧ (parseMethodDescriptor yX7_many.desc).map (fun d => d.parameters.length) = some 1 := by decide +kernel
theorem yl_X8_many : yX8_many.cls = RX8 ∧ yX8_many.cls ≠ "java/lang/invoke/MethodHandle" ∧ yX8_many.cls ≠ "java/lang/invoke/VarHandle" ∧ (parseMethodDescriptor yX8_many.desc).map (fun d => d.parameters.length) = some 1 := by decide +kernel
section LCS
variable {c : tv_c} {X : tv_X} {b L i : Nat} {xs : Nat → Int32} {s r w : ts_T}
set_option maxRecDepth 20000 in
theorem lc_0 (C : tv_C c 79 X cL_law RL wsL_law 4 room_1) (S : tl_S X b L xs) (hi : i + 7 ≤ L) (hI : iv s) (hN : ∀ s r w, iv s → tv_V c 79 X (tl_E c s r s w) 1497 (tl_lv c b i) []) : tv_V c 79 X (tl_E c s r s w) 180 (tl_lv c b i) [] := by
  refine tv_aload_n C dL_law_180 rfl 2 rfl ?_
  refine tl_arg C S 1 (by decide) (by omega) dL_law_181 dL_law_182 dL_law_183 dL_law_184 dL_law_185 ?_
  refine tl_arg C S 2 (by decide) (by omega) dL_law_186 dL_law_187 dL_law_188 dL_law_189 dL_law_190 ?_
  refine tl_arg C S 3 (by decide) (by omega) dL_law_191 dL_law_192 dL_law_193 dL_law_194 dL_law_195 ?_
  refine tl_arg C S 4 (by decide) (by omega) dL_law_196 dL_law_197 dL_law_198 dL_law_199 dL_law_200 ?_
  refine tl_Xi (As := [.int (xs (i + 1)), .int (xs (i + 2)), .int (xs (i + 3)), .int (xs (i + 4))]) (rest := []) C ((sp_wall s (xs (i + 1)) (xs (i + 2)) (xs (i + 3)) (xs (i + 4))).1) ((sp_wall s (xs (i + 1)) (xs (i + 2)) (xs (i + 3)) (xs (i + 4))).2) (kX7_wall c s r (xs (i + 1)) (xs (i + 2)) (xs (i + 3)) (xs (i + 4)) hI) (fun _ _ h => ⟨h.1, _, h.2⟩) gL_law_X7_wall rfl yl_X7_wall ⟨rfl, rfl⟩ (by decide +kernel) rfl rfl (Nat.le_of_ble_eq_true rfl) dL_law_201 (fun r => ?_)
  refine tv_aload_n C dL_law_204 rfl 1 rfl ?_
  refine tl_arg C S 1 (by decide) (by omega) dL_law_205 dL_law_206 dL_law_207 dL_law_208 dL_law_209 ?_
  refine tl_arg C S 2 (by decide) (by omega) dL_law_210 dL_law_211 dL_law_212 dL_law_213 dL_law_214 ?_
  refine tl_arg C S 3 (by decide) (by omega) dL_law_215 dL_law_216 dL_law_217 dL_law_218 dL_law_219 ?_
  refine tl_arg C S 4 (by decide) (by omega) dL_law_220 dL_law_221 dL_law_222 dL_law_223 dL_law_224 ?_
  refine tl_Mi (As := [.int (xs (i + 1)), .int (xs (i + 2)), .int (xs (i + 3)), .int (xs (i + 4))]) (rest := [.int ((sp_wall s (xs (i + 1)) (xs (i + 2)) (xs (i + 3)) (xs (i + 4))).1)]) C ((sp_wall s (xs (i + 1)) (xs (i + 2)) (xs (i + 3)) (xs (i + 4))).1) ((sp_wall s (xs (i + 1)) (xs (i + 2)) (xs (i + 3)) (xs (i + 4))).2) (kX8_wall (tl_m c) s w (xs (i + 1)) (xs (i + 2)) (xs (i + 3)) (xs (i + 4)) hI) (fun _ _ h => h) gL_law_X8_wall rfl yl_X8_wall ⟨rfl, rfl⟩ (by decide +kernel) rfl rfl (Nat.le_of_ble_eq_true rfl) dL_law_225 (fun w => ?_)
  exact tv_icmp_eq C 1497 dL_law_228 (by decide) (fun _ => hN _ r w (iv_wall hI)) (fun h => absurd rfl h)
set_option maxRecDepth 20000 in
theorem lc_1 (C : tv_C c 79 X cL_law RL wsL_law 4 room_1) (S : tl_S X b L xs) (hi : i + 7 ≤ L) (hI : iv s) (hN : ∀ s r w, iv s → tv_V c 79 X (tl_E c s r s w) 1497 (tl_lv c b i) []) : tv_V c 79 X (tl_E c s r s w) 233 (tl_lv c b i) [] := by
  refine tv_aload_n C dL_law_233 rfl 2 rfl ?_
  refine tl_arg C S 1 (by decide) (by omega) dL_law_234 dL_law_235 dL_law_236 dL_law_237 dL_law_238 ?_
  refine tl_arg C S 2 (by decide) (by omega) dL_law_239 dL_law_240 dL_law_241 dL_law_242 dL_law_243 ?_
  refine tl_Xi (As := [.int (xs (i + 1)), .int (xs (i + 2))]) (rest := []) C (sp_ofCell s (xs (i + 1)) (xs (i + 2))) s (kX7_ofCell c s r (xs (i + 1)) (xs (i + 2)) hI) (fun _ _ h => ⟨h.1, _, h.2⟩) gL_law_X7_ofCell rfl yl_X7_ofCell ⟨rfl, rfl⟩ (by decide +kernel) rfl rfl (Nat.le_of_ble_eq_true rfl) dL_law_244 (fun r => ?_)
  refine tv_aload_n C dL_law_247 rfl 1 rfl ?_
  refine tl_arg C S 1 (by decide) (by omega) dL_law_248 dL_law_249 dL_law_250 dL_law_251 dL_law_252 ?_
  refine tl_arg C S 2 (by decide) (by omega) dL_law_253 dL_law_254 dL_law_255 dL_law_256 dL_law_257 ?_
  refine tl_Mi (As := [.int (xs (i + 1)), .int (xs (i + 2))]) (rest := [.int (sp_ofCell s (xs (i + 1)) (xs (i + 2)))]) C (sp_ofCell s (xs (i + 1)) (xs (i + 2))) s (kX8_ofCell (tl_m c) s w (xs (i + 1)) (xs (i + 2)) hI) (fun _ _ h => ⟨h.1, _, h.2⟩) gL_law_X8_ofCell rfl yl_X8_ofCell ⟨rfl, rfl⟩ (by decide +kernel) rfl rfl (Nat.le_of_ble_eq_true rfl) dL_law_258 (fun w => ?_)
  exact tv_icmp_eq C 1497 dL_law_261 (by decide) (fun _ => hN _ r w hI) (fun h => absurd rfl h)
set_option maxRecDepth 20000 in
theorem lc_2 (C : tv_C c 79 X cL_law RL wsL_law 4 room_1) (S : tl_S X b L xs) (hi : i + 7 ≤ L) (hI : iv s) (hN : ∀ s r w, iv s → tv_V c 79 X (tl_E c s r s w) 1497 (tl_lv c b i) []) : tv_V c 79 X (tl_E c s r s w) 266 (tl_lv c b i) [] := by
  refine tv_aload_n C dL_law_266 rfl 2 rfl ?_
  refine tl_arg C S 1 (by decide) (by omega) dL_law_267 dL_law_268 dL_law_269 dL_law_270 dL_law_271 ?_
  refine tl_arg C S 2 (by decide) (by omega) dL_law_272 dL_law_273 dL_law_274 dL_law_275 dL_law_276 ?_
  refine tl_Xi (As := [.int (xs (i + 1)), .int (xs (i + 2))]) (rest := []) C ((sp_set s (xs (i + 1)) (xs (i + 2))).1) ((sp_set s (xs (i + 1)) (xs (i + 2))).2) (kX7_set c s r (xs (i + 1)) (xs (i + 2)) hI) (fun _ _ h => ⟨h.1, _, h.2⟩) gL_law_X7_set rfl yl_X7_set ⟨rfl, rfl⟩ (by decide +kernel) rfl rfl (Nat.le_of_ble_eq_true rfl) dL_law_277 (fun r => ?_)
  refine tv_aload_n C dL_law_280 rfl 1 rfl ?_
  refine tl_arg C S 1 (by decide) (by omega) dL_law_281 dL_law_282 dL_law_283 dL_law_284 dL_law_285 ?_
  refine tl_arg C S 2 (by decide) (by omega) dL_law_286 dL_law_287 dL_law_288 dL_law_289 dL_law_290 ?_
  refine tl_Mi (As := [.int (xs (i + 1)), .int (xs (i + 2))]) (rest := [.int ((sp_set s (xs (i + 1)) (xs (i + 2))).1)]) C ((sp_set s (xs (i + 1)) (xs (i + 2))).1) ((sp_set s (xs (i + 1)) (xs (i + 2))).2) (kX8_set (tl_m c) s w (xs (i + 1)) (xs (i + 2)) hI) (fun _ _ h => ⟨h.1, _, h.2⟩) gL_law_X8_set rfl yl_X8_set ⟨rfl, rfl⟩ (by decide +kernel) rfl rfl (Nat.le_of_ble_eq_true rfl) dL_law_291 (fun w => ?_)
  exact tv_icmp_eq C 1497 dL_law_294 (by decide) (fun _ => hN _ r w (iv_set hI)) (fun h => absurd rfl h)
set_option maxRecDepth 20000 in
theorem lc_3 (C : tv_C c 79 X cL_law RL wsL_law 4 room_1) (S : tl_S X b L xs) (hi : i + 7 ≤ L) (hI : iv s) (hN : ∀ s r w, iv s → tv_V c 79 X (tl_E c s r s w) 1497 (tl_lv c b i) []) : tv_V c 79 X (tl_E c s r s w) 299 (tl_lv c b i) [] := by
  refine tv_aload_n C dL_law_299 rfl 2 rfl ?_
  refine tl_arg C S 1 (by decide) (by omega) dL_law_300 dL_law_301 dL_law_302 dL_law_303 dL_law_304 ?_
  refine tl_Xi (As := [.int (xs (i + 1))]) (rest := []) C ((sp_years s (xs (i + 1))).1) ((sp_years s (xs (i + 1))).2) (kX7_years c s r (xs (i + 1)) hI) (fun _ _ h => ⟨h.1, _, h.2⟩) gL_law_X7_years rfl yl_X7_years ⟨rfl, rfl⟩ (by decide +kernel) rfl rfl (Nat.le_of_ble_eq_true rfl) dL_law_305 (fun r => ?_)
  refine tv_aload_n C dL_law_308 rfl 1 rfl ?_
  refine tl_arg C S 1 (by decide) (by omega) dL_law_309 dL_law_310 dL_law_311 dL_law_312 dL_law_313 ?_
  refine tl_Mi (As := [.int (xs (i + 1))]) (rest := [.int ((sp_years s (xs (i + 1))).1)]) C ((sp_years s (xs (i + 1))).1) ((sp_years s (xs (i + 1))).2) (kX8_years (tl_m c) s w (xs (i + 1)) hI) (fun _ _ h => ⟨h.1, _, h.2⟩) gL_law_X8_years rfl yl_X8_years ⟨rfl, rfl⟩ (by decide +kernel) rfl rfl (Nat.le_of_ble_eq_true rfl) dL_law_314 (fun w => ?_)
  exact tv_icmp_eq C 1497 dL_law_317 (by decide) (fun _ => hN _ r w (iv_years hI)) (fun h => absurd rfl h)
set_option maxRecDepth 20000 in
theorem lc_4 (C : tv_C c 79 X cL_law RL wsL_law 4 room_1) (S : tl_S X b L xs) (hi : i + 7 ≤ L) (hI : iv s) (hN : ∀ s r w, iv s → tv_V c 79 X (tl_E c s r s w) 1497 (tl_lv c b i) []) : tv_V c 79 X (tl_E c s r s w) 322 (tl_lv c b i) [] := by
  refine tv_aload_n C dL_law_322 rfl 2 rfl ?_
  refine tl_arg C S 1 (by decide) (by omega) dL_law_323 dL_law_324 dL_law_325 dL_law_326 dL_law_327 ?_
  refine tl_arg C S 2 (by decide) (by omega) dL_law_328 dL_law_329 dL_law_330 dL_law_331 dL_law_332 ?_
  refine tl_bool C dL_law_333 dL_law_336 dL_law_337 dL_law_340 ?_
  refine tl_Xi (As := [.int (xs (i + 1)), .int (tl_b (xs (i + 2)))]) (rest := []) C ((sp_hang s (xs (i + 1)) (tl_b (xs (i + 2)))).1) ((sp_hang s (xs (i + 1)) (tl_b (xs (i + 2)))).2) (kX7_hang c s r (xs (i + 1)) (tl_b (xs (i + 2))) hI (tl_b01 _)) (fun _ _ h => ⟨h.1, _, h.2⟩) gL_law_X7_hang rfl yl_X7_hang ⟨rfl, rfl⟩ (by decide +kernel) rfl rfl (Nat.le_of_ble_eq_true rfl) dL_law_341 (fun r => ?_)
  refine tv_aload_n C dL_law_344 rfl 1 rfl ?_
  refine tl_arg C S 1 (by decide) (by omega) dL_law_345 dL_law_346 dL_law_347 dL_law_348 dL_law_349 ?_
  refine tl_arg C S 2 (by decide) (by omega) dL_law_350 dL_law_351 dL_law_352 dL_law_353 dL_law_354 ?_
  refine tl_bool C dL_law_355 dL_law_358 dL_law_359 dL_law_362 ?_
  refine tl_Mi (As := [.int (xs (i + 1)), .int (tl_b (xs (i + 2)))]) (rest := [.int ((sp_hang s (xs (i + 1)) (tl_b (xs (i + 2)))).1)]) C ((sp_hang s (xs (i + 1)) (tl_b (xs (i + 2)))).1) ((sp_hang s (xs (i + 1)) (tl_b (xs (i + 2)))).2) (kX8_hang (tl_m c) s w (xs (i + 1)) (tl_b (xs (i + 2))) hI (tl_b01 _)) (fun _ _ h => ⟨h.1, _, h.2⟩) gL_law_X8_hang rfl yl_X8_hang ⟨rfl, rfl⟩ (by decide +kernel) rfl rfl (Nat.le_of_ble_eq_true rfl) dL_law_363 (fun w => ?_)
  exact tv_icmp_eq C 1497 dL_law_366 (by decide) (fun _ => hN _ r w (iv_hang (tl_b01 _) hI)) (fun h => absurd rfl h)
set_option maxRecDepth 20000 in
theorem lc_5 (C : tv_C c 79 X cL_law RL wsL_law 4 room_1) (S : tl_S X b L xs) (hi : i + 7 ≤ L) (hI : iv s) (hN : ∀ s r w, iv s → tv_V c 79 X (tl_E c s r s w) 1497 (tl_lv c b i) []) : tv_V c 79 X (tl_E c s r s w) 371 (tl_lv c b i) [] := by
  refine tv_aload_n C dL_law_371 rfl 2 rfl ?_
  refine tl_arg C S 1 (by decide) (by omega) dL_law_372 dL_law_373 dL_law_374 dL_law_375 dL_law_376 ?_
  refine tl_arg C S 2 (by decide) (by omega) dL_law_377 dL_law_378 dL_law_379 dL_law_380 dL_law_381 ?_
  refine tl_arg C S 3 (by decide) (by omega) dL_law_382 dL_law_383 dL_law_384 dL_law_385 dL_law_386 ?_
  refine tl_arg C S 4 (by decide) (by omega) dL_law_387 dL_law_388 dL_law_389 dL_law_390 dL_law_391 ?_
  refine tl_Xi (As := [.int (xs (i + 1)), .int (xs (i + 2)), .int (xs (i + 3)), .int (xs (i + 4))]) (rest := []) C ((sp_coat s (xs (i + 1)) (xs (i + 2)) (xs (i + 3)) (xs (i + 4))).1) ((sp_coat s (xs (i + 1)) (xs (i + 2)) (xs (i + 3)) (xs (i + 4))).2) (kX7_coat c s r (xs (i + 1)) (xs (i + 2)) (xs (i + 3)) (xs (i + 4)) hI) (fun _ _ h => ⟨h.1, _, h.2⟩) gL_law_X7_coat rfl yl_X7_coat ⟨rfl, rfl⟩ (by decide +kernel) rfl rfl (Nat.le_of_ble_eq_true rfl) dL_law_392 (fun r => ?_)
  refine tv_aload_n C dL_law_395 rfl 1 rfl ?_
  refine tl_arg C S 1 (by decide) (by omega) dL_law_396 dL_law_397 dL_law_398 dL_law_399 dL_law_400 ?_
  refine tl_arg C S 2 (by decide) (by omega) dL_law_401 dL_law_402 dL_law_403 dL_law_404 dL_law_405 ?_
  refine tl_arg C S 3 (by decide) (by omega) dL_law_406 dL_law_407 dL_law_408 dL_law_409 dL_law_410 ?_
  refine tl_arg C S 4 (by decide) (by omega) dL_law_411 dL_law_412 dL_law_413 dL_law_414 dL_law_415 ?_
  refine tl_Mi (As := [.int (xs (i + 1)), .int (xs (i + 2)), .int (xs (i + 3)), .int (xs (i + 4))]) (rest := [.int ((sp_coat s (xs (i + 1)) (xs (i + 2)) (xs (i + 3)) (xs (i + 4))).1)]) C ((sp_coat s (xs (i + 1)) (xs (i + 2)) (xs (i + 3)) (xs (i + 4))).1) ((sp_coat s (xs (i + 1)) (xs (i + 2)) (xs (i + 3)) (xs (i + 4))).2) (kX8_coat (tl_m c) s w (xs (i + 1)) (xs (i + 2)) (xs (i + 3)) (xs (i + 4)) hI) (fun _ _ h => ⟨h.1, _, h.2⟩) gL_law_X8_coat rfl yl_X8_coat ⟨rfl, rfl⟩ (by decide +kernel) rfl rfl (Nat.le_of_ble_eq_true rfl) dL_law_416 (fun w => ?_)
  exact tv_icmp_eq C 1497 dL_law_419 (by decide) (fun _ => hN _ r w (iv_coat hI)) (fun h => absurd rfl h)
set_option maxRecDepth 20000 in
theorem lc_6 (C : tv_C c 79 X cL_law RL wsL_law 4 room_1) (S : tl_S X b L xs) (hi : i + 7 ≤ L) (hI : iv s) (hN : ∀ s r w, iv s → tv_V c 79 X (tl_E c s r s w) 1497 (tl_lv c b i) []) : tv_V c 79 X (tl_E c s r s w) 424 (tl_lv c b i) [] := by
  refine tv_aload_n C dL_law_424 rfl 2 rfl ?_
  refine tl_arg C S 1 (by decide) (by omega) dL_law_425 dL_law_426 dL_law_427 dL_law_428 dL_law_429 ?_
  refine tl_arg C S 2 (by decide) (by omega) dL_law_430 dL_law_431 dL_law_432 dL_law_433 dL_law_434 ?_
  refine tl_Xi (As := [.int (xs (i + 1)), .int (xs (i + 2))]) (rest := []) C (sp_ofCoat s (xs (i + 1)) (xs (i + 2))) s (kX7_ofCoat c s r (xs (i + 1)) (xs (i + 2)) hI) (fun _ _ h => ⟨h.1, _, h.2⟩) gL_law_X7_ofCoat rfl yl_X7_ofCoat ⟨rfl, rfl⟩ (by decide +kernel) rfl rfl (Nat.le_of_ble_eq_true rfl) dL_law_435 (fun r => ?_)
  refine tv_aload_n C dL_law_438 rfl 1 rfl ?_
  refine tl_arg C S 1 (by decide) (by omega) dL_law_439 dL_law_440 dL_law_441 dL_law_442 dL_law_443 ?_
  refine tl_arg C S 2 (by decide) (by omega) dL_law_444 dL_law_445 dL_law_446 dL_law_447 dL_law_448 ?_
  refine tl_Mi (As := [.int (xs (i + 1)), .int (xs (i + 2))]) (rest := [.int (sp_ofCoat s (xs (i + 1)) (xs (i + 2)))]) C (sp_ofCoat s (xs (i + 1)) (xs (i + 2))) s (kX8_ofCoat (tl_m c) s w (xs (i + 1)) (xs (i + 2)) hI) (fun _ _ h => ⟨h.1, _, h.2⟩) gL_law_X8_ofCoat rfl yl_X8_ofCoat ⟨rfl, rfl⟩ (by decide +kernel) rfl rfl (Nat.le_of_ble_eq_true rfl) dL_law_449 (fun w => ?_)
  exact tv_icmp_eq C 1497 dL_law_452 (by decide) (fun _ => hN _ r w hI) (fun h => absurd rfl h)
set_option maxRecDepth 20000 in
theorem lc_7 (C : tv_C c 79 X cL_law RL wsL_law 4 room_1) (S : tl_S X b L xs) (hi : i + 7 ≤ L) (hI : iv s) (hN : ∀ s r w, iv s → tv_V c 79 X (tl_E c s r s w) 1497 (tl_lv c b i) []) : tv_V c 79 X (tl_E c s r s w) 457 (tl_lv c b i) [] := by
  refine tv_aload_n C dL_law_457 rfl 2 rfl ?_
  refine tl_arg C S 1 (by decide) (by omega) dL_law_458 dL_law_459 dL_law_460 dL_law_461 dL_law_462 ?_
  refine tl_arg C S 2 (by decide) (by omega) dL_law_463 dL_law_464 dL_law_465 dL_law_466 dL_law_467 ?_
  refine tl_Xi (As := [.int (xs (i + 1)), .int (xs (i + 2))]) (rest := []) C ((sp_paint s (xs (i + 1)) (xs (i + 2))).1) ((sp_paint s (xs (i + 1)) (xs (i + 2))).2) (kX7_paint c s r (xs (i + 1)) (xs (i + 2)) hI) (fun _ _ h => ⟨h.1, _, h.2⟩) gL_law_X7_paint rfl yl_X7_paint ⟨rfl, rfl⟩ (by decide +kernel) rfl rfl (Nat.le_of_ble_eq_true rfl) dL_law_468 (fun r => ?_)
  refine tv_aload_n C dL_law_471 rfl 1 rfl ?_
  refine tl_arg C S 1 (by decide) (by omega) dL_law_472 dL_law_473 dL_law_474 dL_law_475 dL_law_476 ?_
  refine tl_arg C S 2 (by decide) (by omega) dL_law_477 dL_law_478 dL_law_479 dL_law_480 dL_law_481 ?_
  refine tl_Mi (As := [.int (xs (i + 1)), .int (xs (i + 2))]) (rest := [.int ((sp_paint s (xs (i + 1)) (xs (i + 2))).1)]) C ((sp_paint s (xs (i + 1)) (xs (i + 2))).1) ((sp_paint s (xs (i + 1)) (xs (i + 2))).2) (kX8_paint (tl_m c) s w (xs (i + 1)) (xs (i + 2)) hI) (fun _ _ h => ⟨h.1, _, h.2⟩) gL_law_X8_paint rfl yl_X8_paint ⟨rfl, rfl⟩ (by decide +kernel) rfl rfl (Nat.le_of_ble_eq_true rfl) dL_law_482 (fun w => ?_)
  exact tv_icmp_eq C 1497 dL_law_485 (by decide) (fun _ => hN _ r w (iv_paint hI)) (fun h => absurd rfl h)
set_option maxRecDepth 20000 in
theorem lc_8 (C : tv_C c 79 X cL_law RL wsL_law 4 room_1) (S : tl_S X b L xs) (hi : i + 7 ≤ L) (hI : iv s) (hN : ∀ s r w, iv s → tv_V c 79 X (tl_E c s r s w) 1497 (tl_lv c b i) []) : tv_V c 79 X (tl_E c s r s w) 490 (tl_lv c b i) [] := by
  refine tv_aload_n C dL_law_490 rfl 2 rfl ?_
  refine tl_arg C S 1 (by decide) (by omega) dL_law_491 dL_law_492 dL_law_493 dL_law_494 dL_law_495 ?_
  refine tl_arg C S 2 (by decide) (by omega) dL_law_496 dL_law_497 dL_law_498 dL_law_499 dL_law_500 ?_
  refine tl_arg C S 3 (by decide) (by omega) dL_law_501 dL_law_502 dL_law_503 dL_law_504 dL_law_505 ?_
  refine tl_bool C dL_law_506 dL_law_509 dL_law_510 dL_law_513 ?_
  refine tl_Xi (As := [.int (xs (i + 1)), .int (xs (i + 2)), .int (tl_b (xs (i + 3)))]) (rest := []) C (sp_back s (xs (i + 1)) (xs (i + 2)) (tl_b (xs (i + 3)))) s (kX7_back c s r (xs (i + 1)) (xs (i + 2)) (tl_b (xs (i + 3))) hI) (fun _ _ h => ⟨h.1, _, h.2⟩) gL_law_X7_back rfl yl_X7_back ⟨rfl, rfl⟩ (by decide +kernel) rfl rfl (Nat.le_of_ble_eq_true rfl) dL_law_514 (fun r => ?_)
  refine tv_aload_n C dL_law_517 rfl 1 rfl ?_
  refine tl_arg C S 1 (by decide) (by omega) dL_law_518 dL_law_519 dL_law_520 dL_law_521 dL_law_522 ?_
  refine tl_arg C S 2 (by decide) (by omega) dL_law_523 dL_law_524 dL_law_525 dL_law_526 dL_law_527 ?_
  refine tl_arg C S 3 (by decide) (by omega) dL_law_528 dL_law_529 dL_law_530 dL_law_531 dL_law_532 ?_
  refine tl_bool C dL_law_533 dL_law_536 dL_law_537 dL_law_540 ?_
  refine tl_Mi (As := [.int (xs (i + 1)), .int (xs (i + 2)), .int (tl_b (xs (i + 3)))]) (rest := [.int (sp_back s (xs (i + 1)) (xs (i + 2)) (tl_b (xs (i + 3))))]) C (sp_back s (xs (i + 1)) (xs (i + 2)) (tl_b (xs (i + 3)))) s (kX8_back (tl_m c) s w (xs (i + 1)) (xs (i + 2)) (tl_b (xs (i + 3))) hI) (fun _ _ h => ⟨h.1, _, h.2⟩) gL_law_X8_back rfl yl_X8_back ⟨rfl, rfl⟩ (by decide +kernel) rfl rfl (Nat.le_of_ble_eq_true rfl) dL_law_541 (fun w => ?_)
  exact tv_icmp_eq C 1497 dL_law_544 (by decide) (fun _ => hN _ r w hI) (fun h => absurd rfl h)
set_option maxRecDepth 20000 in
theorem lc_9 (C : tv_C c 79 X cL_law RL wsL_law 4 room_1) (S : tl_S X b L xs) (hi : i + 7 ≤ L) (hI : iv s) (hN : ∀ s r w, iv s → tv_V c 79 X (tl_E c s r s w) 1497 (tl_lv c b i) []) : tv_V c 79 X (tl_E c s r s w) 549 (tl_lv c b i) [] := by
  refine tv_aload_n C dL_law_549 rfl 2 rfl ?_
  refine tl_arg C S 1 (by decide) (by omega) dL_law_550 dL_law_551 dL_law_552 dL_law_553 dL_law_554 ?_
  refine tl_arg C S 2 (by decide) (by omega) dL_law_555 dL_law_556 dL_law_557 dL_law_558 dL_law_559 ?_
  refine tl_arg C S 3 (by decide) (by omega) dL_law_560 dL_law_561 dL_law_562 dL_law_563 dL_law_564 ?_
  refine tl_Xi (As := [.int (xs (i + 1)), .int (xs (i + 2)), .int (xs (i + 3))]) (rest := []) C ((sp_light s (xs (i + 1)) (xs (i + 2)) (xs (i + 3))).1) ((sp_light s (xs (i + 1)) (xs (i + 2)) (xs (i + 3))).2) (kX7_light c s r (xs (i + 1)) (xs (i + 2)) (xs (i + 3)) hI) (fun _ _ h => ⟨h.1, _, h.2⟩) gL_law_X7_light rfl yl_X7_light ⟨rfl, rfl⟩ (by decide +kernel) rfl rfl (Nat.le_of_ble_eq_true rfl) dL_law_565 (fun r => ?_)
  refine tv_aload_n C dL_law_568 rfl 1 rfl ?_
  refine tl_arg C S 1 (by decide) (by omega) dL_law_569 dL_law_570 dL_law_571 dL_law_572 dL_law_573 ?_
  refine tl_arg C S 2 (by decide) (by omega) dL_law_574 dL_law_575 dL_law_576 dL_law_577 dL_law_578 ?_
  refine tl_arg C S 3 (by decide) (by omega) dL_law_579 dL_law_580 dL_law_581 dL_law_582 dL_law_583 ?_
  refine tl_Mi (As := [.int (xs (i + 1)), .int (xs (i + 2)), .int (xs (i + 3))]) (rest := [.int ((sp_light s (xs (i + 1)) (xs (i + 2)) (xs (i + 3))).1)]) C ((sp_light s (xs (i + 1)) (xs (i + 2)) (xs (i + 3))).1) ((sp_light s (xs (i + 1)) (xs (i + 2)) (xs (i + 3))).2) (kX8_light (tl_m c) s w (xs (i + 1)) (xs (i + 2)) (xs (i + 3)) hI) (fun _ _ h => ⟨h.1, _, h.2⟩) gL_law_X8_light rfl yl_X8_light ⟨rfl, rfl⟩ (by decide +kernel) rfl rfl (Nat.le_of_ble_eq_true rfl) dL_law_584 (fun w => ?_)
  exact tv_icmp_eq C 1497 dL_law_587 (by decide) (fun _ => hN _ r w (iv_light hI)) (fun h => absurd rfl h)
set_option maxRecDepth 20000 in
theorem lc_10 (C : tv_C c 79 X cL_law RL wsL_law 4 room_1) (S : tl_S X b L xs) (hi : i + 7 ≤ L) (hI : iv s) (hN : ∀ s r w, iv s → tv_V c 79 X (tl_E c s r s w) 1497 (tl_lv c b i) []) : tv_V c 79 X (tl_E c s r s w) 592 (tl_lv c b i) [] := by
  refine tv_aload_n C dL_law_592 rfl 2 rfl ?_
  refine tl_arg C S 1 (by decide) (by omega) dL_law_593 dL_law_594 dL_law_595 dL_law_596 dL_law_597 ?_
  refine tl_arg C S 2 (by decide) (by omega) dL_law_598 dL_law_599 dL_law_600 dL_law_601 dL_law_602 ?_
  refine tl_arg C S 3 (by decide) (by omega) dL_law_603 dL_law_604 dL_law_605 dL_law_606 dL_law_607 ?_
  refine tl_bool C dL_law_608 dL_law_611 dL_law_612 dL_law_615 ?_
  refine tl_Xi (As := [.int (xs (i + 1)), .int (xs (i + 2)), .int (tl_b (xs (i + 3)))]) (rest := []) C (sp_look s (xs (i + 1)) (xs (i + 2)) (tl_b (xs (i + 3)))) s (kX7_look c s r (xs (i + 1)) (xs (i + 2)) (tl_b (xs (i + 3))) hI) (fun _ _ h => ⟨h.1, _, h.2⟩) gL_law_X7_look rfl yl_X7_look ⟨rfl, rfl⟩ (by decide +kernel) rfl rfl (Nat.le_of_ble_eq_true rfl) dL_law_616 (fun r => ?_)
  refine tv_aload_n C dL_law_619 rfl 1 rfl ?_
  refine tl_arg C S 1 (by decide) (by omega) dL_law_620 dL_law_621 dL_law_622 dL_law_623 dL_law_624 ?_
  refine tl_arg C S 2 (by decide) (by omega) dL_law_625 dL_law_626 dL_law_627 dL_law_628 dL_law_629 ?_
  refine tl_arg C S 3 (by decide) (by omega) dL_law_630 dL_law_631 dL_law_632 dL_law_633 dL_law_634 ?_
  refine tl_bool C dL_law_635 dL_law_638 dL_law_639 dL_law_642 ?_
  refine tl_Mi (As := [.int (xs (i + 1)), .int (xs (i + 2)), .int (tl_b (xs (i + 3)))]) (rest := [.int (sp_look s (xs (i + 1)) (xs (i + 2)) (tl_b (xs (i + 3))))]) C (sp_look s (xs (i + 1)) (xs (i + 2)) (tl_b (xs (i + 3)))) s (kX8_look (tl_m c) s w (xs (i + 1)) (xs (i + 2)) (tl_b (xs (i + 3))) hI) (fun _ _ h => ⟨h.1, _, h.2⟩) gL_law_X8_look rfl yl_X8_look ⟨rfl, rfl⟩ (by decide +kernel) rfl rfl (Nat.le_of_ble_eq_true rfl) dL_law_643 (fun w => ?_)
  exact tv_icmp_eq C 1497 dL_law_646 (by decide) (fun _ => hN _ r w hI) (fun h => absurd rfl h)
set_option maxRecDepth 20000 in
theorem lc_11 (C : tv_C c 79 X cL_law RL wsL_law 4 room_1) (S : tl_S X b L xs) (hi : i + 7 ≤ L) (hI : iv s) (hN : ∀ s r w, iv s → tv_V c 79 X (tl_E c s r s w) 1497 (tl_lv c b i) []) : tv_V c 79 X (tl_E c s r s w) 651 (tl_lv c b i) [] := by
  refine tv_aload_n C dL_law_651 rfl 2 rfl ?_
  refine tl_arg C S 1 (by decide) (by omega) dL_law_652 dL_law_653 dL_law_654 dL_law_655 dL_law_656 ?_
  refine tl_arg C S 2 (by decide) (by omega) dL_law_657 dL_law_658 dL_law_659 dL_law_660 dL_law_661 ?_
  refine tl_arg C S 3 (by decide) (by omega) dL_law_662 dL_law_663 dL_law_664 dL_law_665 dL_law_666 ?_
  refine tl_arg C S 4 (by decide) (by omega) dL_law_667 dL_law_668 dL_law_669 dL_law_670 dL_law_671 ?_
  refine tl_bool C dL_law_672 dL_law_675 dL_law_676 dL_law_679 ?_
  refine tl_Xi (As := [.int (xs (i + 1)), .int (xs (i + 2)), .int (xs (i + 3)), .int (tl_b (xs (i + 4)))]) (rest := []) C (sp_unlike s (xs (i + 1)) (xs (i + 2)) (xs (i + 3)) (tl_b (xs (i + 4)))) s (kX7_unlike c s r (xs (i + 1)) (xs (i + 2)) (xs (i + 3)) (tl_b (xs (i + 4))) hI) (fun _ _ h => ⟨h.1, _, h.2⟩) gL_law_X7_unlike rfl yl_X7_unlike ⟨rfl, rfl⟩ (by decide +kernel) rfl rfl (Nat.le_of_ble_eq_true rfl) dL_law_680 (fun r => ?_)
  refine tv_aload_n C dL_law_683 rfl 1 rfl ?_
  refine tl_arg C S 1 (by decide) (by omega) dL_law_684 dL_law_685 dL_law_686 dL_law_687 dL_law_688 ?_
  refine tl_arg C S 2 (by decide) (by omega) dL_law_689 dL_law_690 dL_law_691 dL_law_692 dL_law_693 ?_
  refine tl_arg C S 3 (by decide) (by omega) dL_law_694 dL_law_695 dL_law_696 dL_law_697 dL_law_698 ?_
  refine tl_arg C S 4 (by decide) (by omega) dL_law_699 dL_law_700 dL_law_701 dL_law_702 dL_law_703 ?_
  refine tl_bool C dL_law_704 dL_law_707 dL_law_708 dL_law_711 ?_
  refine tl_Mi (As := [.int (xs (i + 1)), .int (xs (i + 2)), .int (xs (i + 3)), .int (tl_b (xs (i + 4)))]) (rest := [.int (sp_unlike s (xs (i + 1)) (xs (i + 2)) (xs (i + 3)) (tl_b (xs (i + 4))))]) C (sp_unlike s (xs (i + 1)) (xs (i + 2)) (xs (i + 3)) (tl_b (xs (i + 4)))) s (kX8_unlike (tl_m c) s w (xs (i + 1)) (xs (i + 2)) (xs (i + 3)) (tl_b (xs (i + 4))) hI) (fun _ _ h => ⟨h.1, _, h.2⟩) gL_law_X8_unlike rfl yl_X8_unlike ⟨rfl, rfl⟩ (by decide +kernel) rfl rfl (Nat.le_of_ble_eq_true rfl) dL_law_712 (fun w => ?_)
  exact tv_icmp_eq C 1497 dL_law_715 (by decide) (fun _ => hN _ r w hI) (fun h => absurd rfl h)
set_option maxRecDepth 20000 in
theorem lc_12 (C : tv_C c 79 X cL_law RL wsL_law 4 room_1) (S : tl_S X b L xs) (hi : i + 7 ≤ L) (hI : iv s) (hN : ∀ s r w, iv s → tv_V c 79 X (tl_E c s r s w) 1497 (tl_lv c b i) []) : tv_V c 79 X (tl_E c s r s w) 720 (tl_lv c b i) [] := by
  refine tv_aload_n C dL_law_720 rfl 2 rfl ?_
  refine tl_arg C S 1 (by decide) (by omega) dL_law_721 dL_law_722 dL_law_723 dL_law_724 dL_law_725 ?_
  refine tl_Xi (As := [.int (xs (i + 1))]) (rest := []) C (sp_seen s (xs (i + 1))) s (kX7_seen c s r (xs (i + 1)) hI) (fun _ _ h => h) gL_law_X7_seen rfl yl_X7_seen ⟨rfl, rfl⟩ (by decide +kernel) rfl rfl (Nat.le_of_ble_eq_true rfl) dL_law_726 (fun r => ?_)
  refine tv_aload_n C dL_law_729 rfl 1 rfl ?_
  refine tl_arg C S 1 (by decide) (by omega) dL_law_730 dL_law_731 dL_law_732 dL_law_733 dL_law_734 ?_
  refine tl_Mi (As := [.int (xs (i + 1))]) (rest := [.int (sp_seen s (xs (i + 1)))]) C (sp_seen s (xs (i + 1))) s (kX8_seen (tl_m c) s w (xs (i + 1)) hI) (fun _ _ h => ⟨h.1, _, h.2⟩) gL_law_X8_seen rfl yl_X8_seen ⟨rfl, rfl⟩ (by decide +kernel) rfl rfl (Nat.le_of_ble_eq_true rfl) dL_law_735 (fun w => ?_)
  exact tv_icmp_eq C 1497 dL_law_738 (by decide) (fun _ => hN _ r w hI) (fun h => absurd rfl h)
set_option maxRecDepth 20000 in
theorem lc_13 (C : tv_C c 79 X cL_law RL wsL_law 4 room_1) (S : tl_S X b L xs) (hi : i + 7 ≤ L) (hI : iv s) (hN : ∀ s r w, iv s → tv_V c 79 X (tl_E c s r s w) 1497 (tl_lv c b i) []) : tv_V c 79 X (tl_E c s r s w) 743 (tl_lv c b i) [] := by
  refine tv_aload_n C dL_law_743 rfl 2 rfl ?_
  refine tl_arg C S 1 (by decide) (by omega) dL_law_744 dL_law_745 dL_law_746 dL_law_747 dL_law_748 ?_
  refine tl_arg C S 2 (by decide) (by omega) dL_law_749 dL_law_750 dL_law_751 dL_law_752 dL_law_753 ?_
  refine tl_arg C S 3 (by decide) (by omega) dL_law_754 dL_law_755 dL_law_756 dL_law_757 dL_law_758 ?_
  refine tl_arg C S 4 (by decide) (by omega) dL_law_759 dL_law_760 dL_law_761 dL_law_762 dL_law_763 ?_
  refine tl_Xi (As := [.int (xs (i + 1)), .int (xs (i + 2)), .int (xs (i + 3)), .int (xs (i + 4))]) (rest := []) C ((sp_mix s (xs (i + 1)) (xs (i + 2)) (xs (i + 3)) (xs (i + 4))).1) ((sp_mix s (xs (i + 1)) (xs (i + 2)) (xs (i + 3)) (xs (i + 4))).2) (kX7_mix c s r (xs (i + 1)) (xs (i + 2)) (xs (i + 3)) (xs (i + 4)) hI) (fun _ _ h => h) gL_law_X7_mix rfl yl_X7_mix ⟨rfl, rfl⟩ (by decide +kernel) rfl rfl (Nat.le_of_ble_eq_true rfl) dL_law_764 (fun r => ?_)
  refine tv_aload_n C dL_law_767 rfl 1 rfl ?_
  refine tl_arg C S 1 (by decide) (by omega) dL_law_768 dL_law_769 dL_law_770 dL_law_771 dL_law_772 ?_
  refine tl_arg C S 2 (by decide) (by omega) dL_law_773 dL_law_774 dL_law_775 dL_law_776 dL_law_777 ?_
  refine tl_arg C S 3 (by decide) (by omega) dL_law_778 dL_law_779 dL_law_780 dL_law_781 dL_law_782 ?_
  refine tl_arg C S 4 (by decide) (by omega) dL_law_783 dL_law_784 dL_law_785 dL_law_786 dL_law_787 ?_
  refine tl_Mi (As := [.int (xs (i + 1)), .int (xs (i + 2)), .int (xs (i + 3)), .int (xs (i + 4))]) (rest := [.int ((sp_mix s (xs (i + 1)) (xs (i + 2)) (xs (i + 3)) (xs (i + 4))).1)]) C ((sp_mix s (xs (i + 1)) (xs (i + 2)) (xs (i + 3)) (xs (i + 4))).1) ((sp_mix s (xs (i + 1)) (xs (i + 2)) (xs (i + 3)) (xs (i + 4))).2) (kX8_mix (tl_m c) s w (xs (i + 1)) (xs (i + 2)) (xs (i + 3)) (xs (i + 4)) hI) (fun _ _ h => h) gL_law_X8_mix rfl yl_X8_mix ⟨rfl, rfl⟩ (by decide +kernel) rfl rfl (Nat.le_of_ble_eq_true rfl) dL_law_788 (fun w => ?_)
  exact tv_icmp_eq C 1497 dL_law_791 (by decide) (fun _ => hN _ r w (iv_mix hI)) (fun h => absurd rfl h)
set_option maxRecDepth 20000 in
theorem lc_14 (C : tv_C c 79 X cL_law RL wsL_law 4 room_1) (S : tl_S X b L xs) (hi : i + 7 ≤ L) (hI : iv s) (hN : ∀ s r w, iv s → tv_V c 79 X (tl_E c s r s w) 1497 (tl_lv c b i) []) : tv_V c 79 X (tl_E c s r s w) 796 (tl_lv c b i) [] := by
  refine tv_aload_n C dL_law_796 rfl 2 rfl ?_
  refine tl_arg C S 1 (by decide) (by omega) dL_law_797 dL_law_798 dL_law_799 dL_law_800 dL_law_801 ?_
  refine tl_arg C S 2 (by decide) (by omega) dL_law_802 dL_law_803 dL_law_804 dL_law_805 dL_law_806 ?_
  refine tl_Xi (As := [.int (xs (i + 1)), .int (xs (i + 2))]) (rest := []) C (sp_best s (xs (i + 1)) (xs (i + 2))) s (kX7_best c s r (xs (i + 1)) (xs (i + 2)) hI) (fun _ _ h => h) gL_law_X7_best rfl yl_X7_best ⟨rfl, rfl⟩ (by decide +kernel) rfl rfl (Nat.le_of_ble_eq_true rfl) dL_law_807 (fun r => ?_)
  refine tv_aload_n C dL_law_810 rfl 1 rfl ?_
  refine tl_arg C S 1 (by decide) (by omega) dL_law_811 dL_law_812 dL_law_813 dL_law_814 dL_law_815 ?_
  refine tl_arg C S 2 (by decide) (by omega) dL_law_816 dL_law_817 dL_law_818 dL_law_819 dL_law_820 ?_
  refine tl_Mi (As := [.int (xs (i + 1)), .int (xs (i + 2))]) (rest := [.int (sp_best s (xs (i + 1)) (xs (i + 2)))]) C (sp_best s (xs (i + 1)) (xs (i + 2))) s (kX8_best (tl_m c) s w (xs (i + 1)) (xs (i + 2)) hI) (fun _ _ h => h) gL_law_X8_best rfl yl_X8_best ⟨rfl, rfl⟩ (by decide +kernel) rfl rfl (Nat.le_of_ble_eq_true rfl) dL_law_821 (fun w => ?_)
  exact tv_icmp_eq C 1497 dL_law_824 (by decide) (fun _ => hN _ r w hI) (fun h => absurd rfl h)
set_option maxRecDepth 20000 in
theorem lc_15 (C : tv_C c 79 X cL_law RL wsL_law 4 room_1) (S : tl_S X b L xs) (hi : i + 7 ≤ L) (hI : iv s) (hN : ∀ s r w, iv s → tv_V c 79 X (tl_E c s r s w) 1497 (tl_lv c b i) []) : tv_V c 79 X (tl_E c s r s w) 829 (tl_lv c b i) [] := by
  refine tv_aload_n C dL_law_829 rfl 2 rfl ?_
  refine tl_arg C S 1 (by decide) (by omega) dL_law_830 dL_law_831 dL_law_832 dL_law_833 dL_law_834 ?_
  refine tl_arg C S 2 (by decide) (by omega) dL_law_835 dL_law_836 dL_law_837 dL_law_838 dL_law_839 ?_
  refine tl_arg C S 3 (by decide) (by omega) dL_law_840 dL_law_841 dL_law_842 dL_law_843 dL_law_844 ?_
  refine tl_Xi (As := [.int (xs (i + 1)), .int (xs (i + 2)), .int (xs (i + 3))]) (rest := []) C (sp_traitors s (xs (i + 1)) (xs (i + 2)) (xs (i + 3))) s (kX7_traitors c s r (xs (i + 1)) (xs (i + 2)) (xs (i + 3)) hI) (fun _ _ h => ⟨h.1, _, h.2⟩) gL_law_X7_traitors rfl yl_X7_traitors ⟨rfl, rfl⟩ (by decide +kernel) rfl rfl (Nat.le_of_ble_eq_true rfl) dL_law_845 (fun r => ?_)
  refine tv_aload_n C dL_law_848 rfl 1 rfl ?_
  refine tl_arg C S 1 (by decide) (by omega) dL_law_849 dL_law_850 dL_law_851 dL_law_852 dL_law_853 ?_
  refine tl_arg C S 2 (by decide) (by omega) dL_law_854 dL_law_855 dL_law_856 dL_law_857 dL_law_858 ?_
  refine tl_arg C S 3 (by decide) (by omega) dL_law_859 dL_law_860 dL_law_861 dL_law_862 dL_law_863 ?_
  refine tl_Mi (As := [.int (xs (i + 1)), .int (xs (i + 2)), .int (xs (i + 3))]) (rest := [.int (sp_traitors s (xs (i + 1)) (xs (i + 2)) (xs (i + 3)))]) C (sp_traitors s (xs (i + 1)) (xs (i + 2)) (xs (i + 3))) s (kX8_traitors (tl_m c) s w (xs (i + 1)) (xs (i + 2)) (xs (i + 3)) hI) (fun _ _ h => ⟨h.1, _, h.2⟩) gL_law_X8_traitors rfl yl_X8_traitors ⟨rfl, rfl⟩ (by decide +kernel) rfl rfl (Nat.le_of_ble_eq_true rfl) dL_law_864 (fun w => ?_)
  exact tv_icmp_eq C 1497 dL_law_867 (by decide) (fun _ => hN _ r w hI) (fun h => absurd rfl h)
set_option maxRecDepth 20000 in
theorem lc_16 (C : tv_C c 79 X cL_law RL wsL_law 4 room_1) (S : tl_S X b L xs) (hi : i + 7 ≤ L) (hI : iv s) (hN : ∀ s r w, iv s → tv_V c 79 X (tl_E c s r s w) 1497 (tl_lv c b i) []) : tv_V c 79 X (tl_E c s r s w) 872 (tl_lv c b i) [] := by
  refine tv_aload_n C dL_law_872 rfl 2 rfl ?_
  refine tl_arg C S 1 (by decide) (by omega) dL_law_873 dL_law_874 dL_law_875 dL_law_876 dL_law_877 ?_
  refine tl_arg C S 2 (by decide) (by omega) dL_law_878 dL_law_879 dL_law_880 dL_law_881 dL_law_882 ?_
  refine tl_arg C S 3 (by decide) (by omega) dL_law_883 dL_law_884 dL_law_885 dL_law_886 dL_law_887 ?_
  refine tl_Xi (As := [.int (xs (i + 1)), .int (xs (i + 2)), .int (xs (i + 3))]) (rest := []) C (sp_patch s (xs (i + 1)) (xs (i + 2)) (xs (i + 3))) s (kX7_patch c s r (xs (i + 1)) (xs (i + 2)) (xs (i + 3)) hI) (fun _ _ h => h) gL_law_X7_patch rfl yl_X7_patch ⟨rfl, rfl⟩ (by decide +kernel) rfl rfl (Nat.le_of_ble_eq_true rfl) dL_law_888 (fun r => ?_)
  refine tv_aload_n C dL_law_891 rfl 1 rfl ?_
  refine tl_arg C S 1 (by decide) (by omega) dL_law_892 dL_law_893 dL_law_894 dL_law_895 dL_law_896 ?_
  refine tl_arg C S 2 (by decide) (by omega) dL_law_897 dL_law_898 dL_law_899 dL_law_900 dL_law_901 ?_
  refine tl_arg C S 3 (by decide) (by omega) dL_law_902 dL_law_903 dL_law_904 dL_law_905 dL_law_906 ?_
  refine tl_Mi (As := [.int (xs (i + 1)), .int (xs (i + 2)), .int (xs (i + 3))]) (rest := [.int (sp_patch s (xs (i + 1)) (xs (i + 2)) (xs (i + 3)))]) C (sp_patch s (xs (i + 1)) (xs (i + 2)) (xs (i + 3))) s (kX8_patch (tl_m c) s w (xs (i + 1)) (xs (i + 2)) (xs (i + 3)) hI) (fun _ _ h => h) gL_law_X8_patch rfl yl_X8_patch ⟨rfl, rfl⟩ (by decide +kernel) rfl rfl (Nat.le_of_ble_eq_true rfl) dL_law_907 (fun w => ?_)
  exact tv_icmp_eq C 1497 dL_law_910 (by decide) (fun _ => hN _ r w hI) (fun h => absurd rfl h)
set_option maxRecDepth 20000 in
theorem lc_17 (C : tv_C c 79 X cL_law RL wsL_law 4 room_1) (S : tl_S X b L xs) (hi : i + 7 ≤ L) (hI : iv s) (hN : ∀ s r w, iv s → tv_V c 79 X (tl_E c s r s w) 1497 (tl_lv c b i) []) : tv_V c 79 X (tl_E c s r s w) 915 (tl_lv c b i) [] := by
  refine tv_aload_n C dL_law_915 rfl 2 rfl ?_
  refine tl_arg C S 1 (by decide) (by omega) dL_law_916 dL_law_917 dL_law_918 dL_law_919 dL_law_920 ?_
  refine tl_arg C S 2 (by decide) (by omega) dL_law_921 dL_law_922 dL_law_923 dL_law_924 dL_law_925 ?_
  refine tl_Xi (As := [.int (xs (i + 1)), .int (xs (i + 2))]) (rest := []) C (sp_leave s (xs (i + 1)) (xs (i + 2))) s (kX7_leave c s r (xs (i + 1)) (xs (i + 2)) hI) (fun _ _ h => h) gL_law_X7_leave rfl yl_X7_leave ⟨rfl, rfl⟩ (by decide +kernel) rfl rfl (Nat.le_of_ble_eq_true rfl) dL_law_926 (fun r => ?_)
  refine tv_aload_n C dL_law_929 rfl 1 rfl ?_
  refine tl_arg C S 1 (by decide) (by omega) dL_law_930 dL_law_931 dL_law_932 dL_law_933 dL_law_934 ?_
  refine tl_arg C S 2 (by decide) (by omega) dL_law_935 dL_law_936 dL_law_937 dL_law_938 dL_law_939 ?_
  refine tl_Mi (As := [.int (xs (i + 1)), .int (xs (i + 2))]) (rest := [.int (sp_leave s (xs (i + 1)) (xs (i + 2)))]) C (sp_leave s (xs (i + 1)) (xs (i + 2))) s (kX8_leave (tl_m c) s w (xs (i + 1)) (xs (i + 2)) hI) (fun _ _ h => ⟨h.1, _, h.2⟩) gL_law_X8_leave rfl yl_X8_leave ⟨rfl, rfl⟩ (by decide +kernel) rfl rfl (Nat.le_of_ble_eq_true rfl) dL_law_940 (fun w => ?_)
  exact tv_icmp_eq C 1497 dL_law_943 (by decide) (fun _ => hN _ r w hI) (fun h => absurd rfl h)
set_option maxRecDepth 20000 in
theorem lc_18 (C : tv_C c 79 X cL_law RL wsL_law 4 room_1) (S : tl_S X b L xs) (hi : i + 7 ≤ L) (hI : iv s) (hN : ∀ s r w, iv s → tv_V c 79 X (tl_E c s r s w) 1497 (tl_lv c b i) []) : tv_V c 79 X (tl_E c s r s w) 948 (tl_lv c b i) [] := by
  refine tv_aload_n C dL_law_948 rfl 2 rfl ?_
  refine tl_arg C S 1 (by decide) (by omega) dL_law_949 dL_law_950 dL_law_951 dL_law_952 dL_law_953 ?_
  refine tl_arg C S 2 (by decide) (by omega) dL_law_954 dL_law_955 dL_law_956 dL_law_957 dL_law_958 ?_
  refine tl_arg C S 3 (by decide) (by omega) dL_law_959 dL_law_960 dL_law_961 dL_law_962 dL_law_963 ?_
  refine tl_Xi (As := [.int (xs (i + 1)), .int (xs (i + 2)), .int (xs (i + 3))]) (rest := []) C (sp_on s (xs (i + 1)) (xs (i + 2)) (xs (i + 3))) s (kX7_on c s r (xs (i + 1)) (xs (i + 2)) (xs (i + 3)) hI) (fun _ _ h => ⟨h.1, _, h.2⟩) gL_law_X7_on rfl yl_X7_on ⟨rfl, rfl⟩ (by decide +kernel) rfl rfl (Nat.le_of_ble_eq_true rfl) dL_law_964 (fun r => ?_)
  refine tv_aload_n C dL_law_967 rfl 1 rfl ?_
  refine tl_arg C S 1 (by decide) (by omega) dL_law_968 dL_law_969 dL_law_970 dL_law_971 dL_law_972 ?_
  refine tl_arg C S 2 (by decide) (by omega) dL_law_973 dL_law_974 dL_law_975 dL_law_976 dL_law_977 ?_
  refine tl_arg C S 3 (by decide) (by omega) dL_law_978 dL_law_979 dL_law_980 dL_law_981 dL_law_982 ?_
  refine tl_Mi (As := [.int (xs (i + 1)), .int (xs (i + 2)), .int (xs (i + 3))]) (rest := [.int (sp_on s (xs (i + 1)) (xs (i + 2)) (xs (i + 3)))]) C (sp_on s (xs (i + 1)) (xs (i + 2)) (xs (i + 3))) s (kX8_on (tl_m c) s w (xs (i + 1)) (xs (i + 2)) (xs (i + 3)) hI) (fun _ _ h => ⟨h.1, _, h.2⟩) gL_law_X8_on rfl yl_X8_on ⟨rfl, rfl⟩ (by decide +kernel) rfl rfl (Nat.le_of_ble_eq_true rfl) dL_law_983 (fun w => ?_)
  exact tv_icmp_eq C 1497 dL_law_986 (by decide) (fun _ => hN _ r w hI) (fun h => absurd rfl h)
set_option maxRecDepth 20000 in
theorem lc_19 (C : tv_C c 79 X cL_law RL wsL_law 4 room_1) (S : tl_S X b L xs) (hi : i + 7 ≤ L) (hI : iv s) (hN : ∀ s r w, iv s → tv_V c 79 X (tl_E c s r s w) 1497 (tl_lv c b i) []) : tv_V c 79 X (tl_E c s r s w) 991 (tl_lv c b i) [] := by
  refine tv_aload_n C dL_law_991 rfl 2 rfl ?_
  refine tl_arg C S 1 (by decide) (by omega) dL_law_992 dL_law_993 dL_law_994 dL_law_995 dL_law_996 ?_
  refine tl_Xi (As := [.int (xs (i + 1))]) (rest := []) C (sp_hide s (xs (i + 1))) s (kX7_hide c s r (xs (i + 1)) hI) (fun _ _ h => h) gL_law_X7_hide rfl yl_X7_hide ⟨rfl, rfl⟩ (by decide +kernel) rfl rfl (Nat.le_of_ble_eq_true rfl) dL_law_997 (fun r => ?_)
  refine tv_aload_n C dL_law_1000 rfl 1 rfl ?_
  refine tl_arg C S 1 (by decide) (by omega) dL_law_1001 dL_law_1002 dL_law_1003 dL_law_1004 dL_law_1005 ?_
  refine tl_Mi (As := [.int (xs (i + 1))]) (rest := [.int (sp_hide s (xs (i + 1)))]) C (sp_hide s (xs (i + 1))) s (kX8_hide (tl_m c) s w (xs (i + 1)) hI) (fun _ _ h => ⟨h.1, _, h.2⟩) gL_law_X8_hide rfl yl_X8_hide ⟨rfl, rfl⟩ (by decide +kernel) rfl rfl (Nat.le_of_ble_eq_true rfl) dL_law_1006 (fun w => ?_)
  exact tv_icmp_eq C 1497 dL_law_1009 (by decide) (fun _ => hN _ r w hI) (fun h => absurd rfl h)
set_option maxRecDepth 20000 in
theorem lc_20 (C : tv_C c 79 X cL_law RL wsL_law 4 room_1) (S : tl_S X b L xs) (hi : i + 7 ≤ L) (hI : iv s) (hN : ∀ s r w, iv s → tv_V c 79 X (tl_E c s r s w) 1497 (tl_lv c b i) []) : tv_V c 79 X (tl_E c s r s w) 1014 (tl_lv c b i) [] := by
  refine tv_aload_n C dL_law_1014 rfl 2 rfl ?_
  refine tl_arg C S 1 (by decide) (by omega) dL_law_1015 dL_law_1016 dL_law_1017 dL_law_1018 dL_law_1019 ?_
  refine tl_arg C S 2 (by decide) (by omega) dL_law_1020 dL_law_1021 dL_law_1022 dL_law_1023 dL_law_1024 ?_
  refine tl_arg C S 3 (by decide) (by omega) dL_law_1025 dL_law_1026 dL_law_1027 dL_law_1028 dL_law_1029 ?_
  refine tl_arg C S 4 (by decide) (by omega) dL_law_1030 dL_law_1031 dL_law_1032 dL_law_1033 dL_law_1034 ?_
  refine tl_arg C S 5 (by decide) (by omega) dL_law_1035 dL_law_1036 dL_law_1037 dL_law_1038 dL_law_1039 ?_
  refine tl_arg6 C S 6 (by decide) (by omega) dL_law_1040 dL_law_1041 dL_law_1042 dL_law_1044 dL_law_1045 ?_
  refine tl_Xi (As := [.int (xs (i + 1)), .int (xs (i + 2)), .int (xs (i + 3)), .int (xs (i + 4)), .int (xs (i + 5)), .int (xs (i + 6))]) (rest := []) C ((sp_hung s (xs (i + 1)) (xs (i + 2)) (xs (i + 3)) (xs (i + 4)) (xs (i + 5)) (xs (i + 6))).1) ((sp_hung s (xs (i + 1)) (xs (i + 2)) (xs (i + 3)) (xs (i + 4)) (xs (i + 5)) (xs (i + 6))).2) (kX7_hung c s r (xs (i + 1)) (xs (i + 2)) (xs (i + 3)) (xs (i + 4)) (xs (i + 5)) (xs (i + 6)) hI) (fun _ _ h => ⟨h.1, _, h.2⟩) gL_law_X7_hung rfl yl_X7_hung ⟨rfl, rfl⟩ (by decide +kernel) rfl rfl (Nat.le_of_ble_eq_true rfl) dL_law_1046 (fun r => ?_)
  refine tv_aload_n C dL_law_1049 rfl 1 rfl ?_
  refine tl_arg C S 1 (by decide) (by omega) dL_law_1050 dL_law_1051 dL_law_1052 dL_law_1053 dL_law_1054 ?_
  refine tl_arg C S 2 (by decide) (by omega) dL_law_1055 dL_law_1056 dL_law_1057 dL_law_1058 dL_law_1059 ?_
  refine tl_arg C S 3 (by decide) (by omega) dL_law_1060 dL_law_1061 dL_law_1062 dL_law_1063 dL_law_1064 ?_
  refine tl_arg C S 4 (by decide) (by omega) dL_law_1065 dL_law_1066 dL_law_1067 dL_law_1068 dL_law_1069 ?_
  refine tl_arg C S 5 (by decide) (by omega) dL_law_1070 dL_law_1071 dL_law_1072 dL_law_1073 dL_law_1074 ?_
  refine tl_arg6 C S 6 (by decide) (by omega) dL_law_1075 dL_law_1076 dL_law_1077 dL_law_1079 dL_law_1080 ?_
  refine tl_Mi (As := [.int (xs (i + 1)), .int (xs (i + 2)), .int (xs (i + 3)), .int (xs (i + 4)), .int (xs (i + 5)), .int (xs (i + 6))]) (rest := [.int ((sp_hung s (xs (i + 1)) (xs (i + 2)) (xs (i + 3)) (xs (i + 4)) (xs (i + 5)) (xs (i + 6))).1)]) C ((sp_hung s (xs (i + 1)) (xs (i + 2)) (xs (i + 3)) (xs (i + 4)) (xs (i + 5)) (xs (i + 6))).1) ((sp_hung s (xs (i + 1)) (xs (i + 2)) (xs (i + 3)) (xs (i + 4)) (xs (i + 5)) (xs (i + 6))).2) (kX8_hung (tl_m c) s w (xs (i + 1)) (xs (i + 2)) (xs (i + 3)) (xs (i + 4)) (xs (i + 5)) (xs (i + 6)) hI) (fun _ _ h => ⟨h.1, _, h.2⟩) gL_law_X8_hung rfl yl_X8_hung ⟨rfl, rfl⟩ (by decide +kernel) rfl rfl (Nat.le_of_ble_eq_true rfl) dL_law_1081 (fun w => ?_)
  exact tv_icmp_eq C 1497 dL_law_1084 (by decide) (fun _ => hN _ r w (iv_hung hI)) (fun h => absurd rfl h)
set_option maxRecDepth 20000 in
theorem lc_21 (C : tv_C c 79 X cL_law RL wsL_law 4 room_1) (S : tl_S X b L xs) (hi : i + 7 ≤ L) (hI : iv s) (hN : ∀ s r w, iv s → tv_V c 79 X (tl_E c s r s w) 1497 (tl_lv c b i) []) : tv_V c 79 X (tl_E c s r s w) 1089 (tl_lv c b i) [] := by
  refine tv_aload_n C dL_law_1089 rfl 2 rfl ?_
  refine tl_arg C S 1 (by decide) (by omega) dL_law_1090 dL_law_1091 dL_law_1092 dL_law_1093 dL_law_1094 ?_
  refine tl_arg C S 2 (by decide) (by omega) dL_law_1095 dL_law_1096 dL_law_1097 dL_law_1098 dL_law_1099 ?_
  refine tl_arg C S 3 (by decide) (by omega) dL_law_1100 dL_law_1101 dL_law_1102 dL_law_1103 dL_law_1104 ?_
  refine tl_arg C S 4 (by decide) (by omega) dL_law_1105 dL_law_1106 dL_law_1107 dL_law_1108 dL_law_1109 ?_
  refine tl_arg C S 5 (by decide) (by omega) dL_law_1110 dL_law_1111 dL_law_1112 dL_law_1113 dL_law_1114 ?_
  refine tl_Xl (As := [.int (xs (i + 1)), .int (xs (i + 2)), .int (xs (i + 3)), .int (xs (i + 4)), .int (xs (i + 5))]) (rest := []) C ((sp_old s (xs (i + 1)) (xs (i + 2)) (xs (i + 3)) (xs (i + 4)) (xs (i + 5))).1) ((sp_old s (xs (i + 1)) (xs (i + 2)) (xs (i + 3)) (xs (i + 4)) (xs (i + 5))).2) (kX7_old c s r (xs (i + 1)) (xs (i + 2)) (xs (i + 3)) (xs (i + 4)) (xs (i + 5)) hI) (fun _ _ h => ⟨h.1, _, h.2⟩) gL_law_X7_old rfl yl_X7_old ⟨rfl, rfl⟩ (by decide +kernel) rfl rfl (Nat.le_of_ble_eq_true rfl) dL_law_1115 (fun r => ?_)
  refine tv_aload_n C dL_law_1118 rfl 1 rfl ?_
  refine tl_arg C S 1 (by decide) (by omega) dL_law_1119 dL_law_1120 dL_law_1121 dL_law_1122 dL_law_1123 ?_
  refine tl_arg C S 2 (by decide) (by omega) dL_law_1124 dL_law_1125 dL_law_1126 dL_law_1127 dL_law_1128 ?_
  refine tl_arg C S 3 (by decide) (by omega) dL_law_1129 dL_law_1130 dL_law_1131 dL_law_1132 dL_law_1133 ?_
  refine tl_arg C S 4 (by decide) (by omega) dL_law_1134 dL_law_1135 dL_law_1136 dL_law_1137 dL_law_1138 ?_
  refine tl_arg C S 5 (by decide) (by omega) dL_law_1139 dL_law_1140 dL_law_1141 dL_law_1142 dL_law_1143 ?_
  refine tl_Ml (As := [.int (xs (i + 1)), .int (xs (i + 2)), .int (xs (i + 3)), .int (xs (i + 4)), .int (xs (i + 5))]) (rest := [.long ((sp_old s (xs (i + 1)) (xs (i + 2)) (xs (i + 3)) (xs (i + 4)) (xs (i + 5))).1)]) C ((sp_old s (xs (i + 1)) (xs (i + 2)) (xs (i + 3)) (xs (i + 4)) (xs (i + 5))).1) ((sp_old s (xs (i + 1)) (xs (i + 2)) (xs (i + 3)) (xs (i + 4)) (xs (i + 5))).2) (kX8_old (tl_m c) s w (xs (i + 1)) (xs (i + 2)) (xs (i + 3)) (xs (i + 4)) (xs (i + 5)) hI) (fun _ _ h => ⟨h.1, _, h.2⟩) gL_law_X8_old rfl yl_X8_old ⟨rfl, rfl⟩ (by decide +kernel) rfl rfl (Nat.le_of_ble_eq_true rfl) dL_law_1144 (fun w => ?_)
  refine tl_lcmp C dL_law_1147 ?_
  exact tv_if_eq C 1497 dL_law_1148 (by decide) (fun _ => hN _ r w (iv_old hI)) (fun h => absurd (tl_cmp _) h)
set_option maxRecDepth 20000 in
theorem lc_22 (C : tv_C c 79 X cL_law RL wsL_law 4 room_1) (S : tl_S X b L xs) (hi : i + 7 ≤ L) (hI : iv s) (hN : ∀ s r w, iv s → tv_V c 79 X (tl_E c s r s w) 1497 (tl_lv c b i) []) : tv_V c 79 X (tl_E c s r s w) 1153 (tl_lv c b i) [] := by
  refine tv_aload_n C dL_law_1153 rfl 2 rfl ?_
  refine tl_arg C S 1 (by decide) (by omega) dL_law_1154 dL_law_1155 dL_law_1156 dL_law_1157 dL_law_1158 ?_
  refine tl_arg C S 2 (by decide) (by omega) dL_law_1159 dL_law_1160 dL_law_1161 dL_law_1162 dL_law_1163 ?_
  refine tl_arg C S 3 (by decide) (by omega) dL_law_1164 dL_law_1165 dL_law_1166 dL_law_1167 dL_law_1168 ?_
  refine tl_Xi (As := [.int (xs (i + 1)), .int (xs (i + 2)), .int (xs (i + 3))]) (rest := []) C ((sp_sheet s (xs (i + 1)) (xs (i + 2)) (xs (i + 3))).1) ((sp_sheet s (xs (i + 1)) (xs (i + 2)) (xs (i + 3))).2) (kX7_sheet c s r (xs (i + 1)) (xs (i + 2)) (xs (i + 3)) hI) (fun _ _ h => ⟨h.1, _, h.2⟩) gL_law_X7_sheet rfl yl_X7_sheet ⟨rfl, rfl⟩ (by decide +kernel) rfl rfl (Nat.le_of_ble_eq_true rfl) dL_law_1169 (fun r => ?_)
  refine tv_aload_n C dL_law_1172 rfl 1 rfl ?_
  refine tl_arg C S 1 (by decide) (by omega) dL_law_1173 dL_law_1174 dL_law_1175 dL_law_1176 dL_law_1177 ?_
  refine tl_arg C S 2 (by decide) (by omega) dL_law_1178 dL_law_1179 dL_law_1180 dL_law_1181 dL_law_1182 ?_
  refine tl_arg C S 3 (by decide) (by omega) dL_law_1183 dL_law_1184 dL_law_1185 dL_law_1186 dL_law_1187 ?_
  refine tl_Mi (As := [.int (xs (i + 1)), .int (xs (i + 2)), .int (xs (i + 3))]) (rest := [.int ((sp_sheet s (xs (i + 1)) (xs (i + 2)) (xs (i + 3))).1)]) C ((sp_sheet s (xs (i + 1)) (xs (i + 2)) (xs (i + 3))).1) ((sp_sheet s (xs (i + 1)) (xs (i + 2)) (xs (i + 3))).2) (kX8_sheet (tl_m c) s w (xs (i + 1)) (xs (i + 2)) (xs (i + 3)) hI) (fun _ _ h => ⟨h.1, _, h.2⟩) gL_law_X8_sheet rfl yl_X8_sheet ⟨rfl, rfl⟩ (by decide +kernel) rfl rfl (Nat.le_of_ble_eq_true rfl) dL_law_1188 (fun w => ?_)
  exact tv_icmp_eq C 1497 dL_law_1191 (by decide) (fun _ => hN _ r w (iv_sheet hI)) (fun h => absurd rfl h)
set_option maxRecDepth 20000 in
theorem lc_23 (C : tv_C c 79 X cL_law RL wsL_law 4 room_1) (S : tl_S X b L xs) (hi : i + 7 ≤ L) (hI : iv s) (hN : ∀ s r w, iv s → tv_V c 79 X (tl_E c s r s w) 1497 (tl_lv c b i) []) : tv_V c 79 X (tl_E c s r s w) 1196 (tl_lv c b i) [] := by
  refine tv_aload_n C dL_law_1196 rfl 2 rfl ?_
  refine tl_arg C S 1 (by decide) (by omega) dL_law_1197 dL_law_1198 dL_law_1199 dL_law_1200 dL_law_1201 ?_
  refine tl_Xi (As := [.int (xs (i + 1))]) (rest := []) C ((sp_lose s (xs (i + 1))).1) ((sp_lose s (xs (i + 1))).2) (kX7_lose c s r (xs (i + 1)) hI) (fun _ _ h => ⟨h.1, _, h.2⟩) gL_law_X7_lose rfl yl_X7_lose ⟨rfl, rfl⟩ (by decide +kernel) rfl rfl (Nat.le_of_ble_eq_true rfl) dL_law_1202 (fun r => ?_)
  refine tv_aload_n C dL_law_1205 rfl 1 rfl ?_
  refine tl_arg C S 1 (by decide) (by omega) dL_law_1206 dL_law_1207 dL_law_1208 dL_law_1209 dL_law_1210 ?_
  refine tl_Mi (As := [.int (xs (i + 1))]) (rest := [.int ((sp_lose s (xs (i + 1))).1)]) C ((sp_lose s (xs (i + 1))).1) ((sp_lose s (xs (i + 1))).2) (kX8_lose (tl_m c) s w (xs (i + 1)) hI) (fun _ _ h => ⟨h.1, _, h.2⟩) gL_law_X8_lose rfl yl_X8_lose ⟨rfl, rfl⟩ (by decide +kernel) rfl rfl (Nat.le_of_ble_eq_true rfl) dL_law_1211 (fun w => ?_)
  exact tv_icmp_eq C 1497 dL_law_1214 (by decide) (fun _ => hN _ r w (iv_lose hI)) (fun h => absurd rfl h)
set_option maxRecDepth 20000 in
theorem lc_24 (C : tv_C c 79 X cL_law RL wsL_law 4 room_1) (S : tl_S X b L xs) (hi : i + 7 ≤ L) (hI : iv s) (hN : ∀ s r w, iv s → tv_V c 79 X (tl_E c s r s w) 1497 (tl_lv c b i) []) : tv_V c 79 X (tl_E c s r s w) 1219 (tl_lv c b i) [] := by
  refine tv_aload_n C dL_law_1219 rfl 2 rfl ?_
  refine tl_arg C S 1 (by decide) (by omega) dL_law_1220 dL_law_1221 dL_law_1222 dL_law_1223 dL_law_1224 ?_
  refine tl_arg C S 2 (by decide) (by omega) dL_law_1225 dL_law_1226 dL_law_1227 dL_law_1228 dL_law_1229 ?_
  refine tl_arg C S 3 (by decide) (by omega) dL_law_1230 dL_law_1231 dL_law_1232 dL_law_1233 dL_law_1234 ?_
  refine tl_Xi (As := [.int (xs (i + 1)), .int (xs (i + 2)), .int (xs (i + 3))]) (rest := []) C ((sp_put s (xs (i + 1)) (xs (i + 2)) (xs (i + 3))).1) ((sp_put s (xs (i + 1)) (xs (i + 2)) (xs (i + 3))).2) (kX7_put c s r (xs (i + 1)) (xs (i + 2)) (xs (i + 3)) hI) (fun _ _ h => ⟨h.1, _, h.2⟩) gL_law_X7_put rfl yl_X7_put ⟨rfl, rfl⟩ (by decide +kernel) rfl rfl (Nat.le_of_ble_eq_true rfl) dL_law_1235 (fun r => ?_)
  refine tv_aload_n C dL_law_1238 rfl 1 rfl ?_
  refine tl_arg C S 1 (by decide) (by omega) dL_law_1239 dL_law_1240 dL_law_1241 dL_law_1242 dL_law_1243 ?_
  refine tl_arg C S 2 (by decide) (by omega) dL_law_1244 dL_law_1245 dL_law_1246 dL_law_1247 dL_law_1248 ?_
  refine tl_arg C S 3 (by decide) (by omega) dL_law_1249 dL_law_1250 dL_law_1251 dL_law_1252 dL_law_1253 ?_
  refine tl_Mi (As := [.int (xs (i + 1)), .int (xs (i + 2)), .int (xs (i + 3))]) (rest := [.int ((sp_put s (xs (i + 1)) (xs (i + 2)) (xs (i + 3))).1)]) C ((sp_put s (xs (i + 1)) (xs (i + 2)) (xs (i + 3))).1) ((sp_put s (xs (i + 1)) (xs (i + 2)) (xs (i + 3))).2) (kX8_put (tl_m c) s w (xs (i + 1)) (xs (i + 2)) (xs (i + 3)) hI) (fun _ _ h => ⟨h.1, _, h.2⟩) gL_law_X8_put rfl yl_X8_put ⟨rfl, rfl⟩ (by decide +kernel) rfl rfl (Nat.le_of_ble_eq_true rfl) dL_law_1254 (fun w => ?_)
  exact tv_icmp_eq C 1497 dL_law_1257 (by decide) (fun _ => hN _ r w (iv_put hI)) (fun h => absurd rfl h)
set_option maxRecDepth 20000 in
theorem lc_25 (C : tv_C c 79 X cL_law RL wsL_law 4 room_1) (S : tl_S X b L xs) (hi : i + 7 ≤ L) (hI : iv s) (hN : ∀ s r w, iv s → tv_V c 79 X (tl_E c s r s w) 1497 (tl_lv c b i) []) : tv_V c 79 X (tl_E c s r s w) 1262 (tl_lv c b i) [] := by
  refine tv_aload_n C dL_law_1262 rfl 2 rfl ?_
  refine tl_arg C S 1 (by decide) (by omega) dL_law_1263 dL_law_1264 dL_law_1265 dL_law_1266 dL_law_1267 ?_
  refine tl_arg C S 2 (by decide) (by omega) dL_law_1268 dL_law_1269 dL_law_1270 dL_law_1271 dL_law_1272 ?_
  refine tl_arg C S 3 (by decide) (by omega) dL_law_1273 dL_law_1274 dL_law_1275 dL_law_1276 dL_law_1277 ?_
  refine tl_Xl (As := [.int (xs (i + 1)), .int (xs (i + 2)), .int (xs (i + 3))]) (rest := []) C ((sp_cell s (xs (i + 1)) (xs (i + 2)) (xs (i + 3))).1) ((sp_cell s (xs (i + 1)) (xs (i + 2)) (xs (i + 3))).2) (kX7_cell c s r (xs (i + 1)) (xs (i + 2)) (xs (i + 3)) hI) (fun _ _ h => ⟨h.1, _, h.2⟩) gL_law_X7_cell rfl yl_X7_cell ⟨rfl, rfl⟩ (by decide +kernel) rfl rfl (Nat.le_of_ble_eq_true rfl) dL_law_1278 (fun r => ?_)
  refine tv_aload_n C dL_law_1281 rfl 1 rfl ?_
  refine tl_arg C S 1 (by decide) (by omega) dL_law_1282 dL_law_1283 dL_law_1284 dL_law_1285 dL_law_1286 ?_
  refine tl_arg C S 2 (by decide) (by omega) dL_law_1287 dL_law_1288 dL_law_1289 dL_law_1290 dL_law_1291 ?_
  refine tl_arg C S 3 (by decide) (by omega) dL_law_1292 dL_law_1293 dL_law_1294 dL_law_1295 dL_law_1296 ?_
  refine tl_Ml (As := [.int (xs (i + 1)), .int (xs (i + 2)), .int (xs (i + 3))]) (rest := [.long ((sp_cell s (xs (i + 1)) (xs (i + 2)) (xs (i + 3))).1)]) C ((sp_cell s (xs (i + 1)) (xs (i + 2)) (xs (i + 3))).1) ((sp_cell s (xs (i + 1)) (xs (i + 2)) (xs (i + 3))).2) (kX8_cell (tl_m c) s w (xs (i + 1)) (xs (i + 2)) (xs (i + 3)) hI) (fun _ _ h => ⟨h.1, _, h.2⟩) gL_law_X8_cell rfl yl_X8_cell ⟨rfl, rfl⟩ (by decide +kernel) rfl rfl (Nat.le_of_ble_eq_true rfl) dL_law_1297 (fun w => ?_)
  refine tl_lcmp C dL_law_1300 ?_
  exact tv_if_eq C 1497 dL_law_1301 (by decide) (fun _ => hN _ r w (iv_cell hI)) (fun h => absurd (tl_cmp _) h)
set_option maxRecDepth 20000 in
theorem lc_26 (C : tv_C c 79 X cL_law RL wsL_law 4 room_1) (S : tl_S X b L xs) (hi : i + 7 ≤ L) (hI : iv s) (hN : ∀ s r w, iv s → tv_V c 79 X (tl_E c s r s w) 1497 (tl_lv c b i) []) : tv_V c 79 X (tl_E c s r s w) 1306 (tl_lv c b i) [] := by
  refine tv_aload_n C dL_law_1306 rfl 2 rfl ?_
  refine tl_arg C S 1 (by decide) (by omega) dL_law_1307 dL_law_1308 dL_law_1309 dL_law_1310 dL_law_1311 ?_
  refine tl_arg C S 2 (by decide) (by omega) dL_law_1312 dL_law_1313 dL_law_1314 dL_law_1315 dL_law_1316 ?_
  refine tl_arg C S 3 (by decide) (by omega) dL_law_1317 dL_law_1318 dL_law_1319 dL_law_1320 dL_law_1321 ?_
  refine tl_arg C S 4 (by decide) (by omega) dL_law_1322 dL_law_1323 dL_law_1324 dL_law_1325 dL_law_1326 ?_
  refine tl_arg C S 5 (by decide) (by omega) dL_law_1327 dL_law_1328 dL_law_1329 dL_law_1330 dL_law_1331 ?_
  refine tl_Xi (As := [.int (xs (i + 1)), .int (xs (i + 2)), .int (xs (i + 3)), .int (xs (i + 4)), .int (xs (i + 5))]) (rest := []) C ((sp_copy s (xs (i + 1)) (xs (i + 2)) (xs (i + 3)) (xs (i + 4)) (xs (i + 5))).1) ((sp_copy s (xs (i + 1)) (xs (i + 2)) (xs (i + 3)) (xs (i + 4)) (xs (i + 5))).2) (kX7_copy c s r (xs (i + 1)) (xs (i + 2)) (xs (i + 3)) (xs (i + 4)) (xs (i + 5)) hI) (fun _ _ h => ⟨h.1, _, h.2⟩) gL_law_X7_copy rfl yl_X7_copy ⟨rfl, rfl⟩ (by decide +kernel) rfl rfl (Nat.le_of_ble_eq_true rfl) dL_law_1332 (fun r => ?_)
  refine tv_aload_n C dL_law_1335 rfl 1 rfl ?_
  refine tl_arg C S 1 (by decide) (by omega) dL_law_1336 dL_law_1337 dL_law_1338 dL_law_1339 dL_law_1340 ?_
  refine tl_arg C S 2 (by decide) (by omega) dL_law_1341 dL_law_1342 dL_law_1343 dL_law_1344 dL_law_1345 ?_
  refine tl_arg C S 3 (by decide) (by omega) dL_law_1346 dL_law_1347 dL_law_1348 dL_law_1349 dL_law_1350 ?_
  refine tl_arg C S 4 (by decide) (by omega) dL_law_1351 dL_law_1352 dL_law_1353 dL_law_1354 dL_law_1355 ?_
  refine tl_arg C S 5 (by decide) (by omega) dL_law_1356 dL_law_1357 dL_law_1358 dL_law_1359 dL_law_1360 ?_
  refine tl_Mi (As := [.int (xs (i + 1)), .int (xs (i + 2)), .int (xs (i + 3)), .int (xs (i + 4)), .int (xs (i + 5))]) (rest := [.int ((sp_copy s (xs (i + 1)) (xs (i + 2)) (xs (i + 3)) (xs (i + 4)) (xs (i + 5))).1)]) C ((sp_copy s (xs (i + 1)) (xs (i + 2)) (xs (i + 3)) (xs (i + 4)) (xs (i + 5))).1) ((sp_copy s (xs (i + 1)) (xs (i + 2)) (xs (i + 3)) (xs (i + 4)) (xs (i + 5))).2) (kX8_copy (tl_m c) s w (xs (i + 1)) (xs (i + 2)) (xs (i + 3)) (xs (i + 4)) (xs (i + 5)) hI) (fun _ _ h => ⟨h.1, _, h.2⟩) gL_law_X8_copy rfl yl_X8_copy ⟨rfl, rfl⟩ (by decide +kernel) rfl rfl (Nat.le_of_ble_eq_true rfl) dL_law_1361 (fun w => ?_)
  exact tv_icmp_eq C 1497 dL_law_1364 (by decide) (fun _ => hN _ r w (iv_copy hI)) (fun h => absurd rfl h)
set_option maxRecDepth 20000 in
theorem lc_27 (C : tv_C c 79 X cL_law RL wsL_law 4 room_1) (S : tl_S X b L xs) (hi : i + 7 ≤ L) (hI : iv s) (hN : ∀ s r w, iv s → tv_V c 79 X (tl_E c s r s w) 1497 (tl_lv c b i) []) : tv_V c 79 X (tl_E c s r s w) 1369 (tl_lv c b i) [] := by
  refine tv_aload_n C dL_law_1369 rfl 2 rfl ?_
  refine tl_arg C S 1 (by decide) (by omega) dL_law_1370 dL_law_1371 dL_law_1372 dL_law_1373 dL_law_1374 ?_
  refine tl_Xi (As := [.int (xs (i + 1))]) (rest := []) C ((sp_tell s (xs (i + 1))).1) ((sp_tell s (xs (i + 1))).2) (kX7_tell c s r (xs (i + 1)) hI) (fun _ _ h => ⟨h.1, _, h.2⟩) gL_law_X7_tell rfl yl_X7_tell ⟨rfl, rfl⟩ (by decide +kernel) rfl rfl (Nat.le_of_ble_eq_true rfl) dL_law_1375 (fun r => ?_)
  refine tv_aload_n C dL_law_1378 rfl 1 rfl ?_
  refine tl_arg C S 1 (by decide) (by omega) dL_law_1379 dL_law_1380 dL_law_1381 dL_law_1382 dL_law_1383 ?_
  refine tl_Mi (As := [.int (xs (i + 1))]) (rest := [.int ((sp_tell s (xs (i + 1))).1)]) C ((sp_tell s (xs (i + 1))).1) ((sp_tell s (xs (i + 1))).2) (kX8_tell (tl_m c) s w (xs (i + 1)) hI) (fun _ _ h => ⟨h.1, _, h.2⟩) gL_law_X8_tell rfl yl_X8_tell ⟨rfl, rfl⟩ (by decide +kernel) rfl rfl (Nat.le_of_ble_eq_true rfl) dL_law_1384 (fun w => ?_)
  exact tv_icmp_eq C 1497 dL_law_1387 (by decide) (fun _ => hN _ r w (iv_tell hI)) (fun h => absurd rfl h)
set_option maxRecDepth 20000 in
theorem lc_28 (C : tv_C c 79 X cL_law RL wsL_law 4 room_1) (S : tl_S X b L xs) (hi : i + 7 ≤ L) (hI : iv s) (hN : ∀ s r w, iv s → tv_V c 79 X (tl_E c s r s w) 1497 (tl_lv c b i) []) : tv_V c 79 X (tl_E c s r s w) 1392 (tl_lv c b i) [] := by
  refine tv_aload_n C dL_law_1392 rfl 2 rfl ?_
  refine tl_arg C S 1 (by decide) (by omega) dL_law_1393 dL_law_1394 dL_law_1395 dL_law_1396 dL_law_1397 ?_
  refine tl_Xi (As := [.int (xs (i + 1))]) (rest := []) C ((sp_name s (xs (i + 1))).1) ((sp_name s (xs (i + 1))).2) (kX7_name c s r (xs (i + 1)) hI) (fun _ _ h => ⟨h.1, _, h.2⟩) gL_law_X7_name rfl yl_X7_name ⟨rfl, rfl⟩ (by decide +kernel) rfl rfl (Nat.le_of_ble_eq_true rfl) dL_law_1398 (fun r => ?_)
  refine tv_aload_n C dL_law_1401 rfl 1 rfl ?_
  refine tl_arg C S 1 (by decide) (by omega) dL_law_1402 dL_law_1403 dL_law_1404 dL_law_1405 dL_law_1406 ?_
  refine tl_Mi (As := [.int (xs (i + 1))]) (rest := [.int ((sp_name s (xs (i + 1))).1)]) C ((sp_name s (xs (i + 1))).1) ((sp_name s (xs (i + 1))).2) (kX8_name (tl_m c) s w (xs (i + 1)) hI) (fun _ _ h => ⟨h.1, _, h.2⟩) gL_law_X8_name rfl yl_X8_name ⟨rfl, rfl⟩ (by decide +kernel) rfl rfl (Nat.le_of_ble_eq_true rfl) dL_law_1407 (fun w => ?_)
  exact tv_icmp_eq C 1497 dL_law_1410 (by decide) (fun _ => hN _ r w (iv_name hI)) (fun h => absurd rfl h)
set_option maxRecDepth 20000 in
theorem lc_29 (C : tv_C c 79 X cL_law RL wsL_law 4 room_1) (S : tl_S X b L xs) (hi : i + 7 ≤ L) (hI : iv s) (hN : ∀ s r w, iv s → tv_V c 79 X (tl_E c s r s w) 1497 (tl_lv c b i) []) : tv_V c 79 X (tl_E c s r s w) 1415 (tl_lv c b i) [] := by
  refine tv_aload_n C dL_law_1415 rfl 2 rfl ?_
  refine tl_arg C S 1 (by decide) (by omega) dL_law_1416 dL_law_1417 dL_law_1418 dL_law_1419 dL_law_1420 ?_
  refine tl_arg C S 2 (by decide) (by omega) dL_law_1421 dL_law_1422 dL_law_1423 dL_law_1424 dL_law_1425 ?_
  refine tl_Xi (As := [.int (xs (i + 1)), .int (xs (i + 2))]) (rest := []) C ((sp_as s (xs (i + 1)) (xs (i + 2))).1) ((sp_as s (xs (i + 1)) (xs (i + 2))).2) (kX7_as c s r (xs (i + 1)) (xs (i + 2)) hI) (fun _ _ h => ⟨h.1, _, h.2⟩) gL_law_X7_as rfl yl_X7_as ⟨rfl, rfl⟩ (by decide +kernel) rfl rfl (Nat.le_of_ble_eq_true rfl) dL_law_1426 (fun r => ?_)
  refine tv_aload_n C dL_law_1429 rfl 1 rfl ?_
  refine tl_arg C S 1 (by decide) (by omega) dL_law_1430 dL_law_1431 dL_law_1432 dL_law_1433 dL_law_1434 ?_
  refine tl_arg C S 2 (by decide) (by omega) dL_law_1435 dL_law_1436 dL_law_1437 dL_law_1438 dL_law_1439 ?_
  refine tl_Mi (As := [.int (xs (i + 1)), .int (xs (i + 2))]) (rest := [.int ((sp_as s (xs (i + 1)) (xs (i + 2))).1)]) C ((sp_as s (xs (i + 1)) (xs (i + 2))).1) ((sp_as s (xs (i + 1)) (xs (i + 2))).2) (kX8_as (tl_m c) s w (xs (i + 1)) (xs (i + 2)) hI) (fun _ _ h => ⟨h.1, _, h.2⟩) gL_law_X8_as rfl yl_X8_as ⟨rfl, rfl⟩ (by decide +kernel) rfl rfl (Nat.le_of_ble_eq_true rfl) dL_law_1440 (fun w => ?_)
  exact tv_icmp_eq C 1497 dL_law_1443 (by decide) (fun _ => hN _ r w (iv_as hI)) (fun h => absurd rfl h)
set_option maxRecDepth 20000 in
theorem lc_30 (C : tv_C c 79 X cL_law RL wsL_law 4 room_1) (S : tl_S X b L xs) (hi : i + 7 ≤ L) (hI : iv s) (hN : ∀ s r w, iv s → tv_V c 79 X (tl_E c s r s w) 1497 (tl_lv c b i) []) : tv_V c 79 X (tl_E c s r s w) 1448 (tl_lv c b i) [] := by
  refine tv_aload_n C dL_law_1448 rfl 2 rfl ?_
  refine tl_Xi (As := []) (rest := []) C (s 1 0) s (kX7_trace c s r ) (fun _ _ h => ⟨h.1, _, h.2⟩) gL_law_X7_trace rfl yl_X7_trace ⟨rfl, rfl⟩ (by decide +kernel) rfl rfl (Nat.le_of_ble_eq_true rfl) dL_law_1449 (fun r => ?_)
  refine tv_aload_n C dL_law_1452 rfl 1 rfl ?_
  refine tl_Mi (As := []) (rest := [.int (s 1 0)]) C (s 1 0) s (kX8_trace (tl_m c) s w ) (fun _ _ h => ⟨h.1, _, h.2⟩) gL_law_X8_trace rfl yl_X8_trace ⟨rfl, rfl⟩ (by decide +kernel) rfl rfl (Nat.le_of_ble_eq_true rfl) dL_law_1453 (fun w => ?_)
  exact tv_icmp_eq C 1497 dL_law_1456 (by decide) (fun _ => hN _ r w hI) (fun h => absurd rfl h)
set_option maxRecDepth 20000 in
theorem lc_31 (C : tv_C c 79 X cL_law RL wsL_law 4 room_1) (S : tl_S X b L xs) (hi : i + 7 ≤ L) (hI : iv s) (hN : ∀ s r w, iv s → tv_V c 79 X (tl_E c s r s w) 1497 (tl_lv c b i) []) : tv_V c 79 X (tl_E c s r s w) 1461 (tl_lv c b i) [] := by
  refine tv_aload_n C dL_law_1461 rfl 2 rfl ?_
  refine tl_Xi (As := []) (rest := []) C (s 0 0) s (kX7_fault c s r ) (fun _ _ h => ⟨h.1, _, h.2⟩) gL_law_X7_fault rfl yl_X7_fault ⟨rfl, rfl⟩ (by decide +kernel) rfl rfl (Nat.le_of_ble_eq_true rfl) dL_law_1462 (fun r => ?_)
  refine tv_aload_n C dL_law_1465 rfl 1 rfl ?_
  refine tl_Mi (As := []) (rest := [.int (s 0 0)]) C (s 0 0) s (kX8_fault (tl_m c) s w ) (fun _ _ h => ⟨h.1, _, h.2⟩) gL_law_X8_fault rfl yl_X8_fault ⟨rfl, rfl⟩ (by decide +kernel) rfl rfl (Nat.le_of_ble_eq_true rfl) dL_law_1466 (fun w => ?_)
  exact tv_icmp_eq C 1497 dL_law_1469 (by decide) (fun _ => hN _ r w hI) (fun h => absurd rfl h)
set_option maxRecDepth 20000 in
theorem lc_32 (C : tv_C c 79 X cL_law RL wsL_law 4 room_1) (S : tl_S X b L xs) (hi : i + 7 ≤ L) (hI : iv s) (hN : ∀ s r w, iv s → tv_V c 79 X (tl_E c s r s w) 1497 (tl_lv c b i) []) : tv_V c 79 X (tl_E c s r s w) 1474 (tl_lv c b i) [] := by
  refine tv_aload_n C dL_law_1474 rfl 2 rfl ?_
  refine tl_arg C S 1 (by decide) (by omega) dL_law_1475 dL_law_1476 dL_law_1477 dL_law_1478 dL_law_1479 ?_
  refine tl_Xi (As := [.int (xs (i + 1))]) (rest := []) C (sp_many s (xs (i + 1))) s (kX7_many c s r (xs (i + 1)) hI) (fun _ _ h => ⟨h.1, _, h.2⟩) gL_law_X7_many rfl yl_X7_many ⟨rfl, rfl⟩ (by decide +kernel) rfl rfl (Nat.le_of_ble_eq_true rfl) dL_law_1480 (fun r => ?_)
  refine tv_aload_n C dL_law_1483 rfl 1 rfl ?_
  refine tl_arg C S 1 (by decide) (by omega) dL_law_1484 dL_law_1485 dL_law_1486 dL_law_1487 dL_law_1488 ?_
  refine tl_Mi (As := [.int (xs (i + 1))]) (rest := [.int (sp_many s (xs (i + 1)))]) C (sp_many s (xs (i + 1))) s (kX8_many (tl_m c) s w (xs (i + 1)) hI) (fun _ _ h => ⟨h.1, _, h.2⟩) gL_law_X8_many rfl yl_X8_many ⟨rfl, rfl⟩ (by decide +kernel) rfl rfl (Nat.le_of_ble_eq_true rfl) dL_law_1489 (fun w => ?_)
  exact tv_icmp_eq C 1497 dL_law_1492 (by decide) (fun _ => hN _ r w hI) (fun h => absurd rfl h)
end LCS
