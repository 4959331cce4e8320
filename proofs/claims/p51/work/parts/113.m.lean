noncomputable abbrev rmX7_digest : Room := { frames := 10, cells := 66, slots := 396, locals := 185 }
theorem ydX7_digest : yX7_digest.cls = RX7 ∧ yX7_digest.cls ≠ "java/lang/invoke/MethodHandle" ∧ yX7_digest.cls ≠ "java/lang/invoke/VarHandle" ∧ (parseMethodDescriptor yX7_digest.desc).map (fun d => d.parameters.length) = some 0 := by decide +kernel
noncomputable def S_X7_digest_6 (f_t_forms_z6 : Nat → Int64) (k29 : Int64 → Option (Nat × Int64 × Int64 × Int64 × Int64 × Int64 × Int64 × Int64 × Int32 × (Nat → Int64) × Int32 × (Nat → Int64) × Int32 × (Nat → Int64) × (Nat → Int64))) (ih6 : Int64 → Int32 → Option (Nat × Int64 × Int64 × Int64 × Int64 × Int64 × Int64 × Int64 × Int32 × (Nat → Int64) × Int32 × (Nat → Int64) × Int32 × (Nat → Int64) × (Nat → Int64))) (y1_6 : Int64) (y3_6 : Int32) : Option (Nat × Int64 × Int64 × Int64 × Int64 × Int64 × Int64 × Int64 × Int32 × (Nat → Int64) × Int32 × (Nat → Int64) × Int32 × (Nat → Int64) × (Nat → Int64)) :=
 (if (6 : Int32) ≤ y3_6 then
 k29 y1_6
else
 chk (¬ (y3_6 < 0 ∨ 6 ≤ y3_6.toNatClampNeg)) (
 obn (F_X7_digestOfForm y1_6 (f_t_forms_z6 y3_6.toNatClampNeg)) (fun r19 =>
 bnd (y3_6 + 1) (fun x3_23 =>
 ih6 r19 x3_23))))
noncomputable def S_X7_digest_44 (c_t_roll_size_z44 : Int32) (f_t_roll_held_z44 : Nat → Int64) (k95 : Int64 → Option (Nat × Int64 × Int64 × Int64 × Int64 × Int64 × Int64 × Int64 × Int32 × (Nat → Int64) × Int32 × (Nat → Int64) × Int32 × (Nat → Int64) × (Nat → Int64))) (ih44 : Int64 → Int32 → Option (Nat × Int64 × Int64 × Int64 × Int64 × Int64 × Int64 × Int64 × Int32 × (Nat → Int64) × Int32 × (Nat → Int64) × Int32 × (Nat → Int64) × (Nat → Int64))) (y1_44 : Int64) (y3_44 : Int32) : Option (Nat × Int64 × Int64 × Int64 × Int64 × Int64 × Int64 × Int64 × Int32 × (Nat → Int64) × Int32 × (Nat → Int64) × Int32 × (Nat → Int64) × (Nat → Int64)) :=
 (if c_t_roll_size_z44 ≤ y3_44 then
 k95 y1_44
else
 obn (F_X3_at c_t_roll_size_z44 f_t_roll_held_z44 y3_44) (fun r61 =>
 obn (F_X0_degreeOf r61) (fun r64 =>
 obn (F_X7_mixed y1_44 r64.toInt64) (fun r68 =>
 obn (F_X3_at c_t_roll_size_z44 f_t_roll_held_z44 y3_44) (fun r78 =>
 obn (F_X0_onesOf r78) (fun r81 =>
 obn (F_X7_mixed r68 r81.toInt64) (fun r85 =>
 bnd (y3_44 + 1) (fun x3_89 =>
 ih44 r85 x3_89))))))))
noncomputable def J_X7_digest_148 (ih121 : Int64 → Int32 → Option (Nat × Int64 × Int64 × Int64 × Int64 × Int64 × Int64 × Int64 × Int32 × (Nat → Int64) × Int32 × (Nat → Int64) × Int32 × (Nat → Int64) × (Nat → Int64))) (j4_148 : Int32) (js0_148 : Int64) (js1_148 : Int64) : Option (Nat × Int64 × Int64 × Int64 × Int64 × Int64 × Int64 × Int64 × Int32 × (Nat → Int64) × Int32 × (Nat → Int64) × Int32 × (Nat → Int64) × (Nat → Int64)) :=
 obn (F_X7_mixed js0_148 js1_148) (fun r148 =>
 bnd (j4_148 + 1) (fun x4_152 =>
 ih121 r148 x4_152))
noncomputable def S_X7_digest_121 (z3_121 : Int32) (c_t_row_cells_z121 : Int64) (k158 : Int64 → Option (Nat × Int64 × Int64 × Int64 × Int64 × Int64 × Int64 × Int64 × Int32 × (Nat → Int64) × Int32 × (Nat → Int64) × Int32 × (Nat → Int64) × (Nat → Int64))) (ih121 : Int64 → Int32 → Option (Nat × Int64 × Int64 × Int64 × Int64 × Int64 × Int64 × Int64 × Int32 × (Nat → Int64) × Int32 × (Nat → Int64) × Int32 × (Nat → Int64) × (Nat → Int64))) (y1_121 : Int64) (y4_121 : Int32) : Option (Nat × Int64 × Int64 × Int64 × Int64 × Int64 × Int64 × Int64 × Int32 × (Nat → Int64) × Int32 × (Nat → Int64) × Int32 × (Nat → Int64) × (Nat → Int64)) :=
 (if z3_121 ≤ y4_121 then
 k158 y1_121
else
 obn (F_X0_hasOne c_t_row_cells_z121 y4_121) (fun r137 =>
 (if r137 = 0 then
 J_X7_digest_148 ih121 y4_121 y1_121 (0 : Int64)
else
 J_X7_digest_148 ih121 y4_121 y1_121 (1 : Int64))))
noncomputable def S_X7_digest_161 (c_t_acts_z161 : Int32) (c_t_refusals_z161 : Int32) (c_t_knocks_z161 : Int32) (f_t_forms_z161 : Nat → Int64) (c_t_roll_size_z161 : Int32) (c_t_row_taps_z161 : Int64) (c_t_rows_first_z161 : Int64) (c_t_rows_ofOne_z161 : Int64) (c_t_rows_ofOther_z161 : Int64) (c_t_rows_second_z161 : Int64) (c_t_rows_secondOfOne_z161 : Int64) (c_t_rows_secondOfOther_z161 : Int64) (c_t_factors_parts_size_z161 : Int32) (f_t_factors_parts_held_z161 : Nat → Int64) (c_t_found_size_z161 : Int32) (f_t_found_held_z161 : Nat → Int64) (c_t_foundOtherwise_size_z161 : Int32) (f_t_foundOtherwise_held_z161 : Nat → Int64) (f_t_foundOtherwise_before_z161 : Nat → Int64) (k185 : Int64 → Option (Nat × Int64 × Int64 × Int64 × Int64 × Int64 × Int64 × Int64 × Int32 × (Nat → Int64) × Int32 × (Nat → Int64) × Int32 × (Nat → Int64) × (Nat → Int64))) (ih161 : Int64 → Int32 → Option (Nat × Int64 × Int64 × Int64 × Int64 × Int64 × Int64 × Int64 × Int32 × (Nat → Int64) × Int32 × (Nat → Int64) × Int32 × (Nat → Int64) × (Nat → Int64))) (y1_161 : Int64) (y4_161 : Int32) : Option (Nat × Int64 × Int64 × Int64 × Int64 × Int64 × Int64 × Int64 × Int32 × (Nat → Int64) × Int32 × (Nat → Int64) × Int32 × (Nat → Int64) × (Nat → Int64)) :=
 (if (5 : Int32) < y4_161 then
 k185 y1_161
else
 obn2 (F_X7_house c_t_acts_z161 c_t_refusals_z161 c_t_knocks_z161 f_t_forms_z161 c_t_roll_size_z161 c_t_row_taps_z161 y4_161) (fun xc171 r171 =>
 if xc171 = 0 then
 obn (F_X7_mixed y1_161 r171.toInt64) (fun r175 =>
 bnd (y4_161 + 1) (fun x4_179 =>
 ih161 r175 x4_179))
else
 some (xc171, 0, c_t_rows_first_z161, c_t_rows_ofOne_z161, c_t_rows_ofOther_z161, c_t_rows_second_z161, c_t_rows_secondOfOne_z161, c_t_rows_secondOfOther_z161, c_t_factors_parts_size_z161, f_t_factors_parts_held_z161, c_t_found_size_z161, f_t_found_held_z161, c_t_foundOtherwise_size_z161, f_t_foundOtherwise_held_z161, f_t_foundOtherwise_before_z161)))
noncomputable def F_X7_digest (c_t_acts : Int32) (c_t_refusals : Int32) (c_t_knocks : Int32) (f_t_forms : Nat → Int64) (c_t_roll_size : Int32) (f_t_roll_held : Nat → Int64) (c_t_row_taps : Int64) (c_t_row_cells : Int64) (c_t_rows_first : Int64) (c_t_rows_ofOne : Int64) (c_t_rows_ofOther : Int64) (c_t_rows_second : Int64) (c_t_rows_secondOfOne : Int64) (c_t_rows_secondOfOther : Int64) (c_t_factors_parts_size : Int32) (f_t_factors_parts_held : Nat → Int64) (c_t_found_size : Int32) (f_t_found_held : Nat → Int64) (c_t_foundOtherwise_size : Int32) (f_t_foundOtherwise_held : Nat → Int64) (f_t_foundOtherwise_before : Nat → Int64) : Option (Nat × Int64 × Int64 × Int64 × Int64 × Int64 × Int64 × Int64 × Int32 × (Nat → Int64) × Int32 × (Nat → Int64) × Int32 × (Nat → Int64) × (Nat → Int64)) :=
 LQ2 (S_X7_digest_6 f_t_forms (fun y1_6_29 =>
 obn (F_X7_mixed y1_6_29 c_t_roll_size.toInt64) (fun r38 =>
 LQ2 (S_X7_digest_44 c_t_roll_size f_t_roll_held (fun y1_44_95 =>
 obn (F_X7_mixed y1_44_95 c_t_row_taps) (fun r103 =>
 obn (F_X0_degreeOf c_t_row_taps) (fun r114 =>
 LQ2 (S_X7_digest_121 r114 c_t_row_cells (fun y1_121_158 =>
 LQ2 (S_X7_digest_161 c_t_acts c_t_refusals c_t_knocks f_t_forms c_t_roll_size c_t_row_taps c_t_rows_first c_t_rows_ofOne c_t_rows_ofOther c_t_rows_second c_t_rows_secondOfOne c_t_rows_secondOfOther c_t_factors_parts_size f_t_factors_parts_held c_t_found_size f_t_found_held c_t_foundOtherwise_size f_t_foundOtherwise_held f_t_foundOtherwise_before (fun y1_161_185 =>
 obn14 (F_X7_isSound f_t_forms c_t_row_taps c_t_rows_first c_t_rows_ofOne c_t_rows_ofOther c_t_rows_second c_t_rows_secondOfOne c_t_rows_secondOfOther c_t_factors_parts_size f_t_factors_parts_held c_t_found_size f_t_found_held c_t_foundOtherwise_size f_t_foundOtherwise_held f_t_foundOtherwise_before) (fun r187 c_t_rows_first_187 c_t_rows_ofOne_187 c_t_rows_ofOther_187 c_t_rows_second_187 c_t_rows_secondOfOne_187 c_t_rows_secondOfOther_187 c_t_factors_parts_size_187 f_t_factors_parts_held_187 c_t_found_size_187 f_t_found_held_187 c_t_foundOtherwise_size_187 f_t_foundOtherwise_held_187 f_t_foundOtherwise_before_187 =>
 (if r187 = 0 then
 obn (F_X7_mixed y1_161_185 (0 : Int64)) (fun r198 =>
 some (0, r198, c_t_rows_first_187, c_t_rows_ofOne_187, c_t_rows_ofOther_187, c_t_rows_second_187, c_t_rows_secondOfOne_187, c_t_rows_secondOfOther_187, c_t_factors_parts_size_187, f_t_factors_parts_held_187, c_t_found_size_187, f_t_found_held_187, c_t_foundOtherwise_size_187, f_t_foundOtherwise_held_187, f_t_foundOtherwise_before_187))
else
 obn (F_X7_mixed y1_161_185 (1 : Int64)) (fun r198 =>
 some (0, r198, c_t_rows_first_187, c_t_rows_ofOne_187, c_t_rows_ofOther_187, c_t_rows_second_187, c_t_rows_secondOfOne_187, c_t_rows_secondOfOther_187, c_t_factors_parts_size_187, f_t_factors_parts_held_187, c_t_found_size_187, f_t_found_held_187, c_t_foundOtherwise_size_187, f_t_foundOtherwise_held_187, f_t_foundOtherwise_before_187)))))) 66 y1_121_158 (0 : Int32))) 20000 r103 (0 : Int32))))) 20000 r38 (0 : Int32)))) 20000 (8029 : Int64) (0 : Int32)
set_option maxHeartbeats 4000000 in
set_option maxRecDepth 100000 in
theorem c_X7_digest (l : Launch) (hfl : l.stackTraces = false) (D : va_G) (cyJ : ClassId) (sz : Nat) (a_t : Nat) (a_t_forms : Nat) (a_t_roll : Nat) (a_t_row : Nat) (a_t_rows : Nat) (a_t_factors : Nat) (a_t_found : Nat) (a_t_foundOtherwise : Nat) (a_t_roll_held : Nat) (a_t_roll_before : Nat) (a_t_factors_parts : Nat) (a_t_factors_parts_held : Nat) (a_t_factors_parts_before : Nat) (a_t_found_held : Nat) (a_t_found_before : Nat) (a_t_foundOtherwise_held : Nat) (a_t_foundOtherwise_before : Nat) (c_t_acts : Int32) (c_t_refusals : Int32) (c_t_knocks : Int32) (f_t_forms : Nat → Int64) (c_t_roll_size : Int32) (f_t_roll_held : Nat → Int64) (c_t_row_taps : Int64) (c_t_row_cells : Int64) (c_t_rows_first : Int64) (c_t_rows_ofOne : Int64) (c_t_rows_ofOther : Int64) (c_t_rows_second : Int64) (c_t_rows_secondOfOne : Int64) (c_t_rows_secondOfOther : Int64) (c_t_factors_parts_size : Int32) (f_t_factors_parts_held : Nat → Int64) (c_t_found_size : Int32) (f_t_found_held : Nat → Int64) (c_t_foundOtherwise_size : Int32) (f_t_foundOtherwise_held : Nat → Int64) (f_t_foundOtherwise_before : Nat → Int64) (xc : Nat) (r0 : Int64) (o_c_t_rows_first : Int64) (o_c_t_rows_ofOne : Int64) (o_c_t_rows_ofOther : Int64) (o_c_t_rows_second : Int64) (o_c_t_rows_secondOfOne : Int64) (o_c_t_rows_secondOfOther : Int64) (o_c_t_factors_parts_size : Int32) (o_f_t_factors_parts_held : Nat → Int64) (o_c_t_found_size : Int32) (o_f_t_found_held : Nat → Int64) (o_c_t_foundOtherwise_size : Int32) (o_f_t_foundOtherwise_held : Nat → Int64) (o_f_t_foundOtherwise_before : Nat → Int64) (hF : F_X7_digest c_t_acts c_t_refusals c_t_knocks f_t_forms c_t_roll_size f_t_roll_held c_t_row_taps c_t_row_cells c_t_rows_first c_t_rows_ofOne c_t_rows_ofOther c_t_rows_second c_t_rows_secondOfOne c_t_rows_secondOfOther c_t_factors_parts_size f_t_factors_parts_held c_t_found_size f_t_found_held c_t_foundOtherwise_size f_t_foundOtherwise_held f_t_foundOtherwise_before = some (xc, r0, o_c_t_rows_first, o_c_t_rows_ofOne, o_c_t_rows_ofOther, o_c_t_rows_second, o_c_t_rows_secondOfOne, o_c_t_rows_secondOfOther, o_c_t_factors_parts_size, o_f_t_factors_parts_held, o_c_t_found_size, o_f_t_found_held, o_c_t_foundOtherwise_size, o_f_t_foundOtherwise_held, o_f_t_foundOtherwise_before)) : vx_Met l yX7_digest wsX7_digest rmX7_digest (va_Pc [.ref a_t] (wPX D [(cyJ, .long)] [(a_t, .inr (6, [.ref a_t_forms, .ref a_t_roll, .ref a_t_row, .ref a_t_rows, .ref a_t_factors, .ref a_t_found, .ref a_t_foundOtherwise, .int c_t_acts, .int c_t_refusals, .int c_t_knocks])), (a_t_forms, .inl (cyJ, 6, .inr (.inl f_t_forms))), (a_t_roll, .inr (3, [.ref a_t_roll_held, .ref a_t_roll_before, .int c_t_roll_size])), (a_t_roll_held, .inl (cyJ, 12, .inr (.inl f_t_roll_held))), (a_t_row, .inr (5, [.long c_t_row_taps, .long c_t_row_cells])), (a_t_rows, .inr (4, [.long c_t_rows_first, .long c_t_rows_ofOne, .long c_t_rows_ofOther, .long c_t_rows_second, .long c_t_rows_secondOfOne, .long c_t_rows_secondOfOther])), (a_t_factors, .inr (2, [.ref a_t_factors_parts])), (a_t_factors_parts, .inr (3, [.ref a_t_factors_parts_held, .ref a_t_factors_parts_before, .int c_t_factors_parts_size])), (a_t_factors_parts_held, .inl (cyJ, 12, .inr (.inl f_t_factors_parts_held))), (a_t_found, .inr (3, [.ref a_t_found_held, .ref a_t_found_before, .int c_t_found_size])), (a_t_found_held, .inl (cyJ, 12, .inr (.inl f_t_found_held))), (a_t_foundOtherwise, .inr (3, [.ref a_t_foundOtherwise_held, .ref a_t_foundOtherwise_before, .int c_t_foundOtherwise_size])), (a_t_foundOtherwise_held, .inl (cyJ, 12, .inr (.inl f_t_foundOtherwise_held))), (a_t_foundOtherwise_before, .inl (cyJ, 12, .inr (.inl f_t_foundOtherwise_before)))] sz)) (va_Ql (fun (r : Int64) (_ : Unit) => xc = 0 ∧ r = r0) (fun _ t => wQA D [(a_t, .inr (6, [.ref a_t_forms, .ref a_t_roll, .ref a_t_row, .ref a_t_rows, .ref a_t_factors, .ref a_t_found, .ref a_t_foundOtherwise, .int c_t_acts, .int c_t_refusals, .int c_t_knocks])), (a_t_forms, .inl (cyJ, 6, .inr (.inl f_t_forms))), (a_t_roll, .inr (3, [.ref a_t_roll_held, .ref a_t_roll_before, .int c_t_roll_size])), (a_t_roll_held, .inl (cyJ, 12, .inr (.inl f_t_roll_held))), (a_t_row, .inr (5, [.long c_t_row_taps, .long c_t_row_cells])), (a_t_rows, .inr (4, [.long o_c_t_rows_first, .long o_c_t_rows_ofOne, .long o_c_t_rows_ofOther, .long o_c_t_rows_second, .long o_c_t_rows_secondOfOne, .long o_c_t_rows_secondOfOther])), (a_t_factors, .inr (2, [.ref a_t_factors_parts])), (a_t_factors_parts, .inr (3, [.ref a_t_factors_parts_held, .ref a_t_factors_parts_before, .int o_c_t_factors_parts_size])), (a_t_factors_parts_held, .inl (cyJ, 12, .inr (.inl o_f_t_factors_parts_held))), (a_t_found, .inr (3, [.ref a_t_found_held, .ref a_t_found_before, .int o_c_t_found_size])), (a_t_found_held, .inl (cyJ, 12, .inr (.inl o_f_t_found_held))), (a_t_foundOtherwise, .inr (3, [.ref a_t_foundOtherwise_held, .ref a_t_foundOtherwise_before, .int o_c_t_foundOtherwise_size])), (a_t_foundOtherwise_held, .inl (cyJ, 12, .inr (.inl o_f_t_foundOtherwise_held))), (a_t_foundOtherwise_before, .inl (cyJ, 12, .inr (.inl o_f_t_foundOtherwise_before)))] (va_A [(a_t, .inr (6, [.ref a_t_forms, .ref a_t_roll, .ref a_t_row, .ref a_t_rows, .ref a_t_factors, .ref a_t_found, .ref a_t_foundOtherwise, .int c_t_acts, .int c_t_refusals, .int c_t_knocks])), (a_t_forms, .inl (cyJ, 6, .inr (.inl f_t_forms))), (a_t_roll, .inr (3, [.ref a_t_roll_held, .ref a_t_roll_before, .int c_t_roll_size])), (a_t_roll_held, .inl (cyJ, 12, .inr (.inl f_t_roll_held))), (a_t_row, .inr (5, [.long c_t_row_taps, .long c_t_row_cells])), (a_t_rows, .inr (4, [.long c_t_rows_first, .long c_t_rows_ofOne, .long c_t_rows_ofOther, .long c_t_rows_second, .long c_t_rows_secondOfOne, .long c_t_rows_secondOfOther])), (a_t_factors, .inr (2, [.ref a_t_factors_parts])), (a_t_factors_parts, .inr (3, [.ref a_t_factors_parts_held, .ref a_t_factors_parts_before, .int c_t_factors_parts_size])), (a_t_factors_parts_held, .inl (cyJ, 12, .inr (.inl f_t_factors_parts_held))), (a_t_found, .inr (3, [.ref a_t_found_held, .ref a_t_found_before, .int c_t_found_size])), (a_t_found_held, .inl (cyJ, 12, .inr (.inl f_t_found_held))), (a_t_foundOtherwise, .inr (3, [.ref a_t_foundOtherwise_held, .ref a_t_foundOtherwise_before, .int c_t_foundOtherwise_size])), (a_t_foundOtherwise_held, .inl (cyJ, 12, .inr (.inl f_t_foundOtherwise_held))), (a_t_foundOtherwise_before, .inl (cyJ, 12, .inr (.inl f_t_foundOtherwise_before)))] sz) t) (va_A [(a_t, .inr (6, [.ref a_t_forms, .ref a_t_roll, .ref a_t_row, .ref a_t_rows, .ref a_t_factors, .ref a_t_found, .ref a_t_foundOtherwise, .int c_t_acts, .int c_t_refusals, .int c_t_knocks])), (a_t_forms, .inl (cyJ, 6, .inr (.inl f_t_forms))), (a_t_roll, .inr (3, [.ref a_t_roll_held, .ref a_t_roll_before, .int c_t_roll_size])), (a_t_roll_held, .inl (cyJ, 12, .inr (.inl f_t_roll_held))), (a_t_row, .inr (5, [.long c_t_row_taps, .long c_t_row_cells])), (a_t_rows, .inr (4, [.long c_t_rows_first, .long c_t_rows_ofOne, .long c_t_rows_ofOther, .long c_t_rows_second, .long c_t_rows_secondOfOne, .long c_t_rows_secondOfOther])), (a_t_factors, .inr (2, [.ref a_t_factors_parts])), (a_t_factors_parts, .inr (3, [.ref a_t_factors_parts_held, .ref a_t_factors_parts_before, .int c_t_factors_parts_size])), (a_t_factors_parts_held, .inl (cyJ, 12, .inr (.inl f_t_factors_parts_held))), (a_t_found, .inr (3, [.ref a_t_found_held, .ref a_t_found_before, .int c_t_found_size])), (a_t_found_held, .inl (cyJ, 12, .inr (.inl f_t_found_held))), (a_t_foundOtherwise, .inr (3, [.ref a_t_foundOtherwise_held, .ref a_t_foundOtherwise_before, .int c_t_foundOtherwise_size])), (a_t_foundOtherwise_held, .inl (cyJ, 12, .inr (.inl f_t_foundOtherwise_held))), (a_t_foundOtherwise_before, .inl (cyJ, 12, .inr (.inl f_t_foundOtherwise_before)))] sz)) (vx_X (fun (_ : Unit) => ¬ xc = 0) (fun E _ t => E = xcls xc ∧ wQA D [(a_t, .inr (6, [.ref a_t_forms, .ref a_t_roll, .ref a_t_row, .ref a_t_rows, .ref a_t_factors, .ref a_t_found, .ref a_t_foundOtherwise, .int c_t_acts, .int c_t_refusals, .int c_t_knocks])), (a_t_forms, .inl (cyJ, 6, .inr (.inl f_t_forms))), (a_t_roll, .inr (3, [.ref a_t_roll_held, .ref a_t_roll_before, .int c_t_roll_size])), (a_t_roll_held, .inl (cyJ, 12, .inr (.inl f_t_roll_held))), (a_t_row, .inr (5, [.long c_t_row_taps, .long c_t_row_cells])), (a_t_rows, .inr (4, [.long o_c_t_rows_first, .long o_c_t_rows_ofOne, .long o_c_t_rows_ofOther, .long o_c_t_rows_second, .long o_c_t_rows_secondOfOne, .long o_c_t_rows_secondOfOther])), (a_t_factors, .inr (2, [.ref a_t_factors_parts])), (a_t_factors_parts, .inr (3, [.ref a_t_factors_parts_held, .ref a_t_factors_parts_before, .int o_c_t_factors_parts_size])), (a_t_factors_parts_held, .inl (cyJ, 12, .inr (.inl o_f_t_factors_parts_held))), (a_t_found, .inr (3, [.ref a_t_found_held, .ref a_t_found_before, .int o_c_t_found_size])), (a_t_found_held, .inl (cyJ, 12, .inr (.inl o_f_t_found_held))), (a_t_foundOtherwise, .inr (3, [.ref a_t_foundOtherwise_held, .ref a_t_foundOtherwise_before, .int o_c_t_foundOtherwise_size])), (a_t_foundOtherwise_held, .inl (cyJ, 12, .inr (.inl o_f_t_foundOtherwise_held))), (a_t_foundOtherwise_before, .inl (cyJ, 12, .inr (.inl o_f_t_foundOtherwise_before)))] (va_A [(a_t, .inr (6, [.ref a_t_forms, .ref a_t_roll, .ref a_t_row, .ref a_t_rows, .ref a_t_factors, .ref a_t_found, .ref a_t_foundOtherwise, .int c_t_acts, .int c_t_refusals, .int c_t_knocks])), (a_t_forms, .inl (cyJ, 6, .inr (.inl f_t_forms))), (a_t_roll, .inr (3, [.ref a_t_roll_held, .ref a_t_roll_before, .int c_t_roll_size])), (a_t_roll_held, .inl (cyJ, 12, .inr (.inl f_t_roll_held))), (a_t_row, .inr (5, [.long c_t_row_taps, .long c_t_row_cells])), (a_t_rows, .inr (4, [.long c_t_rows_first, .long c_t_rows_ofOne, .long c_t_rows_ofOther, .long c_t_rows_second, .long c_t_rows_secondOfOne, .long c_t_rows_secondOfOther])), (a_t_factors, .inr (2, [.ref a_t_factors_parts])), (a_t_factors_parts, .inr (3, [.ref a_t_factors_parts_held, .ref a_t_factors_parts_before, .int c_t_factors_parts_size])), (a_t_factors_parts_held, .inl (cyJ, 12, .inr (.inl f_t_factors_parts_held))), (a_t_found, .inr (3, [.ref a_t_found_held, .ref a_t_found_before, .int c_t_found_size])), (a_t_found_held, .inl (cyJ, 12, .inr (.inl f_t_found_held))), (a_t_foundOtherwise, .inr (3, [.ref a_t_foundOtherwise_held, .ref a_t_foundOtherwise_before, .int c_t_foundOtherwise_size])), (a_t_foundOtherwise_held, .inl (cyJ, 12, .inr (.inl f_t_foundOtherwise_held))), (a_t_foundOtherwise_before, .inl (cyJ, 12, .inr (.inl f_t_foundOtherwise_before)))] sz) t) (va_A [(a_t, .inr (6, [.ref a_t_forms, .ref a_t_roll, .ref a_t_row, .ref a_t_rows, .ref a_t_factors, .ref a_t_found, .ref a_t_foundOtherwise, .int c_t_acts, .int c_t_refusals, .int c_t_knocks])), (a_t_forms, .inl (cyJ, 6, .inr (.inl f_t_forms))), (a_t_roll, .inr (3, [.ref a_t_roll_held, .ref a_t_roll_before, .int c_t_roll_size])), (a_t_roll_held, .inl (cyJ, 12, .inr (.inl f_t_roll_held))), (a_t_row, .inr (5, [.long c_t_row_taps, .long c_t_row_cells])), (a_t_rows, .inr (4, [.long c_t_rows_first, .long c_t_rows_ofOne, .long c_t_rows_ofOther, .long c_t_rows_second, .long c_t_rows_secondOfOne, .long c_t_rows_secondOfOther])), (a_t_factors, .inr (2, [.ref a_t_factors_parts])), (a_t_factors_parts, .inr (3, [.ref a_t_factors_parts_held, .ref a_t_factors_parts_before, .int c_t_factors_parts_size])), (a_t_factors_parts_held, .inl (cyJ, 12, .inr (.inl f_t_factors_parts_held))), (a_t_found, .inr (3, [.ref a_t_found_held, .ref a_t_found_before, .int c_t_found_size])), (a_t_found_held, .inl (cyJ, 12, .inr (.inl f_t_found_held))), (a_t_foundOtherwise, .inr (3, [.ref a_t_foundOtherwise_held, .ref a_t_foundOtherwise_before, .int c_t_foundOtherwise_size])), (a_t_foundOtherwise_held, .inl (cyJ, 12, .inr (.inl f_t_foundOtherwise_held))), (a_t_foundOtherwise_before, .inl (cyJ, 12, .inr (.inl f_t_foundOtherwise_before)))] sz)) 66 396 (va_A [(a_t, .inr (6, [.ref a_t_forms, .ref a_t_roll, .ref a_t_row, .ref a_t_rows, .ref a_t_factors, .ref a_t_found, .ref a_t_foundOtherwise, .int c_t_acts, .int c_t_refusals, .int c_t_knocks])), (a_t_forms, .inl (cyJ, 6, .inr (.inl f_t_forms))), (a_t_roll, .inr (3, [.ref a_t_roll_held, .ref a_t_roll_before, .int c_t_roll_size])), (a_t_roll_held, .inl (cyJ, 12, .inr (.inl f_t_roll_held))), (a_t_row, .inr (5, [.long c_t_row_taps, .long c_t_row_cells])), (a_t_rows, .inr (4, [.long c_t_rows_first, .long c_t_rows_ofOne, .long c_t_rows_ofOther, .long c_t_rows_second, .long c_t_rows_secondOfOne, .long c_t_rows_secondOfOther])), (a_t_factors, .inr (2, [.ref a_t_factors_parts])), (a_t_factors_parts, .inr (3, [.ref a_t_factors_parts_held, .ref a_t_factors_parts_before, .int c_t_factors_parts_size])), (a_t_factors_parts_held, .inl (cyJ, 12, .inr (.inl f_t_factors_parts_held))), (a_t_found, .inr (3, [.ref a_t_found_held, .ref a_t_found_before, .int c_t_found_size])), (a_t_found_held, .inl (cyJ, 12, .inr (.inl f_t_found_held))), (a_t_foundOtherwise, .inr (3, [.ref a_t_foundOtherwise_held, .ref a_t_foundOtherwise_before, .int c_t_foundOtherwise_size])), (a_t_foundOtherwise_held, .inl (cyJ, 12, .inr (.inl f_t_foundOtherwise_held))), (a_t_foundOtherwise_before, .inl (cyJ, 12, .inr (.inl f_t_foundOtherwise_before)))] sz) := by
  refine vx_ofW (cc := cX7_digest) (maxL := 5) (ret := (some .long)) (by decide) rfl ?_
  intro p e s m args below meth c s₁ B hml hxt hv
  obtain ⟨rfl, ⟨⟨hsz, hP, hK, hD0, hnw⟩, hE⟩⟩ := hv
  have hx := B.exec
  have hb := B.bytes
  have hr := B.returns
  have hts := atoms_spec (ws := wsX7_digest) B.pre
  have hown : s.vm.findClass RX7 = some m.cls := findClass_of_methodNamed B.named
  have hlocks := B.notSynchronized
  have hcf : CallFix _ _ _ _ _ _ _ _ _ := ⟨hx, hb, hml, hown, hts⟩
  have hinX7 : ∀ w ∈ u_ws RX7 TX7 10, w ∈ wsX7_digest := by decide +kernel
  have hfl9 := hts (.fieldLink RX7 9 "Formwheel" "forms" "[J") (by decide +kernel)
  have hfl16 := hts (.fieldLink RX7 16 "Formwheel" "roll" "LFormwheel$Roll;") (by decide +kernel)
  have hinX3 : ∀ w ∈ u_ws RX3 TX3 3, w ∈ wsX7_digest := by decide +kernel
  have hfl176 := hnw.use (A := ([.ref a_t] : List Value).toArray) (w := .fieldLinkNest RX7 176 "Formwheel$Roll" "size" "I" "Formwheel") (by decide +kernel)
  have hfl23 := hts (.fieldLink RX7 23 "Formwheel" "row" "LFormwheel$ShiftRow;") (by decide +kernel)
  have hinX5 : ∀ w ∈ u_ws RX5 TX5 2, w ∈ wsX7_digest := by decide +kernel
  have hfl218 := hnw.use (A := ([.ref a_t] : List Value).toArray) (w := .fieldLinkNest RX7 218 "Formwheel$ShiftRow" "taps" "J" "Formwheel") (by decide +kernel)
  have hfl224 := hnw.use (A := ([.ref a_t] : List Value).toArray) (w := .fieldLinkNest RX7 224 "Formwheel$ShiftRow" "cells" "J" "Formwheel") (by decide +kernel)
  subst hsz
  have hD := hD0.self (sz := s.heap.size)
  generalize hAe : va_A [(a_t, .inr (6, [.ref a_t_forms, .ref a_t_roll, .ref a_t_row, .ref a_t_rows, .ref a_t_factors, .ref a_t_found, .ref a_t_foundOtherwise, .int c_t_acts, .int c_t_refusals, .int c_t_knocks])), (a_t_forms, .inl (cyJ, 6, .inr (.inl f_t_forms))), (a_t_roll, .inr (3, [.ref a_t_roll_held, .ref a_t_roll_before, .int c_t_roll_size])), (a_t_roll_held, .inl (cyJ, 12, .inr (.inl f_t_roll_held))), (a_t_row, .inr (5, [.long c_t_row_taps, .long c_t_row_cells])), (a_t_rows, .inr (4, [.long c_t_rows_first, .long c_t_rows_ofOne, .long c_t_rows_ofOther, .long c_t_rows_second, .long c_t_rows_secondOfOne, .long c_t_rows_secondOfOther])), (a_t_factors, .inr (2, [.ref a_t_factors_parts])), (a_t_factors_parts, .inr (3, [.ref a_t_factors_parts_held, .ref a_t_factors_parts_before, .int c_t_factors_parts_size])), (a_t_factors_parts_held, .inl (cyJ, 12, .inr (.inl f_t_factors_parts_held))), (a_t_found, .inr (3, [.ref a_t_found_held, .ref a_t_found_before, .int c_t_found_size])), (a_t_found_held, .inl (cyJ, 12, .inr (.inl f_t_found_held))), (a_t_foundOtherwise, .inr (3, [.ref a_t_foundOtherwise_held, .ref a_t_foundOtherwise_before, .int c_t_foundOtherwise_size])), (a_t_foundOtherwise_held, .inl (cyJ, 12, .inr (.inl f_t_foundOtherwise_held))), (a_t_foundOtherwise_before, .inl (cyJ, 12, .inr (.inl f_t_foundOtherwise_before)))] s.heap.size = A at hD hE ⊢
  have hA : ∀ q : Nat, s.heap.size ≤ q → A q := fun q h => by rw [← hAe]; exact Or.inr h
  have hS : va_S A s.heap s.heap [] := va_S.rf
  have hP : va_P D vwCl [(a_t, .inr (6, [.ref a_t_forms, .ref a_t_roll, .ref a_t_row, .ref a_t_rows, .ref a_t_factors, .ref a_t_found, .ref a_t_foundOtherwise, .int c_t_acts, .int c_t_refusals, .int c_t_knocks])), (a_t_forms, .inl (cyJ, 6, .inr (.inl f_t_forms))), (a_t_roll, .inr (3, [.ref a_t_roll_held, .ref a_t_roll_before, .int c_t_roll_size])), (a_t_roll_held, .inl (cyJ, 12, .inr (.inl f_t_roll_held))), (a_t_row, .inr (5, [.long c_t_row_taps, .long c_t_row_cells])), (a_t_rows, .inr (4, [.long c_t_rows_first, .long c_t_rows_ofOne, .long c_t_rows_ofOther, .long c_t_rows_second, .long c_t_rows_secondOfOne, .long c_t_rows_secondOfOther])), (a_t_factors, .inr (2, [.ref a_t_factors_parts])), (a_t_factors_parts, .inr (3, [.ref a_t_factors_parts_held, .ref a_t_factors_parts_before, .int c_t_factors_parts_size])), (a_t_factors_parts_held, .inl (cyJ, 12, .inr (.inl f_t_factors_parts_held))), (a_t_found, .inr (3, [.ref a_t_found_held, .ref a_t_found_before, .int c_t_found_size])), (a_t_found_held, .inl (cyJ, 12, .inr (.inl f_t_found_held))), (a_t_foundOtherwise, .inr (3, [.ref a_t_foundOtherwise_held, .ref a_t_foundOtherwise_before, .int c_t_foundOtherwise_size])), (a_t_foundOtherwise_held, .inl (cyJ, 12, .inr (.inl f_t_foundOtherwise_held))), (a_t_foundOtherwise_before, .inl (cyJ, 12, .inr (.inl f_t_foundOtherwise_before)))] s.heap := hP
  have hK0 := hK
  have hl := lv_entry ([.ref a_t]) (n := 5) (Nat.le_of_ble_eq_true rfl)
  rw [lg_entry_eq]
  generalize (lg_sl ([.ref a_t]) ++ List.replicate (5 - (lg_sl ([.ref a_t])).length) Slot.unset).toArray = ls at hl ⊢
  have hl : lv_has ls 5 [(0, .ref a_t)] := hl
  have h := hF
  clear hF
  unfold F_X7_digest at h
  refine lv_ldc2 hx hb hown (hts (.constantLong RX7 285 (8029)) (by decide +kernel)) dX7_digest_0 ?_
  refine lv_lstore_n (lv' := [(1, .long (8029 : Int64)), (0, .ref a_t)]) hx hb dX7_digest_3 rfl hl (by decide) rfl (fun ls hl => ?_)
  refine lv_iconst (v := 0) hx hb dX7_digest_4 (by decide) ?_
  refine lv_istore_n (lv' := [(3, .int (0 : Int32)), (1, .long (8029 : Int64)), (0, .ref a_t)]) hx hb dX7_digest_5 rfl hl (by decide) rfl (fun ls hl => ?_)
  refine LQ2_k1 (M := fun (y1_6 : Int64) (y3_6 : Int32) => ∀ (ls : Array Slot), lv_has ls 5 [(0, .ref a_t), (1, .long y1_6), (3, .int y3_6)] → W p l e rmX7_digest s m ([.ref a_t] : List Value).toArray below meth c s.heap [] 0 0 (vx_MQ below (va_Ql (fun (r : Int64) (_ : Unit) => xc = 0 ∧ r = r0) (fun _ t => wQA D [(a_t, .inr (6, [.ref a_t_forms, .ref a_t_roll, .ref a_t_row, .ref a_t_rows, .ref a_t_factors, .ref a_t_found, .ref a_t_foundOtherwise, .int c_t_acts, .int c_t_refusals, .int c_t_knocks])), (a_t_forms, .inl (cyJ, 6, .inr (.inl f_t_forms))), (a_t_roll, .inr (3, [.ref a_t_roll_held, .ref a_t_roll_before, .int c_t_roll_size])), (a_t_roll_held, .inl (cyJ, 12, .inr (.inl f_t_roll_held))), (a_t_row, .inr (5, [.long c_t_row_taps, .long c_t_row_cells])), (a_t_rows, .inr (4, [.long o_c_t_rows_first, .long o_c_t_rows_ofOne, .long o_c_t_rows_ofOther, .long o_c_t_rows_second, .long o_c_t_rows_secondOfOne, .long o_c_t_rows_secondOfOther])), (a_t_factors, .inr (2, [.ref a_t_factors_parts])), (a_t_factors_parts, .inr (3, [.ref a_t_factors_parts_held, .ref a_t_factors_parts_before, .int o_c_t_factors_parts_size])), (a_t_factors_parts_held, .inl (cyJ, 12, .inr (.inl o_f_t_factors_parts_held))), (a_t_found, .inr (3, [.ref a_t_found_held, .ref a_t_found_before, .int o_c_t_found_size])), (a_t_found_held, .inl (cyJ, 12, .inr (.inl o_f_t_found_held))), (a_t_foundOtherwise, .inr (3, [.ref a_t_foundOtherwise_held, .ref a_t_foundOtherwise_before, .int o_c_t_foundOtherwise_size])), (a_t_foundOtherwise_held, .inl (cyJ, 12, .inr (.inl o_f_t_foundOtherwise_held))), (a_t_foundOtherwise_before, .inl (cyJ, 12, .inr (.inl o_f_t_foundOtherwise_before)))] A t) A) (vx_X (fun (_ : Unit) => ¬ xc = 0) (fun E _ t => E = xcls xc ∧ wQA D [(a_t, .inr (6, [.ref a_t_forms, .ref a_t_roll, .ref a_t_row, .ref a_t_rows, .ref a_t_factors, .ref a_t_found, .ref a_t_foundOtherwise, .int c_t_acts, .int c_t_refusals, .int c_t_knocks])), (a_t_forms, .inl (cyJ, 6, .inr (.inl f_t_forms))), (a_t_roll, .inr (3, [.ref a_t_roll_held, .ref a_t_roll_before, .int c_t_roll_size])), (a_t_roll_held, .inl (cyJ, 12, .inr (.inl f_t_roll_held))), (a_t_row, .inr (5, [.long c_t_row_taps, .long c_t_row_cells])), (a_t_rows, .inr (4, [.long o_c_t_rows_first, .long o_c_t_rows_ofOne, .long o_c_t_rows_ofOther, .long o_c_t_rows_second, .long o_c_t_rows_secondOfOne, .long o_c_t_rows_secondOfOther])), (a_t_factors, .inr (2, [.ref a_t_factors_parts])), (a_t_factors_parts, .inr (3, [.ref a_t_factors_parts_held, .ref a_t_factors_parts_before, .int o_c_t_factors_parts_size])), (a_t_factors_parts_held, .inl (cyJ, 12, .inr (.inl o_f_t_factors_parts_held))), (a_t_found, .inr (3, [.ref a_t_found_held, .ref a_t_found_before, .int o_c_t_found_size])), (a_t_found_held, .inl (cyJ, 12, .inr (.inl o_f_t_found_held))), (a_t_foundOtherwise, .inr (3, [.ref a_t_foundOtherwise_held, .ref a_t_foundOtherwise_before, .int o_c_t_foundOtherwise_size])), (a_t_foundOtherwise_held, .inl (cyJ, 12, .inr (.inl o_f_t_foundOtherwise_held))), (a_t_foundOtherwise_before, .inl (cyJ, 12, .inr (.inl o_f_t_foundOtherwise_before)))] A t) A) ([.ref a_t] : List Value).toArray s 66 396 A) (F0 m 6 ls [])) ?_ _ _ _ h ls (lv_sub hl [2, 1, 0] rfl)
  intro k29 hk29 ih6 hih6 y1_6 y3_6 h ls hl
  unfold S_X7_digest_6 at h
  refine lv_iload_n hx hb dX7_digest_6 rfl (lv_at hl 2 rfl) ?_
  refine lv_bipush (v := 6) hx hb dX7_digest_7 (by decide) ?_
  refine lv_icmp_ge (tgt := 29) hx hb dX7_digest_9 (by decide) (fun c9 => ?_) (fun c9 => ?_)
  · have h := it_ c9 h
    rw [hk29] at h
    refine lv_lload_n hx hb dX7_digest_29 rfl (lv_at hl 1 rfl) ?_
    refine lv_aload_n hx hb dX7_digest_30 rfl (lv_at hl 0 rfl) ?_
    refine va_get (D := D) (ci := 6) (v := .ref a_t_roll) (C := RX7) (T := TX7) (N := 10) hx hb hts hinX7 hown hK hP 0 rfl rfl 1 (by decide) hfl16 (fun _ h9 => h9) rfl dX7_digest_31 ?_
    refine va_getN (D := D) (ci := 3) (v := .int c_t_roll_size) (C := RX3) (T := TX3) (N := 3) hx hb hts hinX3 hown hK hP 2 rfl rfl 2 (by decide) hfl176 (fun _ h9 => h9) rfl dX7_digest_34 ?_
    refine lv_i2l (v := c_t_roll_size.toInt64) hx hb dX7_digest_37 rfl ?_
    obtain ⟨r38, hc38, h⟩ := obn_h h
    refine pz_callS (As := [.long y1_6, .long c_t_roll_size.toInt64]) (rest := []) hcf (c_X7_mixed l y1_6 c_t_roll_size.toInt64 r38 hc38) (va_cwS 2 hts gX7_digest_X7_mixed rfl rfl rfl ydX7_mixed ⟨Nat.le_of_ble_eq_true rfl, Nat.le_of_ble_eq_true rfl⟩) hnw rfl hl.1 rfl (Nat.le_of_ble_eq_true rfl) dX7_digest_38 ⟨Nat.le_of_ble_eq_true rfl, Nat.le_of_ble_eq_true rfl⟩ ?_
    refine lv_lstore_n (lv' := [(1, .long r38), (0, .ref a_t), (3, .int y3_6)]) hx hb dX7_digest_41 rfl hl (by decide) rfl (fun ls hl => ?_)
    refine lv_iconst (v := 0) hx hb dX7_digest_42 (by decide) ?_
    refine lv_istore_n (lv' := [(3, .int (0 : Int32)), (1, .long r38), (0, .ref a_t)]) hx hb dX7_digest_43 rfl hl (by decide) rfl (fun ls hl => ?_)
    refine LQ2_k1 (M := fun (y1_44 : Int64) (y3_44 : Int32) => ∀ (ls : Array Slot), lv_has ls 5 [(0, .ref a_t), (1, .long y1_44), (3, .int y3_44)] → W p l e rmX7_digest s m ([.ref a_t] : List Value).toArray below meth c s.heap [] 0 0 (vx_MQ below (va_Ql (fun (r : Int64) (_ : Unit) => xc = 0 ∧ r = r0) (fun _ t => wQA D [(a_t, .inr (6, [.ref a_t_forms, .ref a_t_roll, .ref a_t_row, .ref a_t_rows, .ref a_t_factors, .ref a_t_found, .ref a_t_foundOtherwise, .int c_t_acts, .int c_t_refusals, .int c_t_knocks])), (a_t_forms, .inl (cyJ, 6, .inr (.inl f_t_forms))), (a_t_roll, .inr (3, [.ref a_t_roll_held, .ref a_t_roll_before, .int c_t_roll_size])), (a_t_roll_held, .inl (cyJ, 12, .inr (.inl f_t_roll_held))), (a_t_row, .inr (5, [.long c_t_row_taps, .long c_t_row_cells])), (a_t_rows, .inr (4, [.long o_c_t_rows_first, .long o_c_t_rows_ofOne, .long o_c_t_rows_ofOther, .long o_c_t_rows_second, .long o_c_t_rows_secondOfOne, .long o_c_t_rows_secondOfOther])), (a_t_factors, .inr (2, [.ref a_t_factors_parts])), (a_t_factors_parts, .inr (3, [.ref a_t_factors_parts_held, .ref a_t_factors_parts_before, .int o_c_t_factors_parts_size])), (a_t_factors_parts_held, .inl (cyJ, 12, .inr (.inl o_f_t_factors_parts_held))), (a_t_found, .inr (3, [.ref a_t_found_held, .ref a_t_found_before, .int o_c_t_found_size])), (a_t_found_held, .inl (cyJ, 12, .inr (.inl o_f_t_found_held))), (a_t_foundOtherwise, .inr (3, [.ref a_t_foundOtherwise_held, .ref a_t_foundOtherwise_before, .int o_c_t_foundOtherwise_size])), (a_t_foundOtherwise_held, .inl (cyJ, 12, .inr (.inl o_f_t_foundOtherwise_held))), (a_t_foundOtherwise_before, .inl (cyJ, 12, .inr (.inl o_f_t_foundOtherwise_before)))] A t) A) (vx_X (fun (_ : Unit) => ¬ xc = 0) (fun E _ t => E = xcls xc ∧ wQA D [(a_t, .inr (6, [.ref a_t_forms, .ref a_t_roll, .ref a_t_row, .ref a_t_rows, .ref a_t_factors, .ref a_t_found, .ref a_t_foundOtherwise, .int c_t_acts, .int c_t_refusals, .int c_t_knocks])), (a_t_forms, .inl (cyJ, 6, .inr (.inl f_t_forms))), (a_t_roll, .inr (3, [.ref a_t_roll_held, .ref a_t_roll_before, .int c_t_roll_size])), (a_t_roll_held, .inl (cyJ, 12, .inr (.inl f_t_roll_held))), (a_t_row, .inr (5, [.long c_t_row_taps, .long c_t_row_cells])), (a_t_rows, .inr (4, [.long o_c_t_rows_first, .long o_c_t_rows_ofOne, .long o_c_t_rows_ofOther, .long o_c_t_rows_second, .long o_c_t_rows_secondOfOne, .long o_c_t_rows_secondOfOther])), (a_t_factors, .inr (2, [.ref a_t_factors_parts])), (a_t_factors_parts, .inr (3, [.ref a_t_factors_parts_held, .ref a_t_factors_parts_before, .int o_c_t_factors_parts_size])), (a_t_factors_parts_held, .inl (cyJ, 12, .inr (.inl o_f_t_factors_parts_held))), (a_t_found, .inr (3, [.ref a_t_found_held, .ref a_t_found_before, .int o_c_t_found_size])), (a_t_found_held, .inl (cyJ, 12, .inr (.inl o_f_t_found_held))), (a_t_foundOtherwise, .inr (3, [.ref a_t_foundOtherwise_held, .ref a_t_foundOtherwise_before, .int o_c_t_foundOtherwise_size])), (a_t_foundOtherwise_held, .inl (cyJ, 12, .inr (.inl o_f_t_foundOtherwise_held))), (a_t_foundOtherwise_before, .inl (cyJ, 12, .inr (.inl o_f_t_foundOtherwise_before)))] A t) A) ([.ref a_t] : List Value).toArray s 66 396 A) (F0 m 44 ls [])) ?_ _ _ _ h ls (lv_sub hl [2, 1, 0] rfl)
    intro k95 hk95 ih44 hih44 y1_44 y3_44 h ls hl
    unfold S_X7_digest_44 at h
    refine lv_iload_n hx hb dX7_digest_44 rfl (lv_at hl 2 rfl) ?_
    refine lv_aload_n hx hb dX7_digest_45 rfl (lv_at hl 0 rfl) ?_
    refine va_get (D := D) (ci := 6) (v := .ref a_t_roll) (C := RX7) (T := TX7) (N := 10) hx hb hts hinX7 hown hK hP 0 rfl rfl 1 (by decide) hfl16 (fun _ h9 => h9) rfl dX7_digest_46 ?_
    refine va_getN (D := D) (ci := 3) (v := .int c_t_roll_size) (C := RX3) (T := TX3) (N := 3) hx hb hts hinX3 hown hK hP 2 rfl rfl 2 (by decide) hfl176 (fun _ h9 => h9) rfl dX7_digest_49 ?_
    refine lv_icmp_ge (tgt := 95) hx hb dX7_digest_52 (by decide) (fun c52 => ?_) (fun c52 => ?_)
    · have h := it_ c52 h
      rw [hk95] at h
      refine lv_lload_n hx hb dX7_digest_95 rfl (lv_at hl 1 rfl) ?_
      refine lv_aload_n hx hb dX7_digest_96 rfl (lv_at hl 0 rfl) ?_
      refine va_get (D := D) (ci := 6) (v := .ref a_t_row) (C := RX7) (T := TX7) (N := 10) hx hb hts hinX7 hown hK hP 0 rfl rfl 2 (by decide) hfl23 (fun _ h9 => h9) rfl dX7_digest_97 ?_
      refine va_getN (D := D) (ci := 5) (v := .long c_t_row_taps) (C := RX5) (T := TX5) (N := 2) hx hb hts hinX5 hown hK hP 4 rfl rfl 0 (by decide) hfl218 (fun _ h9 => h9) rfl dX7_digest_100 ?_
      obtain ⟨r103, hc103, h⟩ := obn_h h
      refine pz_callS (As := [.long y1_44, .long c_t_row_taps]) (rest := []) hcf (c_X7_mixed l y1_44 c_t_row_taps r103 hc103) (va_cwS 2 hts gX7_digest_X7_mixed rfl rfl rfl ydX7_mixed ⟨Nat.le_of_ble_eq_true rfl, Nat.le_of_ble_eq_true rfl⟩) hnw rfl hl.1 rfl (Nat.le_of_ble_eq_true rfl) dX7_digest_103 ⟨Nat.le_of_ble_eq_true rfl, Nat.le_of_ble_eq_true rfl⟩ ?_
      refine lv_lstore_n (lv' := [(1, .long r103), (0, .ref a_t), (3, .int y3_44)]) hx hb dX7_digest_106 rfl hl (by decide) rfl (fun ls hl => ?_)
      refine lv_aload_n hx hb dX7_digest_107 rfl (lv_at hl 1 rfl) ?_
      refine va_get (D := D) (ci := 6) (v := .ref a_t_row) (C := RX7) (T := TX7) (N := 10) hx hb hts hinX7 hown hK hP 0 rfl rfl 2 (by decide) hfl23 (fun _ h9 => h9) rfl dX7_digest_108 ?_
      refine va_getN (D := D) (ci := 5) (v := .long c_t_row_taps) (C := RX5) (T := TX5) (N := 2) hx hb hts hinX5 hown hK hP 4 rfl rfl 0 (by decide) hfl218 (fun _ h9 => h9) rfl dX7_digest_111 ?_
      obtain ⟨r114, hc114, h⟩ := obn_h h
      refine pz_callS (As := [.long c_t_row_taps]) (rest := []) hcf (c_X0_degreeOf l c_t_row_taps r114 hc114) (va_cwS 1 hts gX7_digest_X0_degreeOf rfl rfl rfl ydX0_degreeOf ⟨Nat.le_of_ble_eq_true rfl, Nat.le_of_ble_eq_true rfl⟩) hnw rfl hl.1 rfl (Nat.le_of_ble_eq_true rfl) dX7_digest_114 ⟨Nat.le_of_ble_eq_true rfl, Nat.le_of_ble_eq_true rfl⟩ ?_
      refine lv_istore_n (lv' := [(3, .int r114), (1, .long r103), (0, .ref a_t)]) hx hb dX7_digest_117 rfl hl (by decide) rfl (fun ls hl => ?_)
      refine lv_iconst (v := 0) hx hb dX7_digest_118 (by decide) ?_
      refine lv_istore (lv' := [(4, .int (0 : Int32)), (3, .int r114), (1, .long r103), (0, .ref a_t)]) hx hb dX7_digest_119 hl (by decide) rfl (fun ls hl => ?_)
      refine LQ2_k1 (M := fun (y1_121 : Int64) (y4_121 : Int32) => ∀ (ls : Array Slot), lv_has ls 5 [(0, .ref a_t), (1, .long y1_121), (3, .int r114), (4, .int y4_121)] → W p l e rmX7_digest s m ([.ref a_t] : List Value).toArray below meth c s.heap [] 0 0 (vx_MQ below (va_Ql (fun (r : Int64) (_ : Unit) => xc = 0 ∧ r = r0) (fun _ t => wQA D [(a_t, .inr (6, [.ref a_t_forms, .ref a_t_roll, .ref a_t_row, .ref a_t_rows, .ref a_t_factors, .ref a_t_found, .ref a_t_foundOtherwise, .int c_t_acts, .int c_t_refusals, .int c_t_knocks])), (a_t_forms, .inl (cyJ, 6, .inr (.inl f_t_forms))), (a_t_roll, .inr (3, [.ref a_t_roll_held, .ref a_t_roll_before, .int c_t_roll_size])), (a_t_roll_held, .inl (cyJ, 12, .inr (.inl f_t_roll_held))), (a_t_row, .inr (5, [.long c_t_row_taps, .long c_t_row_cells])), (a_t_rows, .inr (4, [.long o_c_t_rows_first, .long o_c_t_rows_ofOne, .long o_c_t_rows_ofOther, .long o_c_t_rows_second, .long o_c_t_rows_secondOfOne, .long o_c_t_rows_secondOfOther])), (a_t_factors, .inr (2, [.ref a_t_factors_parts])), (a_t_factors_parts, .inr (3, [.ref a_t_factors_parts_held, .ref a_t_factors_parts_before, .int o_c_t_factors_parts_size])), (a_t_factors_parts_held, .inl (cyJ, 12, .inr (.inl o_f_t_factors_parts_held))), (a_t_found, .inr (3, [.ref a_t_found_held, .ref a_t_found_before, .int o_c_t_found_size])), (a_t_found_held, .inl (cyJ, 12, .inr (.inl o_f_t_found_held))), (a_t_foundOtherwise, .inr (3, [.ref a_t_foundOtherwise_held, .ref a_t_foundOtherwise_before, .int o_c_t_foundOtherwise_size])), (a_t_foundOtherwise_held, .inl (cyJ, 12, .inr (.inl o_f_t_foundOtherwise_held))), (a_t_foundOtherwise_before, .inl (cyJ, 12, .inr (.inl o_f_t_foundOtherwise_before)))] A t) A) (vx_X (fun (_ : Unit) => ¬ xc = 0) (fun E _ t => E = xcls xc ∧ wQA D [(a_t, .inr (6, [.ref a_t_forms, .ref a_t_roll, .ref a_t_row, .ref a_t_rows, .ref a_t_factors, .ref a_t_found, .ref a_t_foundOtherwise, .int c_t_acts, .int c_t_refusals, .int c_t_knocks])), (a_t_forms, .inl (cyJ, 6, .inr (.inl f_t_forms))), (a_t_roll, .inr (3, [.ref a_t_roll_held, .ref a_t_roll_before, .int c_t_roll_size])), (a_t_roll_held, .inl (cyJ, 12, .inr (.inl f_t_roll_held))), (a_t_row, .inr (5, [.long c_t_row_taps, .long c_t_row_cells])), (a_t_rows, .inr (4, [.long o_c_t_rows_first, .long o_c_t_rows_ofOne, .long o_c_t_rows_ofOther, .long o_c_t_rows_second, .long o_c_t_rows_secondOfOne, .long o_c_t_rows_secondOfOther])), (a_t_factors, .inr (2, [.ref a_t_factors_parts])), (a_t_factors_parts, .inr (3, [.ref a_t_factors_parts_held, .ref a_t_factors_parts_before, .int o_c_t_factors_parts_size])), (a_t_factors_parts_held, .inl (cyJ, 12, .inr (.inl o_f_t_factors_parts_held))), (a_t_found, .inr (3, [.ref a_t_found_held, .ref a_t_found_before, .int o_c_t_found_size])), (a_t_found_held, .inl (cyJ, 12, .inr (.inl o_f_t_found_held))), (a_t_foundOtherwise, .inr (3, [.ref a_t_foundOtherwise_held, .ref a_t_foundOtherwise_before, .int o_c_t_foundOtherwise_size])), (a_t_foundOtherwise_held, .inl (cyJ, 12, .inr (.inl o_f_t_foundOtherwise_held))), (a_t_foundOtherwise_before, .inl (cyJ, 12, .inr (.inl o_f_t_foundOtherwise_before)))] A t) A) ([.ref a_t] : List Value).toArray s 66 396 A) (F0 m 121 ls [])) ?_ _ _ _ h ls (lv_sub hl [3, 2, 1, 0] rfl)
      intro k158 hk158 ih121 hih121 y1_121 y4_121 h ls hl
      unfold S_X7_digest_121 at h
      have hj148 : ∀ (j4_148 : Int32) (js0_148 : Int64) (js1_148 : Int64), J_X7_digest_148 ih121 j4_148 js0_148 js1_148 = some (xc, r0, o_c_t_rows_first, o_c_t_rows_ofOne, o_c_t_rows_ofOther, o_c_t_rows_second, o_c_t_rows_secondOfOne, o_c_t_rows_secondOfOther, o_c_t_factors_parts_size, o_f_t_factors_parts_held, o_c_t_found_size, o_f_t_found_held, o_c_t_foundOtherwise_size, o_f_t_foundOtherwise_held, o_f_t_foundOtherwise_before) → ∀ (ls : Array Slot), lv_has ls 5 [(0, .ref a_t), (3, .int r114), (4, .int j4_148)] → W p l e rmX7_digest s m ([.ref a_t] : List Value).toArray below meth c s.heap [] 0 0 (vx_MQ below (va_Ql (fun (r : Int64) (_ : Unit) => xc = 0 ∧ r = r0) (fun _ t => wQA D [(a_t, .inr (6, [.ref a_t_forms, .ref a_t_roll, .ref a_t_row, .ref a_t_rows, .ref a_t_factors, .ref a_t_found, .ref a_t_foundOtherwise, .int c_t_acts, .int c_t_refusals, .int c_t_knocks])), (a_t_forms, .inl (cyJ, 6, .inr (.inl f_t_forms))), (a_t_roll, .inr (3, [.ref a_t_roll_held, .ref a_t_roll_before, .int c_t_roll_size])), (a_t_roll_held, .inl (cyJ, 12, .inr (.inl f_t_roll_held))), (a_t_row, .inr (5, [.long c_t_row_taps, .long c_t_row_cells])), (a_t_rows, .inr (4, [.long o_c_t_rows_first, .long o_c_t_rows_ofOne, .long o_c_t_rows_ofOther, .long o_c_t_rows_second, .long o_c_t_rows_secondOfOne, .long o_c_t_rows_secondOfOther])), (a_t_factors, .inr (2, [.ref a_t_factors_parts])), (a_t_factors_parts, .inr (3, [.ref a_t_factors_parts_held, .ref a_t_factors_parts_before, .int o_c_t_factors_parts_size])), (a_t_factors_parts_held, .inl (cyJ, 12, .inr (.inl o_f_t_factors_parts_held))), (a_t_found, .inr (3, [.ref a_t_found_held, .ref a_t_found_before, .int o_c_t_found_size])), (a_t_found_held, .inl (cyJ, 12, .inr (.inl o_f_t_found_held))), (a_t_foundOtherwise, .inr (3, [.ref a_t_foundOtherwise_held, .ref a_t_foundOtherwise_before, .int o_c_t_foundOtherwise_size])), (a_t_foundOtherwise_held, .inl (cyJ, 12, .inr (.inl o_f_t_foundOtherwise_held))), (a_t_foundOtherwise_before, .inl (cyJ, 12, .inr (.inl o_f_t_foundOtherwise_before)))] A t) A) (vx_X (fun (_ : Unit) => ¬ xc = 0) (fun E _ t => E = xcls xc ∧ wQA D [(a_t, .inr (6, [.ref a_t_forms, .ref a_t_roll, .ref a_t_row, .ref a_t_rows, .ref a_t_factors, .ref a_t_found, .ref a_t_foundOtherwise, .int c_t_acts, .int c_t_refusals, .int c_t_knocks])), (a_t_forms, .inl (cyJ, 6, .inr (.inl f_t_forms))), (a_t_roll, .inr (3, [.ref a_t_roll_held, .ref a_t_roll_before, .int c_t_roll_size])), (a_t_roll_held, .inl (cyJ, 12, .inr (.inl f_t_roll_held))), (a_t_row, .inr (5, [.long c_t_row_taps, .long c_t_row_cells])), (a_t_rows, .inr (4, [.long o_c_t_rows_first, .long o_c_t_rows_ofOne, .long o_c_t_rows_ofOther, .long o_c_t_rows_second, .long o_c_t_rows_secondOfOne, .long o_c_t_rows_secondOfOther])), (a_t_factors, .inr (2, [.ref a_t_factors_parts])), (a_t_factors_parts, .inr (3, [.ref a_t_factors_parts_held, .ref a_t_factors_parts_before, .int o_c_t_factors_parts_size])), (a_t_factors_parts_held, .inl (cyJ, 12, .inr (.inl o_f_t_factors_parts_held))), (a_t_found, .inr (3, [.ref a_t_found_held, .ref a_t_found_before, .int o_c_t_found_size])), (a_t_found_held, .inl (cyJ, 12, .inr (.inl o_f_t_found_held))), (a_t_foundOtherwise, .inr (3, [.ref a_t_foundOtherwise_held, .ref a_t_foundOtherwise_before, .int o_c_t_foundOtherwise_size])), (a_t_foundOtherwise_held, .inl (cyJ, 12, .inr (.inl o_f_t_foundOtherwise_held))), (a_t_foundOtherwise_before, .inl (cyJ, 12, .inr (.inl o_f_t_foundOtherwise_before)))] A t) A) ([.ref a_t] : List Value).toArray s 66 396 A) (F0 m 148 ls [.long js1_148, .long js0_148]) := by
        intro j4_148 js0_148 js1_148 h ls hl
        unfold J_X7_digest_148 at h
        obtain ⟨r148, hc148, h⟩ := obn_h h
        refine pz_callS (As := [.long js0_148, .long js1_148]) (rest := []) hcf (c_X7_mixed l js0_148 js1_148 r148 hc148) (va_cwS 2 hts gX7_digest_X7_mixed rfl rfl rfl ydX7_mixed ⟨Nat.le_of_ble_eq_true rfl, Nat.le_of_ble_eq_true rfl⟩) hnw rfl hl.1 rfl (Nat.le_of_ble_eq_true rfl) dX7_digest_148 ⟨Nat.le_of_ble_eq_true rfl, Nat.le_of_ble_eq_true rfl⟩ ?_
        refine lv_lstore_n (lv' := [(1, .long r148), (0, .ref a_t), (3, .int r114), (4, .int j4_148)]) hx hb dX7_digest_151 rfl hl (by decide) rfl (fun ls hl => ?_)
        obtain ⟨x4_152, e_x4_152⟩ : ∃ z : Int32, z = j4_148 + 1 := ⟨_, rfl⟩
        have h := bnd_h e_x4_152 h
        refine lv_iinc (v := x4_152) (lv' := [(4, .int x4_152), (1, .long r148), (0, .ref a_t), (3, .int r114)]) hx hb dX7_digest_152 hl (k := 3) rfl (by rw [e_x4_152]; rfl) (by decide) rfl (fun ls hl => ?_)
        refine lv_goto (tgt := 121) hx hb dX7_digest_155 (by decide) ?_
        exact hih121 r148 x4_152 h ls (lv_sub hl [2, 1, 3, 0] rfl)
      refine lv_iload hx hb dX7_digest_121 (lv_at hl 3 rfl) ?_
      refine lv_iload_n hx hb dX7_digest_123 rfl (lv_at hl 2 rfl) ?_
      refine lv_icmp_ge (tgt := 158) hx hb dX7_digest_124 (by decide) (fun c124 => ?_) (fun c124 => ?_)
      · have h := it_ c124 h
        rw [hk158] at h
        refine lv_iconst (v := 0) hx hb dX7_digest_158 (by decide) ?_
        refine lv_istore (lv' := [(4, .int (0 : Int32)), (0, .ref a_t), (1, .long y1_121), (3, .int r114)]) hx hb dX7_digest_159 hl (by decide) rfl (fun ls hl => ?_)
        refine LQ2_f1 (M := fun nf161 (y1_161 : Int64) (y4_161 : Int32) => ∀ (cn161 sn161 : Nat), cn161 + 1 * nf161 ≤ 66 → sn161 + 6 * nf161 ≤ 396 → ∀ (H : Heap) (locs : List Loc), va_P D vwCl [(a_t, .inr (6, [.ref a_t_forms, .ref a_t_roll, .ref a_t_row, .ref a_t_rows, .ref a_t_factors, .ref a_t_found, .ref a_t_foundOtherwise, .int c_t_acts, .int c_t_refusals, .int c_t_knocks])), (a_t_forms, .inl (cyJ, 6, .inr (.inl f_t_forms))), (a_t_roll, .inr (3, [.ref a_t_roll_held, .ref a_t_roll_before, .int c_t_roll_size])), (a_t_roll_held, .inl (cyJ, 12, .inr (.inl f_t_roll_held))), (a_t_row, .inr (5, [.long c_t_row_taps, .long c_t_row_cells])), (a_t_rows, .inr (4, [.long c_t_rows_first, .long c_t_rows_ofOne, .long c_t_rows_ofOther, .long c_t_rows_second, .long c_t_rows_secondOfOne, .long c_t_rows_secondOfOther])), (a_t_factors, .inr (2, [.ref a_t_factors_parts])), (a_t_factors_parts, .inr (3, [.ref a_t_factors_parts_held, .ref a_t_factors_parts_before, .int c_t_factors_parts_size])), (a_t_factors_parts_held, .inl (cyJ, 12, .inr (.inl f_t_factors_parts_held))), (a_t_found, .inr (3, [.ref a_t_found_held, .ref a_t_found_before, .int c_t_found_size])), (a_t_found_held, .inl (cyJ, 12, .inr (.inl f_t_found_held))), (a_t_foundOtherwise, .inr (3, [.ref a_t_foundOtherwise_held, .ref a_t_foundOtherwise_before, .int c_t_foundOtherwise_size])), (a_t_foundOtherwise_held, .inl (cyJ, 12, .inr (.inl f_t_foundOtherwise_held))), (a_t_foundOtherwise_before, .inl (cyJ, 12, .inr (.inl f_t_foundOtherwise_before)))] H → va_D A [(a_t, .inr (6, [.ref a_t_forms, .ref a_t_roll, .ref a_t_row, .ref a_t_rows, .ref a_t_factors, .ref a_t_found, .ref a_t_foundOtherwise, .int c_t_acts, .int c_t_refusals, .int c_t_knocks])), (a_t_forms, .inl (cyJ, 6, .inr (.inl f_t_forms))), (a_t_roll, .inr (3, [.ref a_t_roll_held, .ref a_t_roll_before, .int c_t_roll_size])), (a_t_roll_held, .inl (cyJ, 12, .inr (.inl f_t_roll_held))), (a_t_row, .inr (5, [.long c_t_row_taps, .long c_t_row_cells])), (a_t_rows, .inr (4, [.long c_t_rows_first, .long c_t_rows_ofOne, .long c_t_rows_ofOther, .long c_t_rows_second, .long c_t_rows_secondOfOne, .long c_t_rows_secondOfOther])), (a_t_factors, .inr (2, [.ref a_t_factors_parts])), (a_t_factors_parts, .inr (3, [.ref a_t_factors_parts_held, .ref a_t_factors_parts_before, .int c_t_factors_parts_size])), (a_t_factors_parts_held, .inl (cyJ, 12, .inr (.inl f_t_factors_parts_held))), (a_t_found, .inr (3, [.ref a_t_found_held, .ref a_t_found_before, .int c_t_found_size])), (a_t_found_held, .inl (cyJ, 12, .inr (.inl f_t_found_held))), (a_t_foundOtherwise, .inr (3, [.ref a_t_foundOtherwise_held, .ref a_t_foundOtherwise_before, .int c_t_foundOtherwise_size])), (a_t_foundOtherwise_held, .inl (cyJ, 12, .inr (.inl f_t_foundOtherwise_held))), (a_t_foundOtherwise_before, .inl (cyJ, 12, .inr (.inl f_t_foundOtherwise_before)))] → va_S A s.heap H locs → ∀ (ls : Array Slot), lv_has ls 5 [(0, .ref a_t), (1, .long y1_161), (4, .int y4_161)] → W p l e rmX7_digest s m ([.ref a_t] : List Value).toArray below meth c H locs (cn161 + 0) (sn161 + 0) (vx_MQ below (va_Ql (fun (r : Int64) (_ : Unit) => xc = 0 ∧ r = r0) (fun _ t => wQA D [(a_t, .inr (6, [.ref a_t_forms, .ref a_t_roll, .ref a_t_row, .ref a_t_rows, .ref a_t_factors, .ref a_t_found, .ref a_t_foundOtherwise, .int c_t_acts, .int c_t_refusals, .int c_t_knocks])), (a_t_forms, .inl (cyJ, 6, .inr (.inl f_t_forms))), (a_t_roll, .inr (3, [.ref a_t_roll_held, .ref a_t_roll_before, .int c_t_roll_size])), (a_t_roll_held, .inl (cyJ, 12, .inr (.inl f_t_roll_held))), (a_t_row, .inr (5, [.long c_t_row_taps, .long c_t_row_cells])), (a_t_rows, .inr (4, [.long o_c_t_rows_first, .long o_c_t_rows_ofOne, .long o_c_t_rows_ofOther, .long o_c_t_rows_second, .long o_c_t_rows_secondOfOne, .long o_c_t_rows_secondOfOther])), (a_t_factors, .inr (2, [.ref a_t_factors_parts])), (a_t_factors_parts, .inr (3, [.ref a_t_factors_parts_held, .ref a_t_factors_parts_before, .int o_c_t_factors_parts_size])), (a_t_factors_parts_held, .inl (cyJ, 12, .inr (.inl o_f_t_factors_parts_held))), (a_t_found, .inr (3, [.ref a_t_found_held, .ref a_t_found_before, .int o_c_t_found_size])), (a_t_found_held, .inl (cyJ, 12, .inr (.inl o_f_t_found_held))), (a_t_foundOtherwise, .inr (3, [.ref a_t_foundOtherwise_held, .ref a_t_foundOtherwise_before, .int o_c_t_foundOtherwise_size])), (a_t_foundOtherwise_held, .inl (cyJ, 12, .inr (.inl o_f_t_foundOtherwise_held))), (a_t_foundOtherwise_before, .inl (cyJ, 12, .inr (.inl o_f_t_foundOtherwise_before)))] A t) A) (vx_X (fun (_ : Unit) => ¬ xc = 0) (fun E _ t => E = xcls xc ∧ wQA D [(a_t, .inr (6, [.ref a_t_forms, .ref a_t_roll, .ref a_t_row, .ref a_t_rows, .ref a_t_factors, .ref a_t_found, .ref a_t_foundOtherwise, .int c_t_acts, .int c_t_refusals, .int c_t_knocks])), (a_t_forms, .inl (cyJ, 6, .inr (.inl f_t_forms))), (a_t_roll, .inr (3, [.ref a_t_roll_held, .ref a_t_roll_before, .int c_t_roll_size])), (a_t_roll_held, .inl (cyJ, 12, .inr (.inl f_t_roll_held))), (a_t_row, .inr (5, [.long c_t_row_taps, .long c_t_row_cells])), (a_t_rows, .inr (4, [.long o_c_t_rows_first, .long o_c_t_rows_ofOne, .long o_c_t_rows_ofOther, .long o_c_t_rows_second, .long o_c_t_rows_secondOfOne, .long o_c_t_rows_secondOfOther])), (a_t_factors, .inr (2, [.ref a_t_factors_parts])), (a_t_factors_parts, .inr (3, [.ref a_t_factors_parts_held, .ref a_t_factors_parts_before, .int o_c_t_factors_parts_size])), (a_t_factors_parts_held, .inl (cyJ, 12, .inr (.inl o_f_t_factors_parts_held))), (a_t_found, .inr (3, [.ref a_t_found_held, .ref a_t_found_before, .int o_c_t_found_size])), (a_t_found_held, .inl (cyJ, 12, .inr (.inl o_f_t_found_held))), (a_t_foundOtherwise, .inr (3, [.ref a_t_foundOtherwise_held, .ref a_t_foundOtherwise_before, .int o_c_t_foundOtherwise_size])), (a_t_foundOtherwise_held, .inl (cyJ, 12, .inr (.inl o_f_t_foundOtherwise_held))), (a_t_foundOtherwise_before, .inl (cyJ, 12, .inr (.inl o_f_t_foundOtherwise_before)))] A t) A) ([.ref a_t] : List Value).toArray s 66 396 A) (F0 m 161 ls [])) ?_ 66 _ _ h 0 0 (Nat.le_of_ble_eq_true rfl) (Nat.le_of_ble_eq_true rfl) _ _ hP hD hS ls (lv_sub hl [1, 2, 0] rfl)
        intro nf161 k185 hk185 ih161 hih161 y1_161 y4_161 h cn161 sn161 hcn161 hsn161 H locs hP hD hS ls hl
        unfold S_X7_digest_161 at h
        refine lv_iload hx hb dX7_digest_161 (lv_at hl 2 rfl) ?_
        refine lv_iconst (v := 5) hx hb dX7_digest_163 (by decide) ?_
        refine lv_icmp_gt (tgt := 185) hx hb dX7_digest_164 (by decide) (fun c164 => ?_) (fun c164 => ?_)
        · have h := it_ c164 h
          rw [hk185] at h
          refine W.widen (k := 66) (n := 396) (by omega) (by omega) ?_
          refine lv_lload_n hx hb dX7_digest_185 rfl (lv_at hl 1 rfl) ?_
          refine lv_aload_n hx hb dX7_digest_186 rfl (lv_at hl 0 rfl) ?_
          obtain ⟨r187, c_t_rows_first_187, c_t_rows_ofOne_187, c_t_rows_ofOther_187, c_t_rows_second_187, c_t_rows_secondOfOne_187, c_t_rows_secondOfOther_187, c_t_factors_parts_size_187, f_t_factors_parts_held_187, c_t_found_size_187, f_t_found_held_187, c_t_foundOtherwise_size_187, f_t_foundOtherwise_held_187, f_t_foundOtherwise_before_187, hc187, h⟩ := obn14_h h
          have hPc := hP.sub (ws' := [(a_t, .inr (6, [.ref a_t_forms, .ref a_t_roll, .ref a_t_row, .ref a_t_rows, .ref a_t_factors, .ref a_t_found, .ref a_t_foundOtherwise, .int c_t_acts, .int c_t_refusals, .int c_t_knocks])), (a_t_forms, .inl (cyJ, 6, .inr (.inl f_t_forms))), (a_t_row, .inr (5, [.long c_t_row_taps, .long c_t_row_cells])), (a_t_rows, .inr (4, [.long c_t_rows_first, .long c_t_rows_ofOne, .long c_t_rows_ofOther, .long c_t_rows_second, .long c_t_rows_secondOfOne, .long c_t_rows_secondOfOther])), (a_t_factors, .inr (2, [.ref a_t_factors_parts])), (a_t_factors_parts, .inr (3, [.ref a_t_factors_parts_held, .ref a_t_factors_parts_before, .int c_t_factors_parts_size])), (a_t_factors_parts_held, .inl (cyJ, 12, .inr (.inl f_t_factors_parts_held))), (a_t_found, .inr (3, [.ref a_t_found_held, .ref a_t_found_before, .int c_t_found_size])), (a_t_found_held, .inl (cyJ, 12, .inr (.inl f_t_found_held))), (a_t_foundOtherwise, .inr (3, [.ref a_t_foundOtherwise_held, .ref a_t_foundOtherwise_before, .int c_t_foundOtherwise_size])), (a_t_foundOtherwise_held, .inl (cyJ, 12, .inr (.inl f_t_foundOtherwise_held))), (a_t_foundOtherwise_before, .inl (cyJ, 12, .inr (.inl f_t_foundOtherwise_before)))]) [0, 1, 4, 5, 6, 7, 8, 9, 10, 11, 12, 13] rfl
          have hDc := hD.sub (ws' := [(a_t, .inr (6, [.ref a_t_forms, .ref a_t_roll, .ref a_t_row, .ref a_t_rows, .ref a_t_factors, .ref a_t_found, .ref a_t_foundOtherwise, .int c_t_acts, .int c_t_refusals, .int c_t_knocks])), (a_t_forms, .inl (cyJ, 6, .inr (.inl f_t_forms))), (a_t_row, .inr (5, [.long c_t_row_taps, .long c_t_row_cells])), (a_t_rows, .inr (4, [.long c_t_rows_first, .long c_t_rows_ofOne, .long c_t_rows_ofOther, .long c_t_rows_second, .long c_t_rows_secondOfOne, .long c_t_rows_secondOfOther])), (a_t_factors, .inr (2, [.ref a_t_factors_parts])), (a_t_factors_parts, .inr (3, [.ref a_t_factors_parts_held, .ref a_t_factors_parts_before, .int c_t_factors_parts_size])), (a_t_factors_parts_held, .inl (cyJ, 12, .inr (.inl f_t_factors_parts_held))), (a_t_found, .inr (3, [.ref a_t_found_held, .ref a_t_found_before, .int c_t_found_size])), (a_t_found_held, .inl (cyJ, 12, .inr (.inl f_t_found_held))), (a_t_foundOtherwise, .inr (3, [.ref a_t_foundOtherwise_held, .ref a_t_foundOtherwise_before, .int c_t_foundOtherwise_size])), (a_t_foundOtherwise_held, .inl (cyJ, 12, .inr (.inl f_t_foundOtherwise_held))), (a_t_foundOtherwise_before, .inl (cyJ, 12, .inr (.inl f_t_foundOtherwise_before)))]) [0, 1, 4, 5, 6, 7, 8, 9, 10, 11, 12, 13] (by decide) rfl
          refine hp_i (w1 := [(a_t, .inr (6, [.ref a_t_forms, .ref a_t_roll, .ref a_t_row, .ref a_t_rows, .ref a_t_factors, .ref a_t_found, .ref a_t_foundOtherwise, .int c_t_acts, .int c_t_refusals, .int c_t_knocks])), (a_t_forms, .inl (cyJ, 6, .inr (.inl f_t_forms))), (a_t_row, .inr (5, [.long c_t_row_taps, .long c_t_row_cells])), (a_t_rows, .inr (4, [.long c_t_rows_first_187, .long c_t_rows_ofOne_187, .long c_t_rows_ofOther_187, .long c_t_rows_second_187, .long c_t_rows_secondOfOne_187, .long c_t_rows_secondOfOther_187])), (a_t_factors, .inr (2, [.ref a_t_factors_parts])), (a_t_factors_parts, .inr (3, [.ref a_t_factors_parts_held, .ref a_t_factors_parts_before, .int c_t_factors_parts_size_187])), (a_t_factors_parts_held, .inl (cyJ, 12, .inr (.inl f_t_factors_parts_held_187))), (a_t_found, .inr (3, [.ref a_t_found_held, .ref a_t_found_before, .int c_t_found_size_187])), (a_t_found_held, .inl (cyJ, 12, .inr (.inl f_t_found_held_187))), (a_t_foundOtherwise, .inr (3, [.ref a_t_foundOtherwise_held, .ref a_t_foundOtherwise_before, .int c_t_foundOtherwise_size_187])), (a_t_foundOtherwise_held, .inl (cyJ, 12, .inr (.inl f_t_foundOtherwise_held_187))), (a_t_foundOtherwise_before, .inl (cyJ, 12, .inr (.inl f_t_foundOtherwise_before_187)))]) (wr := [(a_t_roll, .inr (3, [.ref a_t_roll_held, .ref a_t_roll_before, .int c_t_roll_size])), (a_t_roll_held, .inl (cyJ, 12, .inr (.inl f_t_roll_held)))]) (va_runV (As := []) (rest := [.long y1_161]) hcf (c_X7_isSound l D cyJ H.size a_t a_t_forms a_t_roll a_t_row a_t_rows a_t_factors a_t_found a_t_foundOtherwise a_t_factors_parts a_t_factors_parts_held a_t_factors_parts_before a_t_found_held a_t_found_before a_t_foundOtherwise_held a_t_foundOtherwise_before c_t_acts c_t_refusals c_t_knocks f_t_forms c_t_row_taps c_t_row_cells c_t_rows_first c_t_rows_ofOne c_t_rows_ofOther c_t_rows_second c_t_rows_secondOfOne c_t_rows_secondOfOther c_t_factors_parts_size f_t_factors_parts_held c_t_found_size f_t_found_held c_t_foundOtherwise_size f_t_foundOtherwise_held f_t_foundOtherwise_before r187 c_t_rows_first_187 c_t_rows_ofOne_187 c_t_rows_ofOther_187 c_t_rows_second_187 c_t_rows_secondOfOne_187 c_t_rows_secondOfOther_187 c_t_factors_parts_size_187 f_t_factors_parts_held_187 c_t_found_size_187 f_t_found_held_187 c_t_foundOtherwise_size_187 f_t_foundOtherwise_held_187 f_t_foundOtherwise_before_187 hc187) (cwV 0 hts gX7_digest_X7_isSound rfl rfl rfl ydX7_isSound ⟨Nat.le_of_ble_eq_true rfl, Nat.le_of_ble_eq_true rfl⟩) ⟨bl_PD, va_recv hK hP (ci := 6) (q0 := 0) rfl rfl, pr_PD hPc hK0 hDc hnw⟩ rfl rfl hl.1 rfl (lv_room (Nat.le_of_ble_eq_true rfl)) dX7_digest_187 ⟨Nat.le_of_ble_eq_true rfl, Nat.le_of_ble_eq_true rfl⟩) hP hD hS hA [0, 1, 4, 5, 6, 7, 8, 9, 10, 11, 12, 13] [2, 3] rfl rfl (by decide) (by decide) (fun H locs hP hD hS => ?_)
          have hP : va_P D vwCl [(a_t_roll, .inr (3, [.ref a_t_roll_held, .ref a_t_roll_before, .int c_t_roll_size])), (a_t_roll_held, .inl (cyJ, 12, .inr (.inl f_t_roll_held))), (a_t, .inr (6, [.ref a_t_forms, .ref a_t_roll, .ref a_t_row, .ref a_t_rows, .ref a_t_factors, .ref a_t_found, .ref a_t_foundOtherwise, .int c_t_acts, .int c_t_refusals, .int c_t_knocks])), (a_t_forms, .inl (cyJ, 6, .inr (.inl f_t_forms))), (a_t_row, .inr (5, [.long c_t_row_taps, .long c_t_row_cells])), (a_t_rows, .inr (4, [.long c_t_rows_first_187, .long c_t_rows_ofOne_187, .long c_t_rows_ofOther_187, .long c_t_rows_second_187, .long c_t_rows_secondOfOne_187, .long c_t_rows_secondOfOther_187])), (a_t_factors, .inr (2, [.ref a_t_factors_parts])), (a_t_factors_parts, .inr (3, [.ref a_t_factors_parts_held, .ref a_t_factors_parts_before, .int c_t_factors_parts_size_187])), (a_t_factors_parts_held, .inl (cyJ, 12, .inr (.inl f_t_factors_parts_held_187))), (a_t_found, .inr (3, [.ref a_t_found_held, .ref a_t_found_before, .int c_t_found_size_187])), (a_t_found_held, .inl (cyJ, 12, .inr (.inl f_t_found_held_187))), (a_t_foundOtherwise, .inr (3, [.ref a_t_foundOtherwise_held, .ref a_t_foundOtherwise_before, .int c_t_foundOtherwise_size_187])), (a_t_foundOtherwise_held, .inl (cyJ, 12, .inr (.inl f_t_foundOtherwise_held_187))), (a_t_foundOtherwise_before, .inl (cyJ, 12, .inr (.inl f_t_foundOtherwise_before_187)))] H := hP
          have hD : va_D A [(a_t_roll, .inr (3, [.ref a_t_roll_held, .ref a_t_roll_before, .int c_t_roll_size])), (a_t_roll_held, .inl (cyJ, 12, .inr (.inl f_t_roll_held))), (a_t, .inr (6, [.ref a_t_forms, .ref a_t_roll, .ref a_t_row, .ref a_t_rows, .ref a_t_factors, .ref a_t_found, .ref a_t_foundOtherwise, .int c_t_acts, .int c_t_refusals, .int c_t_knocks])), (a_t_forms, .inl (cyJ, 6, .inr (.inl f_t_forms))), (a_t_row, .inr (5, [.long c_t_row_taps, .long c_t_row_cells])), (a_t_rows, .inr (4, [.long c_t_rows_first_187, .long c_t_rows_ofOne_187, .long c_t_rows_ofOther_187, .long c_t_rows_second_187, .long c_t_rows_secondOfOne_187, .long c_t_rows_secondOfOther_187])), (a_t_factors, .inr (2, [.ref a_t_factors_parts])), (a_t_factors_parts, .inr (3, [.ref a_t_factors_parts_held, .ref a_t_factors_parts_before, .int c_t_factors_parts_size_187])), (a_t_factors_parts_held, .inl (cyJ, 12, .inr (.inl f_t_factors_parts_held_187))), (a_t_found, .inr (3, [.ref a_t_found_held, .ref a_t_found_before, .int c_t_found_size_187])), (a_t_found_held, .inl (cyJ, 12, .inr (.inl f_t_found_held_187))), (a_t_foundOtherwise, .inr (3, [.ref a_t_foundOtherwise_held, .ref a_t_foundOtherwise_before, .int c_t_foundOtherwise_size_187])), (a_t_foundOtherwise_held, .inl (cyJ, 12, .inr (.inl f_t_foundOtherwise_held_187))), (a_t_foundOtherwise_before, .inl (cyJ, 12, .inr (.inl f_t_foundOtherwise_before_187)))] := hD
          refine lv_if_eq (tgt := 197) hx hb dX7_digest_190 (by decide) (fun c190 => ?_) (fun c190 => ?_)
          · have h := it_ c190 h
            refine lv_lconst (v := 0) hx hb dX7_digest_197 (by decide) ?_
            obtain ⟨r198, hc198, h⟩ := obn_h h
            refine pz_callS (As := [.long y1_161, .long (0 : Int64)]) (rest := []) hcf (c_X7_mixed l y1_161 (0 : Int64) r198 hc198) (va_cwS 2 hts gX7_digest_X7_mixed rfl rfl rfl ydX7_mixed ⟨Nat.le_of_ble_eq_true rfl, Nat.le_of_ble_eq_true rfl⟩) hnw rfl hl.1 rfl (Nat.le_of_ble_eq_true rfl) dX7_digest_198 ⟨Nat.le_of_ble_eq_true rfl, Nat.le_of_ble_eq_true rfl⟩ ?_
            obtain ⟨e0, e1, e2, e3, e4, e5, e6, e7, e8, e9, e10, e11, e12, e13, e14⟩ := tup15 h
            subst e0
            subst e1
            subst e2
            subst e3
            subst e4
            subst e5
            subst e6
            subst e7
            subst e8
            subst e9
            subst e10
            subst e11
            subst e12
            subst e13
            subst e14
            have hP9 : va_P D vwCl [(a_t, .inr (6, [.ref a_t_forms, .ref a_t_roll, .ref a_t_row, .ref a_t_rows, .ref a_t_factors, .ref a_t_found, .ref a_t_foundOtherwise, .int c_t_acts, .int c_t_refusals, .int c_t_knocks])), (a_t_forms, .inl (cyJ, 6, .inr (.inl f_t_forms))), (a_t_roll, .inr (3, [.ref a_t_roll_held, .ref a_t_roll_before, .int c_t_roll_size])), (a_t_roll_held, .inl (cyJ, 12, .inr (.inl f_t_roll_held))), (a_t_row, .inr (5, [.long c_t_row_taps, .long c_t_row_cells])), (a_t_rows, .inr (4, [.long c_t_rows_first_187, .long c_t_rows_ofOne_187, .long c_t_rows_ofOther_187, .long c_t_rows_second_187, .long c_t_rows_secondOfOne_187, .long c_t_rows_secondOfOther_187])), (a_t_factors, .inr (2, [.ref a_t_factors_parts])), (a_t_factors_parts, .inr (3, [.ref a_t_factors_parts_held, .ref a_t_factors_parts_before, .int c_t_factors_parts_size_187])), (a_t_factors_parts_held, .inl (cyJ, 12, .inr (.inl f_t_factors_parts_held_187))), (a_t_found, .inr (3, [.ref a_t_found_held, .ref a_t_found_before, .int c_t_found_size_187])), (a_t_found_held, .inl (cyJ, 12, .inr (.inl f_t_found_held_187))), (a_t_foundOtherwise, .inr (3, [.ref a_t_foundOtherwise_held, .ref a_t_foundOtherwise_before, .int c_t_foundOtherwise_size_187])), (a_t_foundOtherwise_held, .inl (cyJ, 12, .inr (.inl f_t_foundOtherwise_held_187))), (a_t_foundOtherwise_before, .inl (cyJ, 12, .inr (.inl f_t_foundOtherwise_before_187)))] H := hP.sub [2, 3, 0, 1, 4, 5, 6, 7, 8, 9, 10, 11, 12, 13] rfl
            have hD9 : va_D A [(a_t, .inr (6, [.ref a_t_forms, .ref a_t_roll, .ref a_t_row, .ref a_t_rows, .ref a_t_factors, .ref a_t_found, .ref a_t_foundOtherwise, .int c_t_acts, .int c_t_refusals, .int c_t_knocks])), (a_t_forms, .inl (cyJ, 6, .inr (.inl f_t_forms))), (a_t_roll, .inr (3, [.ref a_t_roll_held, .ref a_t_roll_before, .int c_t_roll_size])), (a_t_roll_held, .inl (cyJ, 12, .inr (.inl f_t_roll_held))), (a_t_row, .inr (5, [.long c_t_row_taps, .long c_t_row_cells])), (a_t_rows, .inr (4, [.long c_t_rows_first_187, .long c_t_rows_ofOne_187, .long c_t_rows_ofOther_187, .long c_t_rows_second_187, .long c_t_rows_secondOfOne_187, .long c_t_rows_secondOfOther_187])), (a_t_factors, .inr (2, [.ref a_t_factors_parts])), (a_t_factors_parts, .inr (3, [.ref a_t_factors_parts_held, .ref a_t_factors_parts_before, .int c_t_factors_parts_size_187])), (a_t_factors_parts_held, .inl (cyJ, 12, .inr (.inl f_t_factors_parts_held_187))), (a_t_found, .inr (3, [.ref a_t_found_held, .ref a_t_found_before, .int c_t_found_size_187])), (a_t_found_held, .inl (cyJ, 12, .inr (.inl f_t_found_held_187))), (a_t_foundOtherwise, .inr (3, [.ref a_t_foundOtherwise_held, .ref a_t_foundOtherwise_before, .int c_t_foundOtherwise_size_187])), (a_t_foundOtherwise_held, .inl (cyJ, 12, .inr (.inl f_t_foundOtherwise_held_187))), (a_t_foundOtherwise_before, .inl (cyJ, 12, .inr (.inl f_t_foundOtherwise_before_187)))] := hD.sub [2, 3, 0, 1, 4, 5, 6, 7, 8, 9, 10, 11, 12, 13] (by decide) rfl
            refine vx_ret ?_
            exact W.lret hx hb hr (fun t ht hW => ⟨⟨_, (), rfl, ⟨rfl, rfl⟩, wQA_of ht hP9 hD9⟩, hS.F ht⟩) hS.2.2 dX7_digest_201
          · have h := if_ c190 h
            refine lv_lconst (v := 1) hx hb dX7_digest_193 (by decide) ?_
            refine lv_goto (tgt := 198) hx hb dX7_digest_194 (by decide) ?_
            obtain ⟨r198, hc198, h⟩ := obn_h h
            refine pz_callS (As := [.long y1_161, .long (1 : Int64)]) (rest := []) hcf (c_X7_mixed l y1_161 (1 : Int64) r198 hc198) (va_cwS 2 hts gX7_digest_X7_mixed rfl rfl rfl ydX7_mixed ⟨Nat.le_of_ble_eq_true rfl, Nat.le_of_ble_eq_true rfl⟩) hnw rfl hl.1 rfl (Nat.le_of_ble_eq_true rfl) dX7_digest_198 ⟨Nat.le_of_ble_eq_true rfl, Nat.le_of_ble_eq_true rfl⟩ ?_
            obtain ⟨e0, e1, e2, e3, e4, e5, e6, e7, e8, e9, e10, e11, e12, e13, e14⟩ := tup15 h
            subst e0
            subst e1
            subst e2
            subst e3
            subst e4
            subst e5
            subst e6
            subst e7
            subst e8
            subst e9
            subst e10
            subst e11
            subst e12
            subst e13
            subst e14
            have hP9 : va_P D vwCl [(a_t, .inr (6, [.ref a_t_forms, .ref a_t_roll, .ref a_t_row, .ref a_t_rows, .ref a_t_factors, .ref a_t_found, .ref a_t_foundOtherwise, .int c_t_acts, .int c_t_refusals, .int c_t_knocks])), (a_t_forms, .inl (cyJ, 6, .inr (.inl f_t_forms))), (a_t_roll, .inr (3, [.ref a_t_roll_held, .ref a_t_roll_before, .int c_t_roll_size])), (a_t_roll_held, .inl (cyJ, 12, .inr (.inl f_t_roll_held))), (a_t_row, .inr (5, [.long c_t_row_taps, .long c_t_row_cells])), (a_t_rows, .inr (4, [.long c_t_rows_first_187, .long c_t_rows_ofOne_187, .long c_t_rows_ofOther_187, .long c_t_rows_second_187, .long c_t_rows_secondOfOne_187, .long c_t_rows_secondOfOther_187])), (a_t_factors, .inr (2, [.ref a_t_factors_parts])), (a_t_factors_parts, .inr (3, [.ref a_t_factors_parts_held, .ref a_t_factors_parts_before, .int c_t_factors_parts_size_187])), (a_t_factors_parts_held, .inl (cyJ, 12, .inr (.inl f_t_factors_parts_held_187))), (a_t_found, .inr (3, [.ref a_t_found_held, .ref a_t_found_before, .int c_t_found_size_187])), (a_t_found_held, .inl (cyJ, 12, .inr (.inl f_t_found_held_187))), (a_t_foundOtherwise, .inr (3, [.ref a_t_foundOtherwise_held, .ref a_t_foundOtherwise_before, .int c_t_foundOtherwise_size_187])), (a_t_foundOtherwise_held, .inl (cyJ, 12, .inr (.inl f_t_foundOtherwise_held_187))), (a_t_foundOtherwise_before, .inl (cyJ, 12, .inr (.inl f_t_foundOtherwise_before_187)))] H := hP.sub [2, 3, 0, 1, 4, 5, 6, 7, 8, 9, 10, 11, 12, 13] rfl
            have hD9 : va_D A [(a_t, .inr (6, [.ref a_t_forms, .ref a_t_roll, .ref a_t_row, .ref a_t_rows, .ref a_t_factors, .ref a_t_found, .ref a_t_foundOtherwise, .int c_t_acts, .int c_t_refusals, .int c_t_knocks])), (a_t_forms, .inl (cyJ, 6, .inr (.inl f_t_forms))), (a_t_roll, .inr (3, [.ref a_t_roll_held, .ref a_t_roll_before, .int c_t_roll_size])), (a_t_roll_held, .inl (cyJ, 12, .inr (.inl f_t_roll_held))), (a_t_row, .inr (5, [.long c_t_row_taps, .long c_t_row_cells])), (a_t_rows, .inr (4, [.long c_t_rows_first_187, .long c_t_rows_ofOne_187, .long c_t_rows_ofOther_187, .long c_t_rows_second_187, .long c_t_rows_secondOfOne_187, .long c_t_rows_secondOfOther_187])), (a_t_factors, .inr (2, [.ref a_t_factors_parts])), (a_t_factors_parts, .inr (3, [.ref a_t_factors_parts_held, .ref a_t_factors_parts_before, .int c_t_factors_parts_size_187])), (a_t_factors_parts_held, .inl (cyJ, 12, .inr (.inl f_t_factors_parts_held_187))), (a_t_found, .inr (3, [.ref a_t_found_held, .ref a_t_found_before, .int c_t_found_size_187])), (a_t_found_held, .inl (cyJ, 12, .inr (.inl f_t_found_held_187))), (a_t_foundOtherwise, .inr (3, [.ref a_t_foundOtherwise_held, .ref a_t_foundOtherwise_before, .int c_t_foundOtherwise_size_187])), (a_t_foundOtherwise_held, .inl (cyJ, 12, .inr (.inl f_t_foundOtherwise_held_187))), (a_t_foundOtherwise_before, .inl (cyJ, 12, .inr (.inl f_t_foundOtherwise_before_187)))] := hD.sub [2, 3, 0, 1, 4, 5, 6, 7, 8, 9, 10, 11, 12, 13] (by decide) rfl
            refine vx_ret ?_
            exact W.lret hx hb hr (fun t ht hW => ⟨⟨_, (), rfl, ⟨rfl, rfl⟩, wQA_of ht hP9 hD9⟩, hS.F ht⟩) hS.2.2 dX7_digest_201
        · have h := if_ c164 h
          refine lv_lload_n hx hb dX7_digest_167 rfl (lv_at hl 1 rfl) ?_
          refine lv_aload_n hx hb dX7_digest_168 rfl (lv_at hl 0 rfl) ?_
          refine lv_iload hx hb dX7_digest_169 (lv_at hl 2 rfl) ?_
          obtain ⟨xc171, r171, hc171, h⟩ := obn2_h h
          have hPc := hP.sub (ws' := [(a_t, .inr (6, [.ref a_t_forms, .ref a_t_roll, .ref a_t_row, .ref a_t_rows, .ref a_t_factors, .ref a_t_found, .ref a_t_foundOtherwise, .int c_t_acts, .int c_t_refusals, .int c_t_knocks])), (a_t_forms, .inl (cyJ, 6, .inr (.inl f_t_forms))), (a_t_roll, .inr (3, [.ref a_t_roll_held, .ref a_t_roll_before, .int c_t_roll_size])), (a_t_row, .inr (5, [.long c_t_row_taps, .long c_t_row_cells]))]) [0, 1, 2, 4] rfl
          have hDc := hD.sub (ws' := [(a_t, .inr (6, [.ref a_t_forms, .ref a_t_roll, .ref a_t_row, .ref a_t_rows, .ref a_t_factors, .ref a_t_found, .ref a_t_foundOtherwise, .int c_t_acts, .int c_t_refusals, .int c_t_knocks])), (a_t_forms, .inl (cyJ, 6, .inr (.inl f_t_forms))), (a_t_roll, .inr (3, [.ref a_t_roll_held, .ref a_t_roll_before, .int c_t_roll_size])), (a_t_row, .inr (5, [.long c_t_row_taps, .long c_t_row_cells]))]) [0, 1, 2, 4] (by decide) rfl
          refine hx_i (w1 := [(a_t, .inr (6, [.ref a_t_forms, .ref a_t_roll, .ref a_t_row, .ref a_t_rows, .ref a_t_factors, .ref a_t_found, .ref a_t_foundOtherwise, .int c_t_acts, .int c_t_refusals, .int c_t_knocks])), (a_t_forms, .inl (cyJ, 6, .inr (.inl f_t_forms))), (a_t_roll, .inr (3, [.ref a_t_roll_held, .ref a_t_roll_before, .int c_t_roll_size])), (a_t_row, .inr (5, [.long c_t_row_taps, .long c_t_row_cells]))]) (wr := [(a_t_roll_held, .inl (cyJ, 12, .inr (.inl f_t_roll_held))), (a_t_rows, .inr (4, [.long c_t_rows_first, .long c_t_rows_ofOne, .long c_t_rows_ofOther, .long c_t_rows_second, .long c_t_rows_secondOfOne, .long c_t_rows_secondOfOther])), (a_t_factors, .inr (2, [.ref a_t_factors_parts])), (a_t_factors_parts, .inr (3, [.ref a_t_factors_parts_held, .ref a_t_factors_parts_before, .int c_t_factors_parts_size])), (a_t_factors_parts_held, .inl (cyJ, 12, .inr (.inl f_t_factors_parts_held))), (a_t_found, .inr (3, [.ref a_t_found_held, .ref a_t_found_before, .int c_t_found_size])), (a_t_found_held, .inl (cyJ, 12, .inr (.inl f_t_found_held))), (a_t_foundOtherwise, .inr (3, [.ref a_t_foundOtherwise_held, .ref a_t_foundOtherwise_before, .int c_t_foundOtherwise_size])), (a_t_foundOtherwise_held, .inl (cyJ, 12, .inr (.inl f_t_foundOtherwise_held))), (a_t_foundOtherwise_before, .inl (cyJ, 12, .inr (.inl f_t_foundOtherwise_before)))]) (vx_runV (As := [.int y4_161]) (rest := [.long y1_161]) hcf (c_X7_house l hfl D cyJ H.size a_t a_t_forms a_t_roll a_t_row a_t_rows a_t_factors a_t_found a_t_foundOtherwise a_t_roll_held a_t_roll_before c_t_acts c_t_refusals c_t_knocks f_t_forms c_t_roll_size c_t_row_taps c_t_row_cells y4_161 xc171 r171 hc171) (cwV 1 hts gX7_digest_X7_house rfl rfl rfl ydX7_house ⟨Nat.le_of_ble_eq_true rfl, Nat.le_of_ble_eq_true rfl⟩) ⟨bl_PX, va_recv hK hP (ci := 6) (q0 := 0) rfl rfl, pr_PX hPc hK0 hDc hnw hE hS (va_free hD hS hA [0, 1, 2, 4] rfl)⟩ rfl rfl hl.1 rfl (lv_room (Nat.le_of_ble_eq_true rfl)) dX7_digest_171 ⟨Nat.le_trans (m := 66) (by omega) (Nat.le_of_ble_eq_true rfl), Nat.le_trans (m := 396) (by omega) (Nat.le_of_ble_eq_true rfl)⟩) hP hD hS hA [0, 1, 2, 4] [3, 5, 6, 7, 8, 9, 10, 11, 12, 13] rfl rfl (by decide) (by decide) (fun E9 ce9 q9 H locs hx9 hE9 hP hD hS hce9 hcv9 hcl9 => ?_) (fun hx9 H locs hP hD hS => ?_)
          · have h := if_ hx9 h
            have hP : va_P D vwCl [(a_t_roll_held, .inl (cyJ, 12, .inr (.inl f_t_roll_held))), (a_t_rows, .inr (4, [.long c_t_rows_first, .long c_t_rows_ofOne, .long c_t_rows_ofOther, .long c_t_rows_second, .long c_t_rows_secondOfOne, .long c_t_rows_secondOfOther])), (a_t_factors, .inr (2, [.ref a_t_factors_parts])), (a_t_factors_parts, .inr (3, [.ref a_t_factors_parts_held, .ref a_t_factors_parts_before, .int c_t_factors_parts_size])), (a_t_factors_parts_held, .inl (cyJ, 12, .inr (.inl f_t_factors_parts_held))), (a_t_found, .inr (3, [.ref a_t_found_held, .ref a_t_found_before, .int c_t_found_size])), (a_t_found_held, .inl (cyJ, 12, .inr (.inl f_t_found_held))), (a_t_foundOtherwise, .inr (3, [.ref a_t_foundOtherwise_held, .ref a_t_foundOtherwise_before, .int c_t_foundOtherwise_size])), (a_t_foundOtherwise_held, .inl (cyJ, 12, .inr (.inl f_t_foundOtherwise_held))), (a_t_foundOtherwise_before, .inl (cyJ, 12, .inr (.inl f_t_foundOtherwise_before))), (a_t, .inr (6, [.ref a_t_forms, .ref a_t_roll, .ref a_t_row, .ref a_t_rows, .ref a_t_factors, .ref a_t_found, .ref a_t_foundOtherwise, .int c_t_acts, .int c_t_refusals, .int c_t_knocks])), (a_t_forms, .inl (cyJ, 6, .inr (.inl f_t_forms))), (a_t_roll, .inr (3, [.ref a_t_roll_held, .ref a_t_roll_before, .int c_t_roll_size])), (a_t_row, .inr (5, [.long c_t_row_taps, .long c_t_row_cells]))] H := hP
            have hD : va_D A [(a_t_roll_held, .inl (cyJ, 12, .inr (.inl f_t_roll_held))), (a_t_rows, .inr (4, [.long c_t_rows_first, .long c_t_rows_ofOne, .long c_t_rows_ofOther, .long c_t_rows_second, .long c_t_rows_secondOfOne, .long c_t_rows_secondOfOther])), (a_t_factors, .inr (2, [.ref a_t_factors_parts])), (a_t_factors_parts, .inr (3, [.ref a_t_factors_parts_held, .ref a_t_factors_parts_before, .int c_t_factors_parts_size])), (a_t_factors_parts_held, .inl (cyJ, 12, .inr (.inl f_t_factors_parts_held))), (a_t_found, .inr (3, [.ref a_t_found_held, .ref a_t_found_before, .int c_t_found_size])), (a_t_found_held, .inl (cyJ, 12, .inr (.inl f_t_found_held))), (a_t_foundOtherwise, .inr (3, [.ref a_t_foundOtherwise_held, .ref a_t_foundOtherwise_before, .int c_t_foundOtherwise_size])), (a_t_foundOtherwise_held, .inl (cyJ, 12, .inr (.inl f_t_foundOtherwise_held))), (a_t_foundOtherwise_before, .inl (cyJ, 12, .inr (.inl f_t_foundOtherwise_before))), (a_t, .inr (6, [.ref a_t_forms, .ref a_t_roll, .ref a_t_row, .ref a_t_rows, .ref a_t_factors, .ref a_t_found, .ref a_t_foundOtherwise, .int c_t_acts, .int c_t_refusals, .int c_t_knocks])), (a_t_forms, .inl (cyJ, 6, .inr (.inl f_t_forms))), (a_t_roll, .inr (3, [.ref a_t_roll_held, .ref a_t_roll_before, .int c_t_roll_size])), (a_t_row, .inr (5, [.long c_t_row_taps, .long c_t_row_cells]))] := hD
            obtain ⟨e0, e1, e2, e3, e4, e5, e6, e7, e8, e9, e10, e11, e12, e13, e14⟩ := tup15 h
            subst e0
            subst e1
            subst e2
            subst e3
            subst e4
            subst e5
            subst e6
            subst e7
            subst e8
            subst e9
            subst e10
            subst e11
            subst e12
            subst e13
            subst e14
            have hP9 : va_P D vwCl [(a_t, .inr (6, [.ref a_t_forms, .ref a_t_roll, .ref a_t_row, .ref a_t_rows, .ref a_t_factors, .ref a_t_found, .ref a_t_foundOtherwise, .int c_t_acts, .int c_t_refusals, .int c_t_knocks])), (a_t_forms, .inl (cyJ, 6, .inr (.inl f_t_forms))), (a_t_roll, .inr (3, [.ref a_t_roll_held, .ref a_t_roll_before, .int c_t_roll_size])), (a_t_roll_held, .inl (cyJ, 12, .inr (.inl f_t_roll_held))), (a_t_row, .inr (5, [.long c_t_row_taps, .long c_t_row_cells])), (a_t_rows, .inr (4, [.long c_t_rows_first, .long c_t_rows_ofOne, .long c_t_rows_ofOther, .long c_t_rows_second, .long c_t_rows_secondOfOne, .long c_t_rows_secondOfOther])), (a_t_factors, .inr (2, [.ref a_t_factors_parts])), (a_t_factors_parts, .inr (3, [.ref a_t_factors_parts_held, .ref a_t_factors_parts_before, .int c_t_factors_parts_size])), (a_t_factors_parts_held, .inl (cyJ, 12, .inr (.inl f_t_factors_parts_held))), (a_t_found, .inr (3, [.ref a_t_found_held, .ref a_t_found_before, .int c_t_found_size])), (a_t_found_held, .inl (cyJ, 12, .inr (.inl f_t_found_held))), (a_t_foundOtherwise, .inr (3, [.ref a_t_foundOtherwise_held, .ref a_t_foundOtherwise_before, .int c_t_foundOtherwise_size])), (a_t_foundOtherwise_held, .inl (cyJ, 12, .inr (.inl f_t_foundOtherwise_held))), (a_t_foundOtherwise_before, .inl (cyJ, 12, .inr (.inl f_t_foundOtherwise_before)))] H := hP.sub [10, 11, 12, 0, 13, 1, 2, 3, 4, 5, 6, 7, 8, 9] rfl
            have hD9 : va_D A [(a_t, .inr (6, [.ref a_t_forms, .ref a_t_roll, .ref a_t_row, .ref a_t_rows, .ref a_t_factors, .ref a_t_found, .ref a_t_foundOtherwise, .int c_t_acts, .int c_t_refusals, .int c_t_knocks])), (a_t_forms, .inl (cyJ, 6, .inr (.inl f_t_forms))), (a_t_roll, .inr (3, [.ref a_t_roll_held, .ref a_t_roll_before, .int c_t_roll_size])), (a_t_roll_held, .inl (cyJ, 12, .inr (.inl f_t_roll_held))), (a_t_row, .inr (5, [.long c_t_row_taps, .long c_t_row_cells])), (a_t_rows, .inr (4, [.long c_t_rows_first, .long c_t_rows_ofOne, .long c_t_rows_ofOther, .long c_t_rows_second, .long c_t_rows_secondOfOne, .long c_t_rows_secondOfOther])), (a_t_factors, .inr (2, [.ref a_t_factors_parts])), (a_t_factors_parts, .inr (3, [.ref a_t_factors_parts_held, .ref a_t_factors_parts_before, .int c_t_factors_parts_size])), (a_t_factors_parts_held, .inl (cyJ, 12, .inr (.inl f_t_factors_parts_held))), (a_t_found, .inr (3, [.ref a_t_found_held, .ref a_t_found_before, .int c_t_found_size])), (a_t_found_held, .inl (cyJ, 12, .inr (.inl f_t_found_held))), (a_t_foundOtherwise, .inr (3, [.ref a_t_foundOtherwise_held, .ref a_t_foundOtherwise_before, .int c_t_foundOtherwise_size])), (a_t_foundOtherwise_held, .inl (cyJ, 12, .inr (.inl f_t_foundOtherwise_held))), (a_t_foundOtherwise_before, .inl (cyJ, 12, .inr (.inl f_t_foundOtherwise_before)))] := hD.sub [10, 11, 12, 0, 13, 1, 2, 3, 4, 5, 6, 7, 8, 9] (by decide) rfl
            exact vx_out (fun x hx => (hxt x hx).elim) hlocks hce9 hcv9 hcl9 (fun t ht hW => ⟨(), hx9, ⟨hE9, wQA_of ht hP9 hD9⟩, hS.F ht⟩) hS.2.2 (Nat.le_trans (m := 66) (by omega) (Nat.le_of_ble_eq_true rfl)) (Nat.le_trans (m := 396) (by omega) (Nat.le_of_ble_eq_true rfl))
          · have h := it_ hx9 h
            have hP : va_P D vwCl [(a_t_roll_held, .inl (cyJ, 12, .inr (.inl f_t_roll_held))), (a_t_rows, .inr (4, [.long c_t_rows_first, .long c_t_rows_ofOne, .long c_t_rows_ofOther, .long c_t_rows_second, .long c_t_rows_secondOfOne, .long c_t_rows_secondOfOther])), (a_t_factors, .inr (2, [.ref a_t_factors_parts])), (a_t_factors_parts, .inr (3, [.ref a_t_factors_parts_held, .ref a_t_factors_parts_before, .int c_t_factors_parts_size])), (a_t_factors_parts_held, .inl (cyJ, 12, .inr (.inl f_t_factors_parts_held))), (a_t_found, .inr (3, [.ref a_t_found_held, .ref a_t_found_before, .int c_t_found_size])), (a_t_found_held, .inl (cyJ, 12, .inr (.inl f_t_found_held))), (a_t_foundOtherwise, .inr (3, [.ref a_t_foundOtherwise_held, .ref a_t_foundOtherwise_before, .int c_t_foundOtherwise_size])), (a_t_foundOtherwise_held, .inl (cyJ, 12, .inr (.inl f_t_foundOtherwise_held))), (a_t_foundOtherwise_before, .inl (cyJ, 12, .inr (.inl f_t_foundOtherwise_before))), (a_t, .inr (6, [.ref a_t_forms, .ref a_t_roll, .ref a_t_row, .ref a_t_rows, .ref a_t_factors, .ref a_t_found, .ref a_t_foundOtherwise, .int c_t_acts, .int c_t_refusals, .int c_t_knocks])), (a_t_forms, .inl (cyJ, 6, .inr (.inl f_t_forms))), (a_t_roll, .inr (3, [.ref a_t_roll_held, .ref a_t_roll_before, .int c_t_roll_size])), (a_t_row, .inr (5, [.long c_t_row_taps, .long c_t_row_cells]))] H := hP
            have hD : va_D A [(a_t_roll_held, .inl (cyJ, 12, .inr (.inl f_t_roll_held))), (a_t_rows, .inr (4, [.long c_t_rows_first, .long c_t_rows_ofOne, .long c_t_rows_ofOther, .long c_t_rows_second, .long c_t_rows_secondOfOne, .long c_t_rows_secondOfOther])), (a_t_factors, .inr (2, [.ref a_t_factors_parts])), (a_t_factors_parts, .inr (3, [.ref a_t_factors_parts_held, .ref a_t_factors_parts_before, .int c_t_factors_parts_size])), (a_t_factors_parts_held, .inl (cyJ, 12, .inr (.inl f_t_factors_parts_held))), (a_t_found, .inr (3, [.ref a_t_found_held, .ref a_t_found_before, .int c_t_found_size])), (a_t_found_held, .inl (cyJ, 12, .inr (.inl f_t_found_held))), (a_t_foundOtherwise, .inr (3, [.ref a_t_foundOtherwise_held, .ref a_t_foundOtherwise_before, .int c_t_foundOtherwise_size])), (a_t_foundOtherwise_held, .inl (cyJ, 12, .inr (.inl f_t_foundOtherwise_held))), (a_t_foundOtherwise_before, .inl (cyJ, 12, .inr (.inl f_t_foundOtherwise_before))), (a_t, .inr (6, [.ref a_t_forms, .ref a_t_roll, .ref a_t_row, .ref a_t_rows, .ref a_t_factors, .ref a_t_found, .ref a_t_foundOtherwise, .int c_t_acts, .int c_t_refusals, .int c_t_knocks])), (a_t_forms, .inl (cyJ, 6, .inr (.inl f_t_forms))), (a_t_roll, .inr (3, [.ref a_t_roll_held, .ref a_t_roll_before, .int c_t_roll_size])), (a_t_row, .inr (5, [.long c_t_row_taps, .long c_t_row_cells]))] := hD
            refine lv_i2l (v := r171.toInt64) hx hb dX7_digest_174 rfl ?_
            obtain ⟨r175, hc175, h⟩ := obn_h h
            refine pz_callS (As := [.long y1_161, .long r171.toInt64]) (rest := []) hcf (c_X7_mixed l y1_161 r171.toInt64 r175 hc175) (va_cwS 2 hts gX7_digest_X7_mixed rfl rfl rfl ydX7_mixed ⟨Nat.le_of_ble_eq_true rfl, Nat.le_of_ble_eq_true rfl⟩) hnw rfl hl.1 rfl (Nat.le_of_ble_eq_true rfl) dX7_digest_175 ⟨Nat.le_trans (m := 66) (by omega) (Nat.le_of_ble_eq_true rfl), Nat.le_trans (m := 396) (by omega) (Nat.le_of_ble_eq_true rfl)⟩ ?_
            refine lv_lstore_n (lv' := [(1, .long r175), (0, .ref a_t), (4, .int y4_161)]) hx hb dX7_digest_178 rfl hl (by decide) rfl (fun ls hl => ?_)
            obtain ⟨x4_179, e_x4_179⟩ : ∃ z : Int32, z = y4_161 + 1 := ⟨_, rfl⟩
            have h := bnd_h e_x4_179 h
            refine lv_iinc (v := x4_179) (lv' := [(4, .int x4_179), (1, .long r175), (0, .ref a_t)]) hx hb dX7_digest_179 hl (k := 2) rfl (by rw [e_x4_179]; rfl) (by decide) rfl (fun ls hl => ?_)
            refine lv_goto (tgt := 161) hx hb dX7_digest_182 (by decide) ?_
            exact hih161 r175 x4_179 h _ _ (by omega) (by omega) _ _ (hP.sub [10, 11, 12, 0, 13, 1, 2, 3, 4, 5, 6, 7, 8, 9] rfl) (hD.sub [10, 11, 12, 0, 13, 1, 2, 3, 4, 5, 6, 7, 8, 9] (by decide) rfl) hS ls (lv_sub hl [2, 1, 0] rfl)
      · have h := if_ c124 h
        refine lv_lload_n hx hb dX7_digest_127 rfl (lv_at hl 1 rfl) ?_
        refine lv_aload_n hx hb dX7_digest_128 rfl (lv_at hl 0 rfl) ?_
        refine va_get (D := D) (ci := 6) (v := .ref a_t_row) (C := RX7) (T := TX7) (N := 10) hx hb hts hinX7 hown hK hP 0 rfl rfl 2 (by decide) hfl23 (fun _ h9 => h9) rfl dX7_digest_129 ?_
        refine va_getN (D := D) (ci := 5) (v := .long c_t_row_cells) (C := RX5) (T := TX5) (N := 2) hx hb hts hinX5 hown hK hP 4 rfl rfl 1 (by decide) hfl224 (fun _ h9 => h9) rfl dX7_digest_132 ?_
        refine lv_iload hx hb dX7_digest_135 (lv_at hl 3 rfl) ?_
        obtain ⟨r137, hc137, h⟩ := obn_h h
        refine pz_callS (As := [.long c_t_row_cells, .int y4_121]) (rest := [.long y1_121]) hcf (c_X0_hasOne l c_t_row_cells y4_121 r137 hc137) (va_cwS 2 hts gX7_digest_X0_hasOne rfl rfl rfl ydX0_hasOne ⟨Nat.le_of_ble_eq_true rfl, Nat.le_of_ble_eq_true rfl⟩) hnw rfl hl.1 rfl (Nat.le_of_ble_eq_true rfl) dX7_digest_137 ⟨Nat.le_of_ble_eq_true rfl, Nat.le_of_ble_eq_true rfl⟩ ?_
        refine lv_if_eq (tgt := 147) hx hb dX7_digest_140 (by decide) (fun c140 => ?_) (fun c140 => ?_)
        · have h := it_ c140 h
          refine lv_lconst (v := 0) hx hb dX7_digest_147 (by decide) ?_
          exact hj148 y4_121 y1_121 (0 : Int64) h ls (lv_sub hl [0, 2, 3] rfl)
        · have h := if_ c140 h
          refine lv_lconst (v := 1) hx hb dX7_digest_143 (by decide) ?_
          refine lv_goto (tgt := 148) hx hb dX7_digest_144 (by decide) ?_
          exact hj148 y4_121 y1_121 (1 : Int64) h ls (lv_sub hl [0, 2, 3] rfl)
    · have h := if_ c52 h
      refine lv_lload_n hx hb dX7_digest_55 rfl (lv_at hl 1 rfl) ?_
      refine lv_aload_n hx hb dX7_digest_56 rfl (lv_at hl 0 rfl) ?_
      refine va_get (D := D) (ci := 6) (v := .ref a_t_roll) (C := RX7) (T := TX7) (N := 10) hx hb hts hinX7 hown hK hP 0 rfl rfl 1 (by decide) hfl16 (fun _ h9 => h9) rfl dX7_digest_57 ?_
      refine lv_iload_n hx hb dX7_digest_60 rfl (lv_at hl 2 rfl) ?_
      obtain ⟨r61, hc61, h⟩ := obn_h h
      have hPc : va_P D vwCl [(a_t_roll, .inr (3, [.ref a_t_roll_held, .ref a_t_roll_before, .int c_t_roll_size])), (a_t_roll_held, .inl (cyJ, 12, .inr (.inl f_t_roll_held)))] s.heap := hP.sub [2, 3] rfl
      refine rd_callV (As := [.int y3_44]) (rest := [.long y1_44]) hcf (c_X3_at l D cyJ a_t_roll a_t_roll_held a_t_roll_before c_t_roll_size f_t_roll_held y3_44 r61 hc61) (cwV 1 hts gX7_digest_X3_at rfl rfl rfl ydX3_at ⟨Nat.le_of_ble_eq_true rfl, Nat.le_of_ble_eq_true rfl⟩) hnw hPc hK0 (va_recv hK hP (ci := 3) (q0 := 2) rfl rfl) rfl hl.1 rfl (Nat.le_of_ble_eq_true rfl) dX7_digest_61 ⟨Nat.le_of_ble_eq_true rfl, Nat.le_of_ble_eq_true rfl⟩ ?_
      obtain ⟨r64, hc64, h⟩ := obn_h h
      refine pz_callS (As := [.long r61]) (rest := [.long y1_44]) hcf (c_X0_degreeOf l r61 r64 hc64) (va_cwS 1 hts gX7_digest_X0_degreeOf rfl rfl rfl ydX0_degreeOf ⟨Nat.le_of_ble_eq_true rfl, Nat.le_of_ble_eq_true rfl⟩) hnw rfl hl.1 rfl (Nat.le_of_ble_eq_true rfl) dX7_digest_64 ⟨Nat.le_of_ble_eq_true rfl, Nat.le_of_ble_eq_true rfl⟩ ?_
      refine lv_i2l (v := r64.toInt64) hx hb dX7_digest_67 rfl ?_
      obtain ⟨r68, hc68, h⟩ := obn_h h
      refine pz_callS (As := [.long y1_44, .long r64.toInt64]) (rest := []) hcf (c_X7_mixed l y1_44 r64.toInt64 r68 hc68) (va_cwS 2 hts gX7_digest_X7_mixed rfl rfl rfl ydX7_mixed ⟨Nat.le_of_ble_eq_true rfl, Nat.le_of_ble_eq_true rfl⟩) hnw rfl hl.1 rfl (Nat.le_of_ble_eq_true rfl) dX7_digest_68 ⟨Nat.le_of_ble_eq_true rfl, Nat.le_of_ble_eq_true rfl⟩ ?_
      refine lv_lstore_n (lv' := [(1, .long r68), (0, .ref a_t), (3, .int y3_44)]) hx hb dX7_digest_71 rfl hl (by decide) rfl (fun ls hl => ?_)
      refine lv_lload_n hx hb dX7_digest_72 rfl (lv_at hl 0 rfl) ?_
      refine lv_aload_n hx hb dX7_digest_73 rfl (lv_at hl 1 rfl) ?_
      refine va_get (D := D) (ci := 6) (v := .ref a_t_roll) (C := RX7) (T := TX7) (N := 10) hx hb hts hinX7 hown hK hP 0 rfl rfl 1 (by decide) hfl16 (fun _ h9 => h9) rfl dX7_digest_74 ?_
      refine lv_iload_n hx hb dX7_digest_77 rfl (lv_at hl 2 rfl) ?_
      obtain ⟨r78, hc78, h⟩ := obn_h h
      have hPc : va_P D vwCl [(a_t_roll, .inr (3, [.ref a_t_roll_held, .ref a_t_roll_before, .int c_t_roll_size])), (a_t_roll_held, .inl (cyJ, 12, .inr (.inl f_t_roll_held)))] s.heap := hP.sub [2, 3] rfl
      refine rd_callV (As := [.int y3_44]) (rest := [.long r68]) hcf (c_X3_at l D cyJ a_t_roll a_t_roll_held a_t_roll_before c_t_roll_size f_t_roll_held y3_44 r78 hc78) (cwV 1 hts gX7_digest_X3_at rfl rfl rfl ydX3_at ⟨Nat.le_of_ble_eq_true rfl, Nat.le_of_ble_eq_true rfl⟩) hnw hPc hK0 (va_recv hK hP (ci := 3) (q0 := 2) rfl rfl) rfl hl.1 rfl (Nat.le_of_ble_eq_true rfl) dX7_digest_78 ⟨Nat.le_of_ble_eq_true rfl, Nat.le_of_ble_eq_true rfl⟩ ?_
      obtain ⟨r81, hc81, h⟩ := obn_h h
      refine pz_callS (As := [.long r78]) (rest := [.long r68]) hcf (c_X0_onesOf l r78 r81 hc81) (va_cwS 1 hts gX7_digest_X0_onesOf rfl rfl rfl ydX0_onesOf ⟨Nat.le_of_ble_eq_true rfl, Nat.le_of_ble_eq_true rfl⟩) hnw rfl hl.1 rfl (Nat.le_of_ble_eq_true rfl) dX7_digest_81 ⟨Nat.le_of_ble_eq_true rfl, Nat.le_of_ble_eq_true rfl⟩ ?_
      refine lv_i2l (v := r81.toInt64) hx hb dX7_digest_84 rfl ?_
      obtain ⟨r85, hc85, h⟩ := obn_h h
      refine pz_callS (As := [.long r68, .long r81.toInt64]) (rest := []) hcf (c_X7_mixed l r68 r81.toInt64 r85 hc85) (va_cwS 2 hts gX7_digest_X7_mixed rfl rfl rfl ydX7_mixed ⟨Nat.le_of_ble_eq_true rfl, Nat.le_of_ble_eq_true rfl⟩) hnw rfl hl.1 rfl (Nat.le_of_ble_eq_true rfl) dX7_digest_85 ⟨Nat.le_of_ble_eq_true rfl, Nat.le_of_ble_eq_true rfl⟩ ?_
      refine lv_lstore_n (lv' := [(1, .long r85), (0, .ref a_t), (3, .int y3_44)]) hx hb dX7_digest_88 rfl hl (by decide) rfl (fun ls hl => ?_)
      obtain ⟨x3_89, e_x3_89⟩ : ∃ z : Int32, z = y3_44 + 1 := ⟨_, rfl⟩
      have h := bnd_h e_x3_89 h
      refine lv_iinc (v := x3_89) (lv' := [(3, .int x3_89), (1, .long r85), (0, .ref a_t)]) hx hb dX7_digest_89 hl (k := 2) rfl (by rw [e_x3_89]; rfl) (by decide) rfl (fun ls hl => ?_)
      refine lv_goto (tgt := 44) hx hb dX7_digest_92 (by decide) ?_
      exact hih44 r85 x3_89 h ls (lv_sub hl [2, 1, 0] rfl)
  · have h := if_ c9 h
    refine lv_lload_n hx hb dX7_digest_12 rfl (lv_at hl 1 rfl) ?_
    refine lv_aload_n hx hb dX7_digest_13 rfl (lv_at hl 0 rfl) ?_
    refine va_get (D := D) (ci := 6) (v := .ref a_t_forms) (C := RX7) (T := TX7) (N := 10) hx hb hts hinX7 hown hK hP 0 rfl rfl 0 (by decide) hfl9 (fun _ h9 => h9) rfl dX7_digest_14 ?_
    refine lv_iload_n hx hb dX7_digest_17 rfl (lv_at hl 2 rfl) ?_
    obtain ⟨hq18, h⟩ := chk_h h
    refine va_lald hx hb hK hP 1 0 rfl rfl hq18 dX7_digest_18 ?_
    obtain ⟨r19, hc19, h⟩ := obn_h h
    refine pz_callS (As := [.long y1_6, .long (f_t_forms y3_6.toNatClampNeg)]) (rest := []) hcf (c_X7_digestOfForm l y1_6 (f_t_forms y3_6.toNatClampNeg) r19 hc19) (va_cwS 2 hts gX7_digest_X7_digestOfForm rfl rfl rfl ydX7_digestOfForm ⟨Nat.le_of_ble_eq_true rfl, Nat.le_of_ble_eq_true rfl⟩) hnw rfl hl.1 rfl (Nat.le_of_ble_eq_true rfl) dX7_digest_19 ⟨Nat.le_of_ble_eq_true rfl, Nat.le_of_ble_eq_true rfl⟩ ?_
    refine lv_lstore_n (lv' := [(1, .long r19), (0, .ref a_t), (3, .int y3_6)]) hx hb dX7_digest_22 rfl hl (by decide) rfl (fun ls hl => ?_)
    obtain ⟨x3_23, e_x3_23⟩ : ∃ z : Int32, z = y3_6 + 1 := ⟨_, rfl⟩
    have h := bnd_h e_x3_23 h
    refine lv_iinc (v := x3_23) (lv' := [(3, .int x3_23), (1, .long r19), (0, .ref a_t)]) hx hb dX7_digest_23 hl (k := 2) rfl (by rw [e_x3_23]; rfl) (by decide) rfl (fun ls hl => ?_)
    refine lv_goto (tgt := 6) hx hb dX7_digest_26 (by decide) ?_
    exact hih6 r19 x3_23 h ls (lv_sub hl [2, 1, 0] rfl)

noncomputable abbrev rmX9_init : Room := { frames := 1, cells := 2, slots := 18, locals := 40 }
theorem ydnX9_init : yX9_init.cls ≠ "java/lang/invoke/MethodHandle" ∧ yX9_init.cls ≠ "java/lang/invoke/VarHandle" ∧ (parseMethodDescriptor yX9_init.desc).map (fun d => d.parameters.length) = some 0 := by decide +kernel
set_option maxHeartbeats 4000000 in
set_option maxRecDepth 100000 in
theorem c_X9_init (l : Launch) (D : va_G) (cyJ : ClassId) (sz : Nat) (a_t : Nat) : Met l yX9_init wsX9_init rmX9_init (va_Pc [.ref a_t] (wPD D [(cyJ, .long)] [(a_t, .inr (8, [.null, .null, .int 0, .long 0, .int 0, .int 0, .int 0, .int 0, .int 0]))] sz)) (va_Qv (fun (_ : Nat × Nat) => True) (fun u t => wQA D [(a_t, .inr (8, [.ref u.1, .ref u.2, .int 0, .long (3 : Int64), .int (1 : Int32), .int 0, .int 0, .int 0, .int 0])), (u.1, .inl (cyJ, 6, .inr (.inl (fun _ => (0 : Int64))))), (u.2, .inl (cyJ, 12, .inr (.inl (fun _ => (0 : Int64)))))] (va_A [(a_t, .inr (8, [.null, .null, .int 0, .long 0, .int 0, .int 0, .int 0, .int 0, .int 0]))] sz) t) (va_A [(a_t, .inr (8, [.null, .null, .int 0, .long 0, .int 0, .int 0, .int 0, .int 0, .int 0]))] sz)) 2 18 (va_A [(a_t, .inr (8, [.null, .null, .int 0, .long 0, .int 0, .int 0, .int 0, .int 0, .int 0]))] sz) := by
  refine Met.ofW (cc := cX9_init) (maxL := 1) (ret := none) (by decide) rfl ?_
  intro p e s m args below meth c s₁ B hml hv
  obtain ⟨rfl, hsz, hP, hK, hD0, hnw⟩ := hv
  have hx := B.exec
  have hb := B.bytes
  have hr := B.returns
  have hts := atoms_spec (ws := wsX9_init) B.pre
  have hown : s.vm.findClass RX9 = some m.cls := findClass_of_methodNamed B.named
  have hlocks := B.notSynchronized
  have hini9 : meth.name = "<init>" := (name_of_methodNamed B.named B.method).1
  have hcf : CallFix _ _ _ _ _ _ _ _ _ := ⟨hx, hb, hml, hown, hts⟩
  have hinX9 : ∀ w ∈ u_ws RX9 TX9 9, w ∈ wsX9_init := by decide +kernel
  have hfl9 := hts (.fieldLink RX9 9 "FormwheelModel" "forms" "[J") (by decide +kernel)
  have hfl13 := hts (.fieldLink RX9 13 "FormwheelModel" "roll" "[J") (by decide +kernel)
  have hfl18 := hts (.fieldLink RX9 18 "FormwheelModel" "taps" "J") (by decide +kernel)
  have hfl22 := hts (.fieldLink RX9 22 "FormwheelModel" "cells" "I") (by decide +kernel)
  subst hsz
  have hD := hD0.self (sz := s.heap.size)
  generalize hAe : va_A [(a_t, .inr (8, [.null, .null, .int 0, .long 0, .int 0, .int 0, .int 0, .int 0, .int 0]))] s.heap.size = A at hD ⊢
  have hA : ∀ q : Nat, s.heap.size ≤ q → A q := fun q h => by rw [← hAe]; exact Or.inr h
  have hS : va_S A s.heap s.heap [] := va_S.rf
  have hP : va_P D vwCl [(a_t, .inr (8, [.null, .null, .int 0, .long 0, .int 0, .int 0, .int 0, .int 0, .int 0]))] s.heap := hP
  have hK0 := hK
  have hl := lv_entry ([.ref a_t]) (n := 1) (Nat.le_of_ble_eq_true rfl)
  rw [lg_entry_eq]
  generalize (lg_sl ([.ref a_t]) ++ List.replicate (1 - (lg_sl ([.ref a_t])).length) Slot.unset).toArray = ls at hl ⊢
  have hl : lv_has ls 1 [(0, .ref a_t)] := hl
  refine lv_aload_n hx hb dX9_init_0 rfl (lv_at hl 0 rfl) ?_
  refine W.objInit hx hb hown (hts (.methodLink RX9 1 objectInit) (by decide +kernel)) (hts (.instanceMethod objectInit) (by decide +kernel)) (hts (.code objectInit ⟨#[0xb1]⟩ 1 none) (by decide +kernel)) rfl (by rw [hml]; exact hl.1) rfl dX9_init_1 (Nat.le_of_ble_eq_true rfl) (Nat.le_of_ble_eq_true rfl) ?_
  refine W.eq (g2 := F0 m 4 ls []) rfl ?_
  refine lv_aload_n hx hb dX9_init_4 rfl (lv_at hl 0 rfl) ?_
  refine lv_bipush (v := 6) hx hb dX9_init_5 (by decide) ?_
  refine va_newa (atype := .long) (ty := .long) (a0 := (6, .inr (.inl (fun _ => (0 : Int64))))) (N' := 6) hx hb (hts (.arrayClass .long) (by decide +kernel)) rfl hK hP hD hS hA (fun _ => rfl) (by decide) rfl (by decide) (Nat.le_of_ble_eq_true rfl) (Nat.le_of_ble_eq_true rfl) dX9_init_7 (fun a_n7 cy_7 H hK hP hD hS => ?_)
  have e_cy_7 := cy_eq hK0 hK
  subst e_cy_7
  have hK := hK0
  have hP : va_P D vwCl [(a_t, .inr (8, [.null, .null, .int 0, .long 0, .int 0, .int 0, .int 0, .int 0, .int 0])), (a_n7, .inl (cyJ, 6, .inr (.inl (fun _ => (0 : Int64)))))] H := hP
  have hD : va_D A [(a_t, .inr (8, [.null, .null, .int 0, .long 0, .int 0, .int 0, .int 0, .int 0, .int 0])), (a_n7, .inl (cyJ, 6, .inr (.inl (fun _ => (0 : Int64)))))] := hD
  refine W.widen (k := 1) (n := 6) (Nat.le_of_ble_eq_true rfl) (Nat.le_of_ble_eq_true rfl) ?_
  refine va_putF (D := D) (ci := 8) (v := .ref a_n7) (ty := tyX9 0) (C := RX9) (T := TX9) (N := 9) hx hb hts hinX9 tyX9 tyX9_ok nmX9 hown hK hP hD hS 0 rfl rfl 0 (by decide) hfl9 (fun _ h9 => h9) rfl hini9 rfl (by decide +kernel) rfl rfl (Nat.le_of_ble_eq_true rfl) dX9_init_9 (fun H locs hP hD hS => ?_)
  have hP : va_P D vwCl [(a_t, .inr (8, [.ref a_n7, .null, .int 0, .long 0, .int 0, .int 0, .int 0, .int 0, .int 0])), (a_n7, .inl (cyJ, 6, .inr (.inl (fun _ => (0 : Int64)))))] H := hP
  have hD : va_D A [(a_t, .inr (8, [.ref a_n7, .null, .int 0, .long 0, .int 0, .int 0, .int 0, .int 0, .int 0])), (a_n7, .inl (cyJ, 6, .inr (.inl (fun _ => (0 : Int64)))))] := hD
  refine lv_aload_n hx hb dX9_init_12 rfl (lv_at hl 0 rfl) ?_
  refine lv_bipush (v := 12) hx hb dX9_init_13 (by decide) ?_
  refine va_newa (atype := .long) (ty := .long) (a0 := (12, .inr (.inl (fun _ => (0 : Int64))))) (N' := 12) hx hb (hts (.arrayClass .long) (by decide +kernel)) rfl hK hP hD hS hA (fun _ => rfl) (by decide) rfl (by decide) (Nat.le_of_ble_eq_true rfl) (Nat.le_of_ble_eq_true rfl) dX9_init_15 (fun a_n15 cy_15 H hK hP hD hS => ?_)
  have e_cy_15 := cy_eq hK0 hK
  subst e_cy_15
  have hK := hK0
  have hP : va_P D vwCl [(a_t, .inr (8, [.ref a_n7, .null, .int 0, .long 0, .int 0, .int 0, .int 0, .int 0, .int 0])), (a_n7, .inl (cyJ, 6, .inr (.inl (fun _ => (0 : Int64))))), (a_n15, .inl (cyJ, 12, .inr (.inl (fun _ => (0 : Int64)))))] H := hP
  have hD : va_D A [(a_t, .inr (8, [.ref a_n7, .null, .int 0, .long 0, .int 0, .int 0, .int 0, .int 0, .int 0])), (a_n7, .inl (cyJ, 6, .inr (.inl (fun _ => (0 : Int64))))), (a_n15, .inl (cyJ, 12, .inr (.inl (fun _ => (0 : Int64)))))] := hD
  refine W.widen (k := 2) (n := 18) (Nat.le_of_ble_eq_true rfl) (Nat.le_of_ble_eq_true rfl) ?_
  refine va_putF (D := D) (ci := 8) (v := .ref a_n15) (ty := tyX9 1) (C := RX9) (T := TX9) (N := 9) hx hb hts hinX9 tyX9 tyX9_ok nmX9 hown hK hP hD hS 0 rfl rfl 1 (by decide) hfl13 (fun _ h9 => h9) rfl hini9 rfl (by decide +kernel) rfl rfl (Nat.le_of_ble_eq_true rfl) dX9_init_17 (fun H locs hP hD hS => ?_)
  have hP : va_P D vwCl [(a_t, .inr (8, [.ref a_n7, .ref a_n15, .int 0, .long 0, .int 0, .int 0, .int 0, .int 0, .int 0])), (a_n7, .inl (cyJ, 6, .inr (.inl (fun _ => (0 : Int64))))), (a_n15, .inl (cyJ, 12, .inr (.inl (fun _ => (0 : Int64)))))] H := hP
  have hD : va_D A [(a_t, .inr (8, [.ref a_n7, .ref a_n15, .int 0, .long 0, .int 0, .int 0, .int 0, .int 0, .int 0])), (a_n7, .inl (cyJ, 6, .inr (.inl (fun _ => (0 : Int64))))), (a_n15, .inl (cyJ, 12, .inr (.inl (fun _ => (0 : Int64)))))] := hD
  refine lv_aload_n hx hb dX9_init_20 rfl (lv_at hl 0 rfl) ?_
  refine lv_ldc2 hx hb hown (hts (.constantLong RX9 16 (3)) (by decide +kernel)) dX9_init_21 ?_
  refine va_put (D := D) (ci := 8) (v := .long (3 : Int64)) (ty := .long) (C := RX9) (T := TX9) (N := 9) hx hb hts hinX9 tyX9 tyX9_ok nmX9 hown hK hP hD hS 0 rfl rfl 3 (by decide) hfl18 (fun _ h9 => h9) rfl (by decide +kernel) rfl rfl (Nat.le_of_ble_eq_true rfl) dX9_init_24 (fun H locs hP hD hS => ?_)
  have hP : va_P D vwCl [(a_t, .inr (8, [.ref a_n7, .ref a_n15, .int 0, .long (3 : Int64), .int 0, .int 0, .int 0, .int 0, .int 0])), (a_n7, .inl (cyJ, 6, .inr (.inl (fun _ => (0 : Int64))))), (a_n15, .inl (cyJ, 12, .inr (.inl (fun _ => (0 : Int64)))))] H := hP
  have hD : va_D A [(a_t, .inr (8, [.ref a_n7, .ref a_n15, .int 0, .long (3 : Int64), .int 0, .int 0, .int 0, .int 0, .int 0])), (a_n7, .inl (cyJ, 6, .inr (.inl (fun _ => (0 : Int64))))), (a_n15, .inl (cyJ, 12, .inr (.inl (fun _ => (0 : Int64)))))] := hD
  refine lv_aload_n hx hb dX9_init_27 rfl (lv_at hl 0 rfl) ?_
  refine lv_iconst (v := 1) hx hb dX9_init_28 (by decide) ?_
  refine va_put (D := D) (ci := 8) (v := .int (1 : Int32)) (ty := .int) (C := RX9) (T := TX9) (N := 9) hx hb hts hinX9 tyX9 tyX9_ok nmX9 hown hK hP hD hS 0 rfl rfl 4 (by decide) hfl22 (fun _ h9 => h9) rfl (by decide +kernel) rfl rfl (Nat.le_of_ble_eq_true rfl) dX9_init_29 (fun H locs hP hD hS => ?_)
  have hP : va_P D vwCl [(a_t, .inr (8, [.ref a_n7, .ref a_n15, .int 0, .long (3 : Int64), .int (1 : Int32), .int 0, .int 0, .int 0, .int 0])), (a_n7, .inl (cyJ, 6, .inr (.inl (fun _ => (0 : Int64))))), (a_n15, .inl (cyJ, 12, .inr (.inl (fun _ => (0 : Int64)))))] H := hP
  have hD : va_D A [(a_t, .inr (8, [.ref a_n7, .ref a_n15, .int 0, .long (3 : Int64), .int (1 : Int32), .int 0, .int 0, .int 0, .int 0])), (a_n7, .inl (cyJ, 6, .inr (.inl (fun _ => (0 : Int64))))), (a_n15, .inl (cyJ, 12, .inr (.inl (fun _ => (0 : Int64)))))] := hD
  have hP9 : va_P D vwCl [(a_t, .inr (8, [.ref a_n7, .ref a_n15, .int 0, .long (3 : Int64), .int (1 : Int32), .int 0, .int 0, .int 0, .int 0])), (a_n7, .inl (cyJ, 6, .inr (.inl (fun _ => (0 : Int64))))), (a_n15, .inl (cyJ, 12, .inr (.inl (fun _ => (0 : Int64)))))] H := hP.sub [0, 1, 2] rfl
  have hD9 : va_D A [(a_t, .inr (8, [.ref a_n7, .ref a_n15, .int 0, .long (3 : Int64), .int (1 : Int32), .int 0, .int 0, .int 0, .int 0])), (a_n7, .inl (cyJ, 6, .inr (.inl (fun _ => (0 : Int64))))), (a_n15, .inl (cyJ, 12, .inr (.inl (fun _ => (0 : Int64)))))] := hD.sub [0, 1, 2] (by decide) rfl
  exact W.vret hx hb hr (fun t ht hW => ⟨⟨(a_n7, a_n15), rfl, trivial, wQA_of ht hP9 hD9⟩, hS.F ht⟩) hS.2.2 dX9_init_32

noncomputable abbrev rmJ6_numberOfLeadingZeros_0f7a4 : Room := { frames := 0, cells := 0, slots := 0, locals := 0 }
theorem ydJ6_numberOfLeadingZeros_0f7a4 : yJ6_numberOfLeadingZeros_0f7a4.cls ≠ "java/lang/invoke/MethodHandle" ∧ yJ6_numberOfLeadingZeros_0f7a4.cls ≠ "java/lang/invoke/VarHandle" ∧ (parseMethodDescriptor yJ6_numberOfLeadingZeros_0f7a4.desc).map (fun d => d.parameters.length) = some 1 := by decide +kernel
noncomputable def J_J6_numberOfLeadingZeros_0f7a4_73 (j0_73 : Int32) (j1_73 : Int32) : Option (Int32) :=
 some (j1_73 - ((j0_73.toUInt32 >>> ((1 : Int32).toUInt32 &&& Int32.toUInt32 31)).toInt32))
noncomputable def J_J6_numberOfLeadingZeros_0f7a4_61 (j0_61 : Int32) (j1_61 : Int32) : Option (Int32) :=
 (if j0_61 < (4 : Int32) then
 J_J6_numberOfLeadingZeros_0f7a4_73 j0_61 j1_61
else
 bnd (j1_61 + (-2)) (fun x1_66 =>
 bnd ((j0_61.toUInt32 >>> ((2 : Int32).toUInt32 &&& Int32.toUInt32 31)).toInt32) (fun x0_72 =>
 J_J6_numberOfLeadingZeros_0f7a4_73 x0_72 x1_66)))
noncomputable def J_J6_numberOfLeadingZeros_0f7a4_48 (j0_48 : Int32) (j1_48 : Int32) : Option (Int32) :=
 (if j0_48 < (16 : Int32) then
 J_J6_numberOfLeadingZeros_0f7a4_61 j0_48 j1_48
else
 bnd (j1_48 + (-4)) (fun x1_54 =>
 bnd ((j0_48.toUInt32 >>> ((4 : Int32).toUInt32 &&& Int32.toUInt32 31)).toInt32) (fun x0_60 =>
 J_J6_numberOfLeadingZeros_0f7a4_61 x0_60 x1_54)))
noncomputable def J_J6_numberOfLeadingZeros_0f7a4_33 (j0_33 : Int32) (j1_33 : Int32) : Option (Int32) :=
 (if j0_33 < (256 : Int32) then
 J_J6_numberOfLeadingZeros_0f7a4_48 j0_33 j1_33
else
 bnd (j1_33 + (-8)) (fun x1_40 =>
 bnd ((j0_33.toUInt32 >>> ((8 : Int32).toUInt32 &&& Int32.toUInt32 31)).toInt32) (fun x0_47 =>
 J_J6_numberOfLeadingZeros_0f7a4_48 x0_47 x1_40)))
noncomputable def F_J6_numberOfLeadingZeros_0f7a4 (p0 : Int32) : Option (Int32) :=
 (if 0 < p0 then
 (if p0 < (65536 : Int32) then
 J_J6_numberOfLeadingZeros_0f7a4_33 p0 (31 : Int32)
else
 bnd ((31 : Int32) + (-16)) (fun x1_25 =>
 bnd ((p0.toUInt32 >>> ((16 : Int32).toUInt32 &&& Int32.toUInt32 31)).toInt32) (fun x0_32 =>
 J_J6_numberOfLeadingZeros_0f7a4_33 x0_32 x1_25)))
else
 (if p0 = 0 then
 some (32 : Int32)
else
 some (0 : Int32)))
set_option maxHeartbeats 4000000 in
set_option maxRecDepth 100000 in
theorem c_J6_numberOfLeadingZeros_0f7a4 (l : Launch) (p0 : Int32) (r0 : Int32) (hF : F_J6_numberOfLeadingZeros_0f7a4 p0 = some r0) : Met l yJ6_numberOfLeadingZeros_0f7a4 wsJ6_numberOfLeadingZeros_0f7a4 rmJ6_numberOfLeadingZeros_0f7a4 (va_Pc [.int p0] NW) (k2_QcV (.int r0)) 0 0 (fun _ => False) := by
  refine Met.ofW (cc := cJ6_numberOfLeadingZeros_0f7a4) (maxL := 2) (ret := (some .int)) (by decide) rfl ?_
  intro p e s m args below meth c s₁ B hml hv
  obtain ⟨rfl, hnw⟩ := hv
  have hx := B.exec
  have hb := B.bytes
  have hr := B.returns
  have hts := atoms_spec (ws := wsJ6_numberOfLeadingZeros_0f7a4) B.pre
  have hown : s.vm.findClass RJ6 = some m.cls := findClass_of_methodNamed B.named
  have hlocks := B.notSynchronized
  have hcf : CallFix _ _ _ _ _ _ _ _ _ := ⟨hx, hb, hml, hown, hts⟩
  have hl := lv_entry ([.int p0]) (n := 2) (Nat.le_of_ble_eq_true rfl)
  rw [lg_entry_eq]
  generalize (lg_sl ([.int p0]) ++ List.replicate (2 - (lg_sl ([.int p0])).length) Slot.unset).toArray = ls at hl ⊢
  have hl : lv_has ls 2 [(0, .int p0)] := hl
  have h := hF
  clear hF
  unfold F_J6_numberOfLeadingZeros_0f7a4 at h
  have hj73 : ∀ (j0_73 : Int32) (j1_73 : Int32), J_J6_numberOfLeadingZeros_0f7a4_73 j0_73 j1_73 = some r0 → ∀ (ls : Array Slot), lv_has ls 2 [(0, .int j0_73), (1, .int j1_73)] → W p l e rmJ6_numberOfLeadingZeros_0f7a4 s m ([.int p0] : List Value).toArray below meth c s.heap [] 0 0 (MQ below (k2_QcV (.int r0)) ([.int p0] : List Value).toArray s 0 0 (fun _ => False)) (F0 m 73 ls []) := by
    intro j0_73 j1_73 h ls hl
    unfold J_J6_numberOfLeadingZeros_0f7a4_73 at h
    refine lv_iload_n hx hb dJ6_numberOfLeadingZeros_0f7a4_73 rfl (lv_at hl 1 rfl) ?_
    refine lv_iload_n hx hb dJ6_numberOfLeadingZeros_0f7a4_74 rfl (lv_at hl 0 rfl) ?_
    refine lv_iconst (v := 1) hx hb dJ6_numberOfLeadingZeros_0f7a4_75 (by decide) ?_
    refine lv_iushr (v := (j0_73.toUInt32 >>> ((1 : Int32).toUInt32 &&& Int32.toUInt32 31)).toInt32) hx hb dJ6_numberOfLeadingZeros_0f7a4_76 rfl ?_
    refine lv_isub hx hb dJ6_numberOfLeadingZeros_0f7a4_77 ?_
    have e1 := Option.some.inj h
    subst e1
    exact W.iret hx hb hr (fun t ht _ => ⟨rfl, ht⟩) no_q dJ6_numberOfLeadingZeros_0f7a4_78
  have hj61 : ∀ (j0_61 : Int32) (j1_61 : Int32), J_J6_numberOfLeadingZeros_0f7a4_61 j0_61 j1_61 = some r0 → ∀ (ls : Array Slot), lv_has ls 2 [(0, .int j0_61), (1, .int j1_61)] → W p l e rmJ6_numberOfLeadingZeros_0f7a4 s m ([.int p0] : List Value).toArray below meth c s.heap [] 0 0 (MQ below (k2_QcV (.int r0)) ([.int p0] : List Value).toArray s 0 0 (fun _ => False)) (F0 m 61 ls []) := by
    intro j0_61 j1_61 h ls hl
    unfold J_J6_numberOfLeadingZeros_0f7a4_61 at h
    refine lv_iload_n hx hb dJ6_numberOfLeadingZeros_0f7a4_61 rfl (lv_at hl 0 rfl) ?_
    refine lv_iconst (v := 4) hx hb dJ6_numberOfLeadingZeros_0f7a4_62 (by decide) ?_
    refine lv_icmp_lt (tgt := 73) hx hb dJ6_numberOfLeadingZeros_0f7a4_63 (by decide) (fun c63 => ?_) (fun c63 => ?_)
    · have h := it_ c63 h
      exact hj73 j0_61 j1_61 h ls (lv_sub hl [0, 1] rfl)
    · have h := if_ c63 h
      obtain ⟨x1_66, e_x1_66⟩ : ∃ z : Int32, z = j1_61 + (-2) := ⟨_, rfl⟩
      have h := bnd_h e_x1_66 h
      refine lv_iinc (v := x1_66) (lv' := [(1, .int x1_66), (0, .int j0_61)]) hx hb dJ6_numberOfLeadingZeros_0f7a4_66 hl (k := 1) rfl (by rw [e_x1_66]; rfl) (by decide) rfl (fun ls hl => ?_)
      refine lv_iload_n hx hb dJ6_numberOfLeadingZeros_0f7a4_69 rfl (lv_at hl 1 rfl) ?_
      refine lv_iconst (v := 2) hx hb dJ6_numberOfLeadingZeros_0f7a4_70 (by decide) ?_
      refine lv_iushr (v := (j0_61.toUInt32 >>> ((2 : Int32).toUInt32 &&& Int32.toUInt32 31)).toInt32) hx hb dJ6_numberOfLeadingZeros_0f7a4_71 rfl ?_
      refine lv_topi (fun x0_72 e_x0_72 => ?_)
      have h := bnd_h e_x0_72 h
      refine lv_istore_n (lv' := [(0, .int x0_72), (1, .int x1_66)]) hx hb dJ6_numberOfLeadingZeros_0f7a4_72 rfl hl (by decide) rfl (fun ls hl => ?_)
      exact hj73 x0_72 x1_66 h ls (lv_sub hl [0, 1] rfl)
  have hj48 : ∀ (j0_48 : Int32) (j1_48 : Int32), J_J6_numberOfLeadingZeros_0f7a4_48 j0_48 j1_48 = some r0 → ∀ (ls : Array Slot), lv_has ls 2 [(0, .int j0_48), (1, .int j1_48)] → W p l e rmJ6_numberOfLeadingZeros_0f7a4 s m ([.int p0] : List Value).toArray below meth c s.heap [] 0 0 (MQ below (k2_QcV (.int r0)) ([.int p0] : List Value).toArray s 0 0 (fun _ => False)) (F0 m 48 ls []) := by
    intro j0_48 j1_48 h ls hl
    unfold J_J6_numberOfLeadingZeros_0f7a4_48 at h
    refine lv_iload_n hx hb dJ6_numberOfLeadingZeros_0f7a4_48 rfl (lv_at hl 0 rfl) ?_
    refine lv_bipush (v := 16) hx hb dJ6_numberOfLeadingZeros_0f7a4_49 (by decide) ?_
    refine lv_icmp_lt (tgt := 61) hx hb dJ6_numberOfLeadingZeros_0f7a4_51 (by decide) (fun c51 => ?_) (fun c51 => ?_)
    · have h := it_ c51 h
      exact hj61 j0_48 j1_48 h ls (lv_sub hl [0, 1] rfl)
    · have h := if_ c51 h
      obtain ⟨x1_54, e_x1_54⟩ : ∃ z : Int32, z = j1_48 + (-4) := ⟨_, rfl⟩
      have h := bnd_h e_x1_54 h
      refine lv_iinc (v := x1_54) (lv' := [(1, .int x1_54), (0, .int j0_48)]) hx hb dJ6_numberOfLeadingZeros_0f7a4_54 hl (k := 1) rfl (by rw [e_x1_54]; rfl) (by decide) rfl (fun ls hl => ?_)
      refine lv_iload_n hx hb dJ6_numberOfLeadingZeros_0f7a4_57 rfl (lv_at hl 1 rfl) ?_
      refine lv_iconst (v := 4) hx hb dJ6_numberOfLeadingZeros_0f7a4_58 (by decide) ?_
      refine lv_iushr (v := (j0_48.toUInt32 >>> ((4 : Int32).toUInt32 &&& Int32.toUInt32 31)).toInt32) hx hb dJ6_numberOfLeadingZeros_0f7a4_59 rfl ?_
      refine lv_topi (fun x0_60 e_x0_60 => ?_)
      have h := bnd_h e_x0_60 h
      refine lv_istore_n (lv' := [(0, .int x0_60), (1, .int x1_54)]) hx hb dJ6_numberOfLeadingZeros_0f7a4_60 rfl hl (by decide) rfl (fun ls hl => ?_)
      exact hj61 x0_60 x1_54 h ls (lv_sub hl [0, 1] rfl)
  have hj33 : ∀ (j0_33 : Int32) (j1_33 : Int32), J_J6_numberOfLeadingZeros_0f7a4_33 j0_33 j1_33 = some r0 → ∀ (ls : Array Slot), lv_has ls 2 [(0, .int j0_33), (1, .int j1_33)] → W p l e rmJ6_numberOfLeadingZeros_0f7a4 s m ([.int p0] : List Value).toArray below meth c s.heap [] 0 0 (MQ below (k2_QcV (.int r0)) ([.int p0] : List Value).toArray s 0 0 (fun _ => False)) (F0 m 33 ls []) := by
    intro j0_33 j1_33 h ls hl
    unfold J_J6_numberOfLeadingZeros_0f7a4_33 at h
    refine lv_iload_n hx hb dJ6_numberOfLeadingZeros_0f7a4_33 rfl (lv_at hl 0 rfl) ?_
    refine lv_sipush (v := 256) hx hb dJ6_numberOfLeadingZeros_0f7a4_34 (by decide) ?_
    refine lv_icmp_lt (tgt := 48) hx hb dJ6_numberOfLeadingZeros_0f7a4_37 (by decide) (fun c37 => ?_) (fun c37 => ?_)
    · have h := it_ c37 h
      exact hj48 j0_33 j1_33 h ls (lv_sub hl [0, 1] rfl)
    · have h := if_ c37 h
      obtain ⟨x1_40, e_x1_40⟩ : ∃ z : Int32, z = j1_33 + (-8) := ⟨_, rfl⟩
      have h := bnd_h e_x1_40 h
      refine lv_iinc (v := x1_40) (lv' := [(1, .int x1_40), (0, .int j0_33)]) hx hb dJ6_numberOfLeadingZeros_0f7a4_40 hl (k := 1) rfl (by rw [e_x1_40]; rfl) (by decide) rfl (fun ls hl => ?_)
      refine lv_iload_n hx hb dJ6_numberOfLeadingZeros_0f7a4_43 rfl (lv_at hl 1 rfl) ?_
      refine lv_bipush (v := 8) hx hb dJ6_numberOfLeadingZeros_0f7a4_44 (by decide) ?_
      refine lv_iushr (v := (j0_33.toUInt32 >>> ((8 : Int32).toUInt32 &&& Int32.toUInt32 31)).toInt32) hx hb dJ6_numberOfLeadingZeros_0f7a4_46 rfl ?_
      refine lv_topi (fun x0_47 e_x0_47 => ?_)
      have h := bnd_h e_x0_47 h
      refine lv_istore_n (lv' := [(0, .int x0_47), (1, .int x1_40)]) hx hb dJ6_numberOfLeadingZeros_0f7a4_47 rfl hl (by decide) rfl (fun ls hl => ?_)
      exact hj48 x0_47 x1_40 h ls (lv_sub hl [0, 1] rfl)
  refine lv_iload_n hx hb dJ6_numberOfLeadingZeros_0f7a4_0 rfl (lv_at hl 0 rfl) ?_
  refine lv_if_gt (tgt := 15) hx hb dJ6_numberOfLeadingZeros_0f7a4_1 (by decide) (fun c1 => ?_) (fun c1 => ?_)
  · have h := it_ c1 h
    refine lv_bipush (v := 31) hx hb dJ6_numberOfLeadingZeros_0f7a4_15 (by decide) ?_
    refine lv_istore_n (lv' := [(1, .int (31 : Int32)), (0, .int p0)]) hx hb dJ6_numberOfLeadingZeros_0f7a4_17 rfl hl (by decide) rfl (fun ls hl => ?_)
    refine lv_iload_n hx hb dJ6_numberOfLeadingZeros_0f7a4_18 rfl (lv_at hl 1 rfl) ?_
    refine lv_ldcw hx hb hown (hts (.constant RJ6 264 (65536)) (by decide +kernel)) dJ6_numberOfLeadingZeros_0f7a4_19 ?_
    refine lv_icmp_lt (tgt := 33) hx hb dJ6_numberOfLeadingZeros_0f7a4_22 (by decide) (fun c22 => ?_) (fun c22 => ?_)
    · have h := it_ c22 h
      exact hj33 p0 (31 : Int32) h ls (lv_sub hl [1, 0] rfl)
    · have h := if_ c22 h
      obtain ⟨x1_25, e_x1_25⟩ : ∃ z : Int32, z = (31 : Int32) + (-16) := ⟨_, rfl⟩
      have h := bnd_h e_x1_25 h
      refine lv_iinc (v := x1_25) (lv' := [(1, .int x1_25), (0, .int p0)]) hx hb dJ6_numberOfLeadingZeros_0f7a4_25 hl (k := 0) rfl (by rw [e_x1_25]; rfl) (by decide) rfl (fun ls hl => ?_)
      refine lv_iload_n hx hb dJ6_numberOfLeadingZeros_0f7a4_28 rfl (lv_at hl 1 rfl) ?_
      refine lv_bipush (v := 16) hx hb dJ6_numberOfLeadingZeros_0f7a4_29 (by decide) ?_
      refine lv_iushr (v := (p0.toUInt32 >>> ((16 : Int32).toUInt32 &&& Int32.toUInt32 31)).toInt32) hx hb dJ6_numberOfLeadingZeros_0f7a4_31 rfl ?_
      refine lv_topi (fun x0_32 e_x0_32 => ?_)
      have h := bnd_h e_x0_32 h
      refine lv_istore_n (lv' := [(0, .int x0_32), (1, .int x1_25)]) hx hb dJ6_numberOfLeadingZeros_0f7a4_32 rfl hl (by decide) rfl (fun ls hl => ?_)
      exact hj33 x0_32 x1_25 h ls (lv_sub hl [0, 1] rfl)
  · have h := if_ c1 h
    refine lv_iload_n hx hb dJ6_numberOfLeadingZeros_0f7a4_4 rfl (lv_at hl 0 rfl) ?_
    refine lv_if_ne (tgt := 13) hx hb dJ6_numberOfLeadingZeros_0f7a4_5 (by decide) (fun c5 => ?_) (fun c5 => ?_)
    · have h := if_ c5 h
      refine lv_iconst (v := 0) hx hb dJ6_numberOfLeadingZeros_0f7a4_13 (by decide) ?_
      have e1 := Option.some.inj h
      subst e1
      exact W.iret hx hb hr (fun t ht _ => ⟨rfl, ht⟩) no_q dJ6_numberOfLeadingZeros_0f7a4_14
    · have h := it_ c5 h
      refine lv_bipush (v := 32) hx hb dJ6_numberOfLeadingZeros_0f7a4_8 (by decide) ?_
      refine lv_goto (tgt := 14) hx hb dJ6_numberOfLeadingZeros_0f7a4_10 (by decide) ?_
      have e1 := Option.some.inj h
      subst e1
      exact W.iret hx hb hr (fun t ht _ => ⟨rfl, ht⟩) no_q dJ6_numberOfLeadingZeros_0f7a4_14

noncomputable abbrev rmJ13_numberOfLeadingZeros_95d88 : Room := { frames := 1, cells := 0, slots := 0, locals := 21 }
theorem ydJ13_numberOfLeadingZeros_95d88 : yJ13_numberOfLeadingZeros_95d88.cls ≠ "java/lang/invoke/MethodHandle" ∧ yJ13_numberOfLeadingZeros_95d88.cls ≠ "java/lang/invoke/VarHandle" ∧ (parseMethodDescriptor yJ13_numberOfLeadingZeros_95d88.desc).map (fun d => d.parameters.length) = some 1 := by decide +kernel
noncomputable def F_J13_numberOfLeadingZeros_95d88 (p0 : Int64) : Option (Int32) :=
 bnd (((p0.toUInt64 >>> ((32 : Int32).toInt64.toUInt64 &&& Int64.toUInt64 63)).toInt64).toInt32) (fun x2_5 =>
 (if x2_5 = 0 then
 obn (F_J6_numberOfLeadingZeros_0f7a4 p0.toInt32) (fun r14 =>
 some ((32 : Int32) + r14))
else
 obn (F_J6_numberOfLeadingZeros_0f7a4 x2_5) (fun r22 =>
 some r22)))
set_option maxHeartbeats 4000000 in
set_option maxRecDepth 100000 in
theorem c_J13_numberOfLeadingZeros_95d88 (l : Launch) (p0 : Int64) (r0 : Int32) (hF : F_J13_numberOfLeadingZeros_95d88 p0 = some r0) : Met l yJ13_numberOfLeadingZeros_95d88 wsJ13_numberOfLeadingZeros_95d88 rmJ13_numberOfLeadingZeros_95d88 (va_Pc [.long p0] NW) (k2_QcV (.int r0)) 0 0 (fun _ => False) := by
  refine Met.ofW (cc := cJ13_numberOfLeadingZeros_95d88) (maxL := 3) (ret := (some .int)) (by decide) rfl ?_
  intro p e s m args below meth c s₁ B hml hv
  obtain ⟨rfl, hnw⟩ := hv
  have hx := B.exec
  have hb := B.bytes
  have hr := B.returns
  have hts := atoms_spec (ws := wsJ13_numberOfLeadingZeros_95d88) B.pre
  have hown : s.vm.findClass RJ13 = some m.cls := findClass_of_methodNamed B.named
  have hlocks := B.notSynchronized
  have hcf : CallFix _ _ _ _ _ _ _ _ _ := ⟨hx, hb, hml, hown, hts⟩
  have hl := lv_entry ([.long p0]) (n := 3) (Nat.le_of_ble_eq_true rfl)
  rw [lg_entry_eq]
  generalize (lg_sl ([.long p0]) ++ List.replicate (3 - (lg_sl ([.long p0])).length) Slot.unset).toArray = ls at hl ⊢
  have hl : lv_has ls 3 [(0, .long p0)] := hl
  have h := hF
  clear hF
  unfold F_J13_numberOfLeadingZeros_95d88 at h
  refine lv_lload_n hx hb dJ13_numberOfLeadingZeros_95d88_0 rfl (lv_at hl 0 rfl) ?_
  refine lv_bipush (v := 32) hx hb dJ13_numberOfLeadingZeros_95d88_1 (by decide) ?_
  refine lv_lushr (v := (p0.toUInt64 >>> ((32 : Int32).toInt64.toUInt64 &&& Int64.toUInt64 63)).toInt64) hx hb dJ13_numberOfLeadingZeros_95d88_3 rfl ?_
  refine lv_l2i (v := ((p0.toUInt64 >>> ((32 : Int32).toInt64.toUInt64 &&& Int64.toUInt64 63)).toInt64).toInt32) hx hb dJ13_numberOfLeadingZeros_95d88_4 rfl ?_
  refine lv_topi (fun x2_5 e_x2_5 => ?_)
  have h := bnd_h e_x2_5 h
  refine lv_istore_n (lv' := [(2, .int x2_5), (0, .long p0)]) hx hb dJ13_numberOfLeadingZeros_95d88_5 rfl hl (by decide) rfl (fun ls hl => ?_)
  refine lv_iload_n hx hb dJ13_numberOfLeadingZeros_95d88_6 rfl (lv_at hl 0 rfl) ?_
  refine lv_if_ne (tgt := 21) hx hb dJ13_numberOfLeadingZeros_95d88_7 (by decide) (fun c7 => ?_) (fun c7 => ?_)
  · have h := if_ c7 h
    refine lv_iload_n hx hb dJ13_numberOfLeadingZeros_95d88_21 rfl (lv_at hl 0 rfl) ?_
    obtain ⟨r22, hc22, h⟩ := obn_h h
    refine pz_callS (As := [.int x2_5]) (rest := []) hcf (c_J6_numberOfLeadingZeros_0f7a4 l x2_5 r22 hc22) (va_cwS 1 hts gJ13_numberOfLeadingZeros_95d88_J6_numberOfLeadingZeros_0f7a4 rfl rfl rfl ydJ6_numberOfLeadingZeros_0f7a4 ⟨Nat.le_of_ble_eq_true rfl, Nat.le_of_ble_eq_true rfl⟩) hnw rfl hl.1 rfl (Nat.le_of_ble_eq_true rfl) dJ13_numberOfLeadingZeros_95d88_22 ⟨Nat.le_of_ble_eq_true rfl, Nat.le_of_ble_eq_true rfl⟩ ?_
    have e1 := Option.some.inj h
    subst e1
    exact W.iret hx hb hr (fun t ht _ => ⟨rfl, ht⟩) no_q dJ13_numberOfLeadingZeros_95d88_25
  · have h := it_ c7 h
    refine lv_bipush (v := 32) hx hb dJ13_numberOfLeadingZeros_95d88_10 (by decide) ?_
    refine lv_lload_n hx hb dJ13_numberOfLeadingZeros_95d88_12 rfl (lv_at hl 1 rfl) ?_
    refine lv_l2i (v := p0.toInt32) hx hb dJ13_numberOfLeadingZeros_95d88_13 rfl ?_
    obtain ⟨r14, hc14, h⟩ := obn_h h
    refine pz_callS (As := [.int p0.toInt32]) (rest := [.int (32 : Int32)]) hcf (c_J6_numberOfLeadingZeros_0f7a4 l p0.toInt32 r14 hc14) (va_cwS 1 hts gJ13_numberOfLeadingZeros_95d88_J6_numberOfLeadingZeros_0f7a4 rfl rfl rfl ydJ6_numberOfLeadingZeros_0f7a4 ⟨Nat.le_of_ble_eq_true rfl, Nat.le_of_ble_eq_true rfl⟩) hnw rfl hl.1 rfl (Nat.le_of_ble_eq_true rfl) dJ13_numberOfLeadingZeros_95d88_14 ⟨Nat.le_of_ble_eq_true rfl, Nat.le_of_ble_eq_true rfl⟩ ?_
    refine lv_iadd hx hb dJ13_numberOfLeadingZeros_95d88_17 ?_
    refine lv_goto (tgt := 25) hx hb dJ13_numberOfLeadingZeros_95d88_18 (by decide) ?_
    have e1 := Option.some.inj h
    subst e1
    exact W.iret hx hb hr (fun t ht _ => ⟨rfl, ht⟩) no_q dJ13_numberOfLeadingZeros_95d88_25

noncomputable abbrev rmX9_degreeOf : Room := { frames := 2, cells := 0, slots := 0, locals := 43 }
theorem ydX9_degreeOf : yX9_degreeOf.cls ≠ "java/lang/invoke/MethodHandle" ∧ yX9_degreeOf.cls ≠ "java/lang/invoke/VarHandle" ∧ (parseMethodDescriptor yX9_degreeOf.desc).map (fun d => d.parameters.length) = some 1 := by decide +kernel
noncomputable def F_X9_degreeOf (p0 : Int64) : Option (Int32) :=
 obn (F_J13_numberOfLeadingZeros_95d88 p0) (fun r3 =>
 some ((63 : Int32) - r3))
set_option maxHeartbeats 4000000 in
set_option maxRecDepth 100000 in
theorem c_X9_degreeOf (l : Launch) (p0 : Int64) (r0 : Int32) (hF : F_X9_degreeOf p0 = some r0) : Met l yX9_degreeOf wsX9_degreeOf rmX9_degreeOf (va_Pc [.long p0] NW) (k2_QcV (.int r0)) 0 0 (fun _ => False) := by
  refine Met.ofW (cc := cX9_degreeOf) (maxL := 2) (ret := (some .int)) (by decide) rfl ?_
  intro p e s m args below meth c s₁ B hml hv
  obtain ⟨rfl, hnw⟩ := hv
  have hx := B.exec
  have hb := B.bytes
  have hr := B.returns
  have hts := atoms_spec (ws := wsX9_degreeOf) B.pre
  have hown : s.vm.findClass RX9 = some m.cls := findClass_of_methodNamed B.named
  have hlocks := B.notSynchronized
  have hcf : CallFix _ _ _ _ _ _ _ _ _ := ⟨hx, hb, hml, hown, hts⟩
  have hl := lv_entry ([.long p0]) (n := 2) (Nat.le_of_ble_eq_true rfl)
  rw [lg_entry_eq]
  generalize (lg_sl ([.long p0]) ++ List.replicate (2 - (lg_sl ([.long p0])).length) Slot.unset).toArray = ls at hl ⊢
  have hl : lv_has ls 2 [(0, .long p0)] := hl
  have h := hF
  clear hF
  unfold F_X9_degreeOf at h
  refine lv_bipush (v := 63) hx hb dX9_degreeOf_0 (by decide) ?_
  refine lv_lload_n hx hb dX9_degreeOf_2 rfl (lv_at hl 0 rfl) ?_
  obtain ⟨r3, hc3, h⟩ := obn_h h
  refine pz_callS (As := [.long p0]) (rest := [.int (63 : Int32)]) hcf (c_J13_numberOfLeadingZeros_95d88 l p0 r3 hc3) (va_cwS 1 hts gX9_degreeOf_J13_numberOfLeadingZeros_95d88 rfl rfl rfl ydJ13_numberOfLeadingZeros_95d88 ⟨Nat.le_of_ble_eq_true rfl, Nat.le_of_ble_eq_true rfl⟩) hnw rfl hl.1 rfl (Nat.le_of_ble_eq_true rfl) dX9_degreeOf_3 ⟨Nat.le_of_ble_eq_true rfl, Nat.le_of_ble_eq_true rfl⟩ ?_
  refine lv_isub hx hb dX9_degreeOf_6 ?_
  have e1 := Option.some.inj h
  subst e1
  exact W.iret hx hb hr (fun t ht _ => ⟨rfl, ht⟩) no_q dX9_degreeOf_7

noncomputable abbrev rmX9_onesOf : Room := { frames := 1, cells := 0, slots := 0, locals := 21 }
theorem ydX9_onesOf : yX9_onesOf.cls ≠ "java/lang/invoke/MethodHandle" ∧ yX9_onesOf.cls ≠ "java/lang/invoke/VarHandle" ∧ (parseMethodDescriptor yX9_onesOf.desc).map (fun d => d.parameters.length) = some 1 := by decide +kernel
noncomputable def F_X9_onesOf (p0 : Int64) : Option (Int32) :=
 obn (F_J13_bitCount_95d88 p0) (fun r1 =>
 some r1)
set_option maxHeartbeats 4000000 in
set_option maxRecDepth 100000 in
theorem c_X9_onesOf (l : Launch) (p0 : Int64) (r0 : Int32) (hF : F_X9_onesOf p0 = some r0) : Met l yX9_onesOf wsX9_onesOf rmX9_onesOf (va_Pc [.long p0] NW) (k2_QcV (.int r0)) 0 0 (fun _ => False) := by
  refine Met.ofW (cc := cX9_onesOf) (maxL := 2) (ret := (some .int)) (by decide) rfl ?_
  intro p e s m args below meth c s₁ B hml hv
  obtain ⟨rfl, hnw⟩ := hv
  have hx := B.exec
  have hb := B.bytes
  have hr := B.returns
  have hts := atoms_spec (ws := wsX9_onesOf) B.pre
  have hown : s.vm.findClass RX9 = some m.cls := findClass_of_methodNamed B.named
  have hlocks := B.notSynchronized
  have hcf : CallFix _ _ _ _ _ _ _ _ _ := ⟨hx, hb, hml, hown, hts⟩
  have hl := lv_entry ([.long p0]) (n := 2) (Nat.le_of_ble_eq_true rfl)
  rw [lg_entry_eq]
  generalize (lg_sl ([.long p0]) ++ List.replicate (2 - (lg_sl ([.long p0])).length) Slot.unset).toArray = ls at hl ⊢
  have hl : lv_has ls 2 [(0, .long p0)] := hl
  have h := hF
  clear hF
  unfold F_X9_onesOf at h
  refine lv_lload_n hx hb dX9_onesOf_0 rfl (lv_at hl 0 rfl) ?_
  obtain ⟨r1, hc1, h⟩ := obn_h h
  refine pz_callS (As := [.long p0]) (rest := []) hcf (c_J13_bitCount_95d88 l p0 r1 hc1) (va_cwS 1 hts gX9_onesOf_J13_bitCount_95d88 rfl rfl rfl ydJ13_bitCount_95d88 ⟨Nat.le_of_ble_eq_true rfl, Nat.le_of_ble_eq_true rfl⟩) hnw rfl hl.1 rfl (Nat.le_of_ble_eq_true rfl) dX9_onesOf_1 ⟨Nat.le_of_ble_eq_true rfl, Nat.le_of_ble_eq_true rfl⟩ ?_
  have e1 := Option.some.inj h
  subst e1
  exact W.iret hx hb hr (fun t ht _ => ⟨rfl, ht⟩) no_q dX9_onesOf_4

noncomputable abbrev rmJ6_numberOfTrailingZeros_0f7a4 : Room := { frames := 0, cells := 0, slots := 0, locals := 0 }
theorem ydJ6_numberOfTrailingZeros_0f7a4 : yJ6_numberOfTrailingZeros_0f7a4.cls ≠ "java/lang/invoke/MethodHandle" ∧ yJ6_numberOfTrailingZeros_0f7a4.cls ≠ "java/lang/invoke/VarHandle" ∧ (parseMethodDescriptor yJ6_numberOfTrailingZeros_0f7a4.desc).map (fun d => d.parameters.length) = some 1 := by decide +kernel
noncomputable def J_J6_numberOfTrailingZeros_0f7a4_74 (j0_74 : Int32) (j1_74 : Int32) : Option (Int32) :=
 some (j1_74 + ((j0_74.toUInt32 >>> ((1 : Int32).toUInt32 &&& Int32.toUInt32 31)).toInt32))
noncomputable def J_J6_numberOfTrailingZeros_0f7a4_62 (j0_62 : Int32) (j1_62 : Int32) : Option (Int32) :=
 (if j0_62 ≤ (4 : Int32) then
 J_J6_numberOfTrailingZeros_0f7a4_74 j0_62 j1_62
else
 bnd (j1_62 + 2) (fun x1_67 =>
 bnd ((j0_62.toUInt32 >>> ((2 : Int32).toUInt32 &&& Int32.toUInt32 31)).toInt32) (fun x0_73 =>
 J_J6_numberOfTrailingZeros_0f7a4_74 x0_73 x1_67)))
noncomputable def J_J6_numberOfTrailingZeros_0f7a4_49 (j0_49 : Int32) (j1_49 : Int32) : Option (Int32) :=
 (if j0_49 ≤ (16 : Int32) then
 J_J6_numberOfTrailingZeros_0f7a4_62 j0_49 j1_49
else
 bnd (j1_49 + 4) (fun x1_55 =>
 bnd ((j0_49.toUInt32 >>> ((4 : Int32).toUInt32 &&& Int32.toUInt32 31)).toInt32) (fun x0_61 =>
 J_J6_numberOfTrailingZeros_0f7a4_62 x0_61 x1_55)))
noncomputable def J_J6_numberOfTrailingZeros_0f7a4_34 (j0_34 : Int32) (j1_34 : Int32) : Option (Int32) :=
 (if j0_34 ≤ (256 : Int32) then
 J_J6_numberOfTrailingZeros_0f7a4_49 j0_34 j1_34
else
 bnd (j1_34 + 8) (fun x1_41 =>
 bnd ((j0_34.toUInt32 >>> ((8 : Int32).toUInt32 &&& Int32.toUInt32 31)).toInt32) (fun x0_48 =>
 J_J6_numberOfTrailingZeros_0f7a4_49 x0_48 x1_41)))
noncomputable def F_J6_numberOfTrailingZeros_0f7a4 (p0 : Int32) : Option (Int32) :=
 bnd ((p0 ^^^ (-1 : Int32)) &&& (p0 - (1 : Int32))) (fun x0_7 =>
 (if 0 < x0_7 then
 (if x0_7 ≤ (65536 : Int32) then
 J_J6_numberOfTrailingZeros_0f7a4_34 x0_7 (1 : Int32)
else
 bnd ((1 : Int32) + 16) (fun x1_26 =>
 bnd ((x0_7.toUInt32 >>> ((16 : Int32).toUInt32 &&& Int32.toUInt32 31)).toInt32) (fun x0_33 =>
 J_J6_numberOfTrailingZeros_0f7a4_34 x0_33 x1_26)))
else
 some (x0_7 &&& (32 : Int32))))
set_option maxHeartbeats 4000000 in
set_option maxRecDepth 100000 in
theorem c_J6_numberOfTrailingZeros_0f7a4 (l : Launch) (p0 : Int32) (r0 : Int32) (hF : F_J6_numberOfTrailingZeros_0f7a4 p0 = some r0) : Met l yJ6_numberOfTrailingZeros_0f7a4 wsJ6_numberOfTrailingZeros_0f7a4 rmJ6_numberOfTrailingZeros_0f7a4 (va_Pc [.int p0] NW) (k2_QcV (.int r0)) 0 0 (fun _ => False) := by
  refine Met.ofW (cc := cJ6_numberOfTrailingZeros_0f7a4) (maxL := 2) (ret := (some .int)) (by decide) rfl ?_
  intro p e s m args below meth c s₁ B hml hv
  obtain ⟨rfl, hnw⟩ := hv
  have hx := B.exec
  have hb := B.bytes
  have hr := B.returns
  have hts := atoms_spec (ws := wsJ6_numberOfTrailingZeros_0f7a4) B.pre
  have hown : s.vm.findClass RJ6 = some m.cls := findClass_of_methodNamed B.named
  have hlocks := B.notSynchronized
  have hcf : CallFix _ _ _ _ _ _ _ _ _ := ⟨hx, hb, hml, hown, hts⟩
  have hl := lv_entry ([.int p0]) (n := 2) (Nat.le_of_ble_eq_true rfl)
  rw [lg_entry_eq]
  generalize (lg_sl ([.int p0]) ++ List.replicate (2 - (lg_sl ([.int p0])).length) Slot.unset).toArray = ls at hl ⊢
  have hl : lv_has ls 2 [(0, .int p0)] := hl
  have h := hF
  clear hF
  unfold F_J6_numberOfTrailingZeros_0f7a4 at h
  have hj74 : ∀ (j0_74 : Int32) (j1_74 : Int32), J_J6_numberOfTrailingZeros_0f7a4_74 j0_74 j1_74 = some r0 → ∀ (ls : Array Slot), lv_has ls 2 [(0, .int j0_74), (1, .int j1_74)] → W p l e rmJ6_numberOfTrailingZeros_0f7a4 s m ([.int p0] : List Value).toArray below meth c s.heap [] 0 0 (MQ below (k2_QcV (.int r0)) ([.int p0] : List Value).toArray s 0 0 (fun _ => False)) (F0 m 74 ls []) := by
    intro j0_74 j1_74 h ls hl
    unfold J_J6_numberOfTrailingZeros_0f7a4_74 at h
    refine lv_iload_n hx hb dJ6_numberOfTrailingZeros_0f7a4_74 rfl (lv_at hl 1 rfl) ?_
    refine lv_iload_n hx hb dJ6_numberOfTrailingZeros_0f7a4_75 rfl (lv_at hl 0 rfl) ?_
    refine lv_iconst (v := 1) hx hb dJ6_numberOfTrailingZeros_0f7a4_76 (by decide) ?_
    refine lv_iushr (v := (j0_74.toUInt32 >>> ((1 : Int32).toUInt32 &&& Int32.toUInt32 31)).toInt32) hx hb dJ6_numberOfTrailingZeros_0f7a4_77 rfl ?_
    refine lv_iadd hx hb dJ6_numberOfTrailingZeros_0f7a4_78 ?_
    have e1 := Option.some.inj h
    subst e1
    exact W.iret hx hb hr (fun t ht _ => ⟨rfl, ht⟩) no_q dJ6_numberOfTrailingZeros_0f7a4_79
  have hj62 : ∀ (j0_62 : Int32) (j1_62 : Int32), J_J6_numberOfTrailingZeros_0f7a4_62 j0_62 j1_62 = some r0 → ∀ (ls : Array Slot), lv_has ls 2 [(0, .int j0_62), (1, .int j1_62)] → W p l e rmJ6_numberOfTrailingZeros_0f7a4 s m ([.int p0] : List Value).toArray below meth c s.heap [] 0 0 (MQ below (k2_QcV (.int r0)) ([.int p0] : List Value).toArray s 0 0 (fun _ => False)) (F0 m 62 ls []) := by
    intro j0_62 j1_62 h ls hl
    unfold J_J6_numberOfTrailingZeros_0f7a4_62 at h
    refine lv_iload_n hx hb dJ6_numberOfTrailingZeros_0f7a4_62 rfl (lv_at hl 0 rfl) ?_
    refine lv_iconst (v := 4) hx hb dJ6_numberOfTrailingZeros_0f7a4_63 (by decide) ?_
    refine lv_icmp_le (tgt := 74) hx hb dJ6_numberOfTrailingZeros_0f7a4_64 (by decide) (fun c64 => ?_) (fun c64 => ?_)
    · have h := it_ c64 h
      exact hj74 j0_62 j1_62 h ls (lv_sub hl [0, 1] rfl)
    · have h := if_ c64 h
      obtain ⟨x1_67, e_x1_67⟩ : ∃ z : Int32, z = j1_62 + 2 := ⟨_, rfl⟩
      have h := bnd_h e_x1_67 h
      refine lv_iinc (v := x1_67) (lv' := [(1, .int x1_67), (0, .int j0_62)]) hx hb dJ6_numberOfTrailingZeros_0f7a4_67 hl (k := 1) rfl (by rw [e_x1_67]; rfl) (by decide) rfl (fun ls hl => ?_)
      refine lv_iload_n hx hb dJ6_numberOfTrailingZeros_0f7a4_70 rfl (lv_at hl 1 rfl) ?_
      refine lv_iconst (v := 2) hx hb dJ6_numberOfTrailingZeros_0f7a4_71 (by decide) ?_
      refine lv_iushr (v := (j0_62.toUInt32 >>> ((2 : Int32).toUInt32 &&& Int32.toUInt32 31)).toInt32) hx hb dJ6_numberOfTrailingZeros_0f7a4_72 rfl ?_
      refine lv_topi (fun x0_73 e_x0_73 => ?_)
      have h := bnd_h e_x0_73 h
      refine lv_istore_n (lv' := [(0, .int x0_73), (1, .int x1_67)]) hx hb dJ6_numberOfTrailingZeros_0f7a4_73 rfl hl (by decide) rfl (fun ls hl => ?_)
      exact hj74 x0_73 x1_67 h ls (lv_sub hl [0, 1] rfl)
  have hj49 : ∀ (j0_49 : Int32) (j1_49 : Int32), J_J6_numberOfTrailingZeros_0f7a4_49 j0_49 j1_49 = some r0 → ∀ (ls : Array Slot), lv_has ls 2 [(0, .int j0_49), (1, .int j1_49)] → W p l e rmJ6_numberOfTrailingZeros_0f7a4 s m ([.int p0] : List Value).toArray below meth c s.heap [] 0 0 (MQ below (k2_QcV (.int r0)) ([.int p0] : List Value).toArray s 0 0 (fun _ => False)) (F0 m 49 ls []) := by
    intro j0_49 j1_49 h ls hl
    unfold J_J6_numberOfTrailingZeros_0f7a4_49 at h
    refine lv_iload_n hx hb dJ6_numberOfTrailingZeros_0f7a4_49 rfl (lv_at hl 0 rfl) ?_
    refine lv_bipush (v := 16) hx hb dJ6_numberOfTrailingZeros_0f7a4_50 (by decide) ?_
    refine lv_icmp_le (tgt := 62) hx hb dJ6_numberOfTrailingZeros_0f7a4_52 (by decide) (fun c52 => ?_) (fun c52 => ?_)
    · have h := it_ c52 h
      exact hj62 j0_49 j1_49 h ls (lv_sub hl [0, 1] rfl)
    · have h := if_ c52 h
      obtain ⟨x1_55, e_x1_55⟩ : ∃ z : Int32, z = j1_49 + 4 := ⟨_, rfl⟩
      have h := bnd_h e_x1_55 h
      refine lv_iinc (v := x1_55) (lv' := [(1, .int x1_55), (0, .int j0_49)]) hx hb dJ6_numberOfTrailingZeros_0f7a4_55 hl (k := 1) rfl (by rw [e_x1_55]; rfl) (by decide) rfl (fun ls hl => ?_)
      refine lv_iload_n hx hb dJ6_numberOfTrailingZeros_0f7a4_58 rfl (lv_at hl 1 rfl) ?_
      refine lv_iconst (v := 4) hx hb dJ6_numberOfTrailingZeros_0f7a4_59 (by decide) ?_
      refine lv_iushr (v := (j0_49.toUInt32 >>> ((4 : Int32).toUInt32 &&& Int32.toUInt32 31)).toInt32) hx hb dJ6_numberOfTrailingZeros_0f7a4_60 rfl ?_
      refine lv_topi (fun x0_61 e_x0_61 => ?_)
      have h := bnd_h e_x0_61 h
      refine lv_istore_n (lv' := [(0, .int x0_61), (1, .int x1_55)]) hx hb dJ6_numberOfTrailingZeros_0f7a4_61 rfl hl (by decide) rfl (fun ls hl => ?_)
      exact hj62 x0_61 x1_55 h ls (lv_sub hl [0, 1] rfl)
  have hj34 : ∀ (j0_34 : Int32) (j1_34 : Int32), J_J6_numberOfTrailingZeros_0f7a4_34 j0_34 j1_34 = some r0 → ∀ (ls : Array Slot), lv_has ls 2 [(0, .int j0_34), (1, .int j1_34)] → W p l e rmJ6_numberOfTrailingZeros_0f7a4 s m ([.int p0] : List Value).toArray below meth c s.heap [] 0 0 (MQ below (k2_QcV (.int r0)) ([.int p0] : List Value).toArray s 0 0 (fun _ => False)) (F0 m 34 ls []) := by
    intro j0_34 j1_34 h ls hl
    unfold J_J6_numberOfTrailingZeros_0f7a4_34 at h
    refine lv_iload_n hx hb dJ6_numberOfTrailingZeros_0f7a4_34 rfl (lv_at hl 0 rfl) ?_
    refine lv_sipush (v := 256) hx hb dJ6_numberOfTrailingZeros_0f7a4_35 (by decide) ?_
    refine lv_icmp_le (tgt := 49) hx hb dJ6_numberOfTrailingZeros_0f7a4_38 (by decide) (fun c38 => ?_) (fun c38 => ?_)
    · have h := it_ c38 h
      exact hj49 j0_34 j1_34 h ls (lv_sub hl [0, 1] rfl)
    · have h := if_ c38 h
      obtain ⟨x1_41, e_x1_41⟩ : ∃ z : Int32, z = j1_34 + 8 := ⟨_, rfl⟩
      have h := bnd_h e_x1_41 h
      refine lv_iinc (v := x1_41) (lv' := [(1, .int x1_41), (0, .int j0_34)]) hx hb dJ6_numberOfTrailingZeros_0f7a4_41 hl (k := 1) rfl (by rw [e_x1_41]; rfl) (by decide) rfl (fun ls hl => ?_)
      refine lv_iload_n hx hb dJ6_numberOfTrailingZeros_0f7a4_44 rfl (lv_at hl 1 rfl) ?_
      refine lv_bipush (v := 8) hx hb dJ6_numberOfTrailingZeros_0f7a4_45 (by decide) ?_
      refine lv_iushr (v := (j0_34.toUInt32 >>> ((8 : Int32).toUInt32 &&& Int32.toUInt32 31)).toInt32) hx hb dJ6_numberOfTrailingZeros_0f7a4_47 rfl ?_
      refine lv_topi (fun x0_48 e_x0_48 => ?_)
      have h := bnd_h e_x0_48 h
      refine lv_istore_n (lv' := [(0, .int x0_48), (1, .int x1_41)]) hx hb dJ6_numberOfTrailingZeros_0f7a4_48 rfl hl (by decide) rfl (fun ls hl => ?_)
      exact hj49 x0_48 x1_41 h ls (lv_sub hl [0, 1] rfl)
  refine lv_iload_n hx hb dJ6_numberOfTrailingZeros_0f7a4_0 rfl (lv_at hl 0 rfl) ?_
  refine lv_iconst (v := -1) hx hb dJ6_numberOfTrailingZeros_0f7a4_1 (by decide) ?_
  refine lv_ixor hx hb dJ6_numberOfTrailingZeros_0f7a4_2 ?_
  refine lv_iload_n hx hb dJ6_numberOfTrailingZeros_0f7a4_3 rfl (lv_at hl 0 rfl) ?_
  refine lv_iconst (v := 1) hx hb dJ6_numberOfTrailingZeros_0f7a4_4 (by decide) ?_
  refine lv_isub hx hb dJ6_numberOfTrailingZeros_0f7a4_5 ?_
  refine lv_iand hx hb dJ6_numberOfTrailingZeros_0f7a4_6 ?_
  refine lv_topi (fun x0_7 e_x0_7 => ?_)
  have h := bnd_h e_x0_7 h
  refine lv_istore_n (lv' := [(0, .int x0_7)]) hx hb dJ6_numberOfTrailingZeros_0f7a4_7 rfl hl (by decide) rfl (fun ls hl => ?_)
  refine lv_iload_n hx hb dJ6_numberOfTrailingZeros_0f7a4_8 rfl (lv_at hl 0 rfl) ?_
  refine lv_if_gt (tgt := 17) hx hb dJ6_numberOfTrailingZeros_0f7a4_9 (by decide) (fun c9 => ?_) (fun c9 => ?_)
  · have h := it_ c9 h
    refine lv_iconst (v := 1) hx hb dJ6_numberOfTrailingZeros_0f7a4_17 (by decide) ?_
    refine lv_istore_n (lv' := [(1, .int (1 : Int32)), (0, .int x0_7)]) hx hb dJ6_numberOfTrailingZeros_0f7a4_18 rfl hl (by decide) rfl (fun ls hl => ?_)
    refine lv_iload_n hx hb dJ6_numberOfTrailingZeros_0f7a4_19 rfl (lv_at hl 1 rfl) ?_
    refine lv_ldcw hx hb hown (hts (.constant RJ6 264 (65536)) (by decide +kernel)) dJ6_numberOfTrailingZeros_0f7a4_20 ?_
    refine lv_icmp_le (tgt := 34) hx hb dJ6_numberOfTrailingZeros_0f7a4_23 (by decide) (fun c23 => ?_) (fun c23 => ?_)
    · have h := it_ c23 h
      exact hj34 x0_7 (1 : Int32) h ls (lv_sub hl [1, 0] rfl)
    · have h := if_ c23 h
      obtain ⟨x1_26, e_x1_26⟩ : ∃ z : Int32, z = (1 : Int32) + 16 := ⟨_, rfl⟩
      have h := bnd_h e_x1_26 h
      refine lv_iinc (v := x1_26) (lv' := [(1, .int x1_26), (0, .int x0_7)]) hx hb dJ6_numberOfTrailingZeros_0f7a4_26 hl (k := 0) rfl (by rw [e_x1_26]; rfl) (by decide) rfl (fun ls hl => ?_)
      refine lv_iload_n hx hb dJ6_numberOfTrailingZeros_0f7a4_29 rfl (lv_at hl 1 rfl) ?_
      refine lv_bipush (v := 16) hx hb dJ6_numberOfTrailingZeros_0f7a4_30 (by decide) ?_
      refine lv_iushr (v := (x0_7.toUInt32 >>> ((16 : Int32).toUInt32 &&& Int32.toUInt32 31)).toInt32) hx hb dJ6_numberOfTrailingZeros_0f7a4_32 rfl ?_
      refine lv_topi (fun x0_33 e_x0_33 => ?_)
      have h := bnd_h e_x0_33 h
      refine lv_istore_n (lv' := [(0, .int x0_33), (1, .int x1_26)]) hx hb dJ6_numberOfTrailingZeros_0f7a4_33 rfl hl (by decide) rfl (fun ls hl => ?_)
      exact hj34 x0_33 x1_26 h ls (lv_sub hl [0, 1] rfl)
  · have h := if_ c9 h
    refine lv_iload_n hx hb dJ6_numberOfTrailingZeros_0f7a4_12 rfl (lv_at hl 0 rfl) ?_
    refine lv_bipush (v := 32) hx hb dJ6_numberOfTrailingZeros_0f7a4_13 (by decide) ?_
    refine lv_iand hx hb dJ6_numberOfTrailingZeros_0f7a4_15 ?_
    have e1 := Option.some.inj h
    subst e1
    exact W.iret hx hb hr (fun t ht _ => ⟨rfl, ht⟩) no_q dJ6_numberOfTrailingZeros_0f7a4_16

noncomputable abbrev rmJ13_numberOfTrailingZeros_95d88 : Room := { frames := 1, cells := 0, slots := 0, locals := 21 }
theorem ydJ13_numberOfTrailingZeros_95d88 : yJ13_numberOfTrailingZeros_95d88.cls ≠ "java/lang/invoke/MethodHandle" ∧ yJ13_numberOfTrailingZeros_95d88.cls ≠ "java/lang/invoke/VarHandle" ∧ (parseMethodDescriptor yJ13_numberOfTrailingZeros_95d88.desc).map (fun d => d.parameters.length) = some 1 := by decide +kernel
noncomputable def F_J13_numberOfTrailingZeros_95d88 (p0 : Int64) : Option (Int32) :=
 bnd p0.toInt32 (fun x2_2 =>
 (if x2_2 = 0 then
 obn (F_J6_numberOfTrailingZeros_0f7a4 (((p0.toUInt64 >>> ((32 : Int32).toInt64.toUInt64 &&& Int64.toUInt64 63)).toInt64).toInt32)) (fun r14 =>
 some ((32 : Int32) + r14))
else
 obn (F_J6_numberOfTrailingZeros_0f7a4 x2_2) (fun r22 =>
 some r22)))
set_option maxHeartbeats 4000000 in
set_option maxRecDepth 100000 in
theorem c_J13_numberOfTrailingZeros_95d88 (l : Launch) (p0 : Int64) (r0 : Int32) (hF : F_J13_numberOfTrailingZeros_95d88 p0 = some r0) : Met l yJ13_numberOfTrailingZeros_95d88 wsJ13_numberOfTrailingZeros_95d88 rmJ13_numberOfTrailingZeros_95d88 (va_Pc [.long p0] NW) (k2_QcV (.int r0)) 0 0 (fun _ => False) := by
  refine Met.ofW (cc := cJ13_numberOfTrailingZeros_95d88) (maxL := 3) (ret := (some .int)) (by decide) rfl ?_
  intro p e s m args below meth c s₁ B hml hv
  obtain ⟨rfl, hnw⟩ := hv
  have hx := B.exec
  have hb := B.bytes
  have hr := B.returns
  have hts := atoms_spec (ws := wsJ13_numberOfTrailingZeros_95d88) B.pre
  have hown : s.vm.findClass RJ13 = some m.cls := findClass_of_methodNamed B.named
  have hlocks := B.notSynchronized
  have hcf : CallFix _ _ _ _ _ _ _ _ _ := ⟨hx, hb, hml, hown, hts⟩
  have hl := lv_entry ([.long p0]) (n := 3) (Nat.le_of_ble_eq_true rfl)
  rw [lg_entry_eq]
  generalize (lg_sl ([.long p0]) ++ List.replicate (3 - (lg_sl ([.long p0])).length) Slot.unset).toArray = ls at hl ⊢
  have hl : lv_has ls 3 [(0, .long p0)] := hl
  have h := hF
  clear hF
  unfold F_J13_numberOfTrailingZeros_95d88 at h
  refine lv_lload_n hx hb dJ13_numberOfTrailingZeros_95d88_0 rfl (lv_at hl 0 rfl) ?_
  refine lv_l2i (v := p0.toInt32) hx hb dJ13_numberOfTrailingZeros_95d88_1 rfl ?_
  refine lv_topi (fun x2_2 e_x2_2 => ?_)
  have h := bnd_h e_x2_2 h
  refine lv_istore_n (lv' := [(2, .int x2_2), (0, .long p0)]) hx hb dJ13_numberOfTrailingZeros_95d88_2 rfl hl (by decide) rfl (fun ls hl => ?_)
  refine lv_iload_n hx hb dJ13_numberOfTrailingZeros_95d88_3 rfl (lv_at hl 0 rfl) ?_
  refine lv_if_ne (tgt := 21) hx hb dJ13_numberOfTrailingZeros_95d88_4 (by decide) (fun c4 => ?_) (fun c4 => ?_)
  · have h := if_ c4 h
    refine lv_iload_n hx hb dJ13_numberOfTrailingZeros_95d88_21 rfl (lv_at hl 0 rfl) ?_
    obtain ⟨r22, hc22, h⟩ := obn_h h
    refine pz_callS (As := [.int x2_2]) (rest := []) hcf (c_J6_numberOfTrailingZeros_0f7a4 l x2_2 r22 hc22) (va_cwS 1 hts gJ13_numberOfTrailingZeros_95d88_J6_numberOfTrailingZeros_0f7a4 rfl rfl rfl ydJ6_numberOfTrailingZeros_0f7a4 ⟨Nat.le_of_ble_eq_true rfl, Nat.le_of_ble_eq_true rfl⟩) hnw rfl hl.1 rfl (Nat.le_of_ble_eq_true rfl) dJ13_numberOfTrailingZeros_95d88_22 ⟨Nat.le_of_ble_eq_true rfl, Nat.le_of_ble_eq_true rfl⟩ ?_
    have e1 := Option.some.inj h
    subst e1
    exact W.iret hx hb hr (fun t ht _ => ⟨rfl, ht⟩) no_q dJ13_numberOfTrailingZeros_95d88_25
  · have h := it_ c4 h
    refine lv_bipush (v := 32) hx hb dJ13_numberOfTrailingZeros_95d88_7 (by decide) ?_
    refine lv_lload_n hx hb dJ13_numberOfTrailingZeros_95d88_9 rfl (lv_at hl 1 rfl) ?_
    refine lv_bipush (v := 32) hx hb dJ13_numberOfTrailingZeros_95d88_10 (by decide) ?_
    refine lv_lushr (v := (p0.toUInt64 >>> ((32 : Int32).toInt64.toUInt64 &&& Int64.toUInt64 63)).toInt64) hx hb dJ13_numberOfTrailingZeros_95d88_12 rfl ?_
    refine lv_l2i (v := ((p0.toUInt64 >>> ((32 : Int32).toInt64.toUInt64 &&& Int64.toUInt64 63)).toInt64).toInt32) hx hb dJ13_numberOfTrailingZeros_95d88_13 rfl ?_
    obtain ⟨r14, hc14, h⟩ := obn_h h
    refine pz_callS (As := [.int (((p0.toUInt64 >>> ((32 : Int32).toInt64.toUInt64 &&& Int64.toUInt64 63)).toInt64).toInt32)]) (rest := [.int (32 : Int32)]) hcf (c_J6_numberOfTrailingZeros_0f7a4 l (((p0.toUInt64 >>> ((32 : Int32).toInt64.toUInt64 &&& Int64.toUInt64 63)).toInt64).toInt32) r14 hc14) (va_cwS 1 hts gJ13_numberOfTrailingZeros_95d88_J6_numberOfTrailingZeros_0f7a4 rfl rfl rfl ydJ6_numberOfTrailingZeros_0f7a4 ⟨Nat.le_of_ble_eq_true rfl, Nat.le_of_ble_eq_true rfl⟩) hnw rfl hl.1 rfl (Nat.le_of_ble_eq_true rfl) dJ13_numberOfTrailingZeros_95d88_14 ⟨Nat.le_of_ble_eq_true rfl, Nat.le_of_ble_eq_true rfl⟩ ?_
    refine lv_iadd hx hb dJ13_numberOfTrailingZeros_95d88_17 ?_
    refine lv_goto (tgt := 25) hx hb dJ13_numberOfTrailingZeros_95d88_18 (by decide) ?_
    have e1 := Option.some.inj h
    subst e1
    exact W.iret hx hb hr (fun t ht _ => ⟨rfl, ht⟩) no_q dJ13_numberOfTrailingZeros_95d88_25

noncomputable abbrev rmX9_lowestOf : Room := { frames := 2, cells := 0, slots := 0, locals := 43 }
theorem ydX9_lowestOf : yX9_lowestOf.cls ≠ "java/lang/invoke/MethodHandle" ∧ yX9_lowestOf.cls ≠ "java/lang/invoke/VarHandle" ∧ (parseMethodDescriptor yX9_lowestOf.desc).map (fun d => d.parameters.length) = some 1 := by decide +kernel
noncomputable def F_X9_lowestOf (p0 : Int64) : Option (Int32) :=
 (if p0 = (0 : Int64) then
 some (-1 : Int32)
else
 obn (F_J13_numberOfTrailingZeros_95d88 p0) (fun r11 =>
 some r11))
set_option maxHeartbeats 4000000 in
set_option maxRecDepth 100000 in
theorem c_X9_lowestOf (l : Launch) (p0 : Int64) (r0 : Int32) (hF : F_X9_lowestOf p0 = some r0) : Met l yX9_lowestOf wsX9_lowestOf rmX9_lowestOf (va_Pc [.long p0] NW) (k2_QcV (.int r0)) 0 0 (fun _ => False) := by
  refine Met.ofW (cc := cX9_lowestOf) (maxL := 2) (ret := (some .int)) (by decide) rfl ?_
  intro p e s m args below meth c s₁ B hml hv
  obtain ⟨rfl, hnw⟩ := hv
  have hx := B.exec
  have hb := B.bytes
  have hr := B.returns
  have hts := atoms_spec (ws := wsX9_lowestOf) B.pre
  have hown : s.vm.findClass RX9 = some m.cls := findClass_of_methodNamed B.named
  have hlocks := B.notSynchronized
  have hcf : CallFix _ _ _ _ _ _ _ _ _ := ⟨hx, hb, hml, hown, hts⟩
  have hl := lv_entry ([.long p0]) (n := 2) (Nat.le_of_ble_eq_true rfl)
  rw [lg_entry_eq]
  generalize (lg_sl ([.long p0]) ++ List.replicate (2 - (lg_sl ([.long p0])).length) Slot.unset).toArray = ls at hl ⊢
  have hl : lv_has ls 2 [(0, .long p0)] := hl
  have h := hF
  clear hF
  unfold F_X9_lowestOf at h
  refine lv_lload_n hx hb dX9_lowestOf_0 rfl (lv_at hl 0 rfl) ?_
  refine lv_lconst (v := 0) hx hb dX9_lowestOf_1 (by decide) ?_
  refine W.lcmp hx hb dX9_lowestOf_2 ?_
  refine lv_if_ne (tgt := 10) hx hb dX9_lowestOf_3 (by decide) (fun c3 => ?_) (fun c3 => ?_)
  · have c3 := fun z => c3 ((lg_cmp_eq _ _).mpr z)
    have h := if_ c3 h
    refine lv_lload_n hx hb dX9_lowestOf_10 rfl (lv_at hl 0 rfl) ?_
    obtain ⟨r11, hc11, h⟩ := obn_h h
    refine pz_callS (As := [.long p0]) (rest := []) hcf (c_J13_numberOfTrailingZeros_95d88 l p0 r11 hc11) (va_cwS 1 hts gX9_lowestOf_J13_numberOfTrailingZeros_95d88 rfl rfl rfl ydJ13_numberOfTrailingZeros_95d88 ⟨Nat.le_of_ble_eq_true rfl, Nat.le_of_ble_eq_true rfl⟩) hnw rfl hl.1 rfl (Nat.le_of_ble_eq_true rfl) dX9_lowestOf_11 ⟨Nat.le_of_ble_eq_true rfl, Nat.le_of_ble_eq_true rfl⟩ ?_
    have e1 := Option.some.inj h
    subst e1
    exact W.iret hx hb hr (fun t ht _ => ⟨rfl, ht⟩) no_q dX9_lowestOf_14
  · have c3 := (lg_cmp_eq _ _).mp c3
    have h := it_ c3 h
    refine lv_iconst (v := -1) hx hb dX9_lowestOf_6 (by decide) ?_
    refine lv_goto (tgt := 14) hx hb dX9_lowestOf_7 (by decide) ?_
    have e1 := Option.some.inj h
    subst e1
    exact W.iret hx hb hr (fun t ht _ => ⟨rfl, ht⟩) no_q dX9_lowestOf_14

noncomputable abbrev rmX9_productOf : Room := { frames := 0, cells := 0, slots := 0, locals := 0 }
theorem ydX9_productOf : yX9_productOf.cls ≠ "java/lang/invoke/MethodHandle" ∧ yX9_productOf.cls ≠ "java/lang/invoke/VarHandle" ∧ (parseMethodDescriptor yX9_productOf.desc).map (fun d => d.parameters.length) = some 2 := by decide +kernel
noncomputable def S_X9_productOf_6 (z0_6 : Int64) (z2_6 : Int64) (k39 : Int64 → Option (Int64)) (ih6 : Int64 → Int32 → Option (Int64)) (y4_6 : Int64) (y6_6 : Int32) : Option (Int64) :=
 (if (40 : Int32) ≤ y6_6 then
 k39 y4_6
else
 (if ((z2_6 >>> (y6_6.toInt64 &&& 63)) &&& (1 : Int64)) = (1 : Int64) then
 bnd (y4_6 ^^^ (z0_6 <<< (y6_6.toInt64 &&& 63))) (fun x4_31 =>
 bnd (y6_6 + 1) (fun x6_33 =>
 ih6 x4_31 x6_33))
else
 bnd (y6_6 + 1) (fun x6_33 =>
 ih6 y4_6 x6_33)))
noncomputable def F_X9_productOf (p0 : Int64) (p1 : Int64) : Option (Int64) :=
 LQ2 (S_X9_productOf_6 p0 p1 (fun y4_6_39 =>
 some y4_6_39)) 20000 (0 : Int64) (0 : Int32)
set_option maxHeartbeats 4000000 in
set_option maxRecDepth 100000 in
theorem c_X9_productOf (l : Launch) (p0 : Int64) (p1 : Int64) (r0 : Int64) (hF : F_X9_productOf p0 p1 = some r0) : Met l yX9_productOf wsX9_productOf rmX9_productOf (va_Pc [.long p0, .long p1] NW) (k2_QcV (.long r0)) 0 0 (fun _ => False) := by
  refine Met.ofW (cc := cX9_productOf) (maxL := 7) (ret := (some .long)) (by decide) rfl ?_
  intro p e s m args below meth c s₁ B hml hv
  obtain ⟨rfl, hnw⟩ := hv
  have hx := B.exec
  have hb := B.bytes
  have hr := B.returns
  have hts := atoms_spec (ws := wsX9_productOf) B.pre
  have hown : s.vm.findClass RX9 = some m.cls := findClass_of_methodNamed B.named
  have hlocks := B.notSynchronized
  have hcf : CallFix _ _ _ _ _ _ _ _ _ := ⟨hx, hb, hml, hown, hts⟩
  have hl := lv_entry ([.long p0, .long p1]) (n := 7) (Nat.le_of_ble_eq_true rfl)
  rw [lg_entry_eq]
  generalize (lg_sl ([.long p0, .long p1]) ++ List.replicate (7 - (lg_sl ([.long p0, .long p1])).length) Slot.unset).toArray = ls at hl ⊢
  have hl : lv_has ls 7 [(0, .long p0), (2, .long p1)] := hl
  have h := hF
  clear hF
  unfold F_X9_productOf at h
  refine lv_lconst (v := 0) hx hb dX9_productOf_0 (by decide) ?_
  refine lv_lstore (lv' := [(4, .long (0 : Int64)), (0, .long p0), (2, .long p1)]) hx hb dX9_productOf_1 hl (by decide) rfl (fun ls hl => ?_)
  refine lv_iconst (v := 0) hx hb dX9_productOf_3 (by decide) ?_
  refine lv_istore (lv' := [(6, .int (0 : Int32)), (4, .long (0 : Int64)), (0, .long p0), (2, .long p1)]) hx hb dX9_productOf_4 hl (by decide) rfl (fun ls hl => ?_)
  refine LQ2_k1 (M := fun (y4_6 : Int64) (y6_6 : Int32) => ∀ (ls : Array Slot), lv_has ls 7 [(0, .long p0), (2, .long p1), (4, .long y4_6), (6, .int y6_6)] → W p l e rmX9_productOf s m ([.long p0, .long p1] : List Value).toArray below meth c s.heap [] 0 0 (MQ below (k2_QcV (.long r0)) ([.long p0, .long p1] : List Value).toArray s 0 0 (fun _ => False)) (F0 m 6 ls [])) ?_ _ _ _ h ls (lv_sub hl [2, 3, 1, 0] rfl)
  intro k39 hk39 ih6 hih6 y4_6 y6_6 h ls hl
  unfold S_X9_productOf_6 at h
  refine lv_iload hx hb dX9_productOf_6 (lv_at hl 3 rfl) ?_
  refine lv_bipush (v := 40) hx hb dX9_productOf_8 (by decide) ?_
  refine lv_icmp_ge (tgt := 39) hx hb dX9_productOf_10 (by decide) (fun c10 => ?_) (fun c10 => ?_)
  · have h := it_ c10 h
    rw [hk39] at h
    refine lv_lload hx hb dX9_productOf_39 (lv_at hl 2 rfl) ?_
    have e1 := Option.some.inj h
    subst e1
    exact W.lret hx hb hr (fun t ht _ => ⟨rfl, ht⟩) no_q dX9_productOf_41
  · have h := if_ c10 h
    refine lv_lload_n hx hb dX9_productOf_13 rfl (lv_at hl 1 rfl) ?_
    refine lv_iload hx hb dX9_productOf_14 (lv_at hl 3 rfl) ?_
    refine lv_lshr (v := p1 >>> (y6_6.toInt64 &&& 63)) hx hb dX9_productOf_16 rfl ?_
    refine lv_lconst (v := 1) hx hb dX9_productOf_17 (by decide) ?_
    refine lv_land hx hb dX9_productOf_18 ?_
    refine lv_lconst (v := 1) hx hb dX9_productOf_19 (by decide) ?_
    refine W.lcmp hx hb dX9_productOf_20 ?_
    refine lv_if_ne (tgt := 33) hx hb dX9_productOf_21 (by decide) (fun c21 => ?_) (fun c21 => ?_)
    · have c21 := fun z => c21 ((lg_cmp_eq _ _).mpr z)
      have h := if_ c21 h
      obtain ⟨x6_33, e_x6_33⟩ : ∃ z : Int32, z = y6_6 + 1 := ⟨_, rfl⟩
      have h := bnd_h e_x6_33 h
      refine lv_iinc (v := x6_33) (lv' := [(6, .int x6_33), (0, .long p0), (2, .long p1), (4, .long y4_6)]) hx hb dX9_productOf_33 hl (k := 3) rfl (by rw [e_x6_33]; rfl) (by decide) rfl (fun ls hl => ?_)
      refine lv_goto (tgt := 6) hx hb dX9_productOf_36 (by decide) ?_
      exact hih6 y4_6 x6_33 h ls (lv_sub hl [1, 2, 3, 0] rfl)
    · have c21 := (lg_cmp_eq _ _).mp c21
      have h := it_ c21 h
      refine lv_lload hx hb dX9_productOf_24 (lv_at hl 2 rfl) ?_
      refine lv_lload_n hx hb dX9_productOf_26 rfl (lv_at hl 0 rfl) ?_
      refine lv_iload hx hb dX9_productOf_27 (lv_at hl 3 rfl) ?_
      refine lv_lshl (v := p0 <<< (y6_6.toInt64 &&& 63)) hx hb dX9_productOf_29 rfl ?_
      refine lv_lxor hx hb dX9_productOf_30 ?_
      refine lv_topl (fun x4_31 e_x4_31 => ?_)
      have h := bnd_h e_x4_31 h
      refine lv_lstore (lv' := [(4, .long x4_31), (0, .long p0), (2, .long p1), (6, .int y6_6)]) hx hb dX9_productOf_31 hl (by decide) rfl (fun ls hl => ?_)
      obtain ⟨x6_33, e_x6_33⟩ : ∃ z : Int32, z = y6_6 + 1 := ⟨_, rfl⟩
      have h := bnd_h e_x6_33 h
      refine lv_iinc (v := x6_33) (lv' := [(6, .int x6_33), (4, .long x4_31), (0, .long p0), (2, .long p1)]) hx hb dX9_productOf_33 hl (k := 3) rfl (by rw [e_x6_33]; rfl) (by decide) rfl (fun ls hl => ?_)
      refine lv_goto (tgt := 6) hx hb dX9_productOf_36 (by decide) ?_
      exact hih6 x4_31 x6_33 h ls (lv_sub hl [2, 3, 1, 0] rfl)
