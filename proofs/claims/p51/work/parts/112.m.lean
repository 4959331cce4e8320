noncomputable abbrev rmX7_isSound : Room := { frames := 6, cells := 0, slots := 0, locals := 161 }
theorem ydX7_isSound : yX7_isSound.cls = RX7 ∧ yX7_isSound.cls ≠ "java/lang/invoke/MethodHandle" ∧ yX7_isSound.cls ≠ "java/lang/invoke/VarHandle" ∧ (parseMethodDescriptor yX7_isSound.desc).map (fun d => d.parameters.length) = some 0 := by decide +kernel
noncomputable def F_X7_isSound (f_t_forms : Nat → Int64) (c_t_row_taps : Int64) (c_t_rows_first : Int64) (c_t_rows_ofOne : Int64) (c_t_rows_ofOther : Int64) (c_t_rows_second : Int64) (c_t_rows_secondOfOne : Int64) (c_t_rows_secondOfOther : Int64) (c_t_factors_parts_size : Int32) (f_t_factors_parts_held : Nat → Int64) (c_t_found_size : Int32) (f_t_found_held : Nat → Int64) (c_t_foundOtherwise_size : Int32) (f_t_foundOtherwise_held : Nat → Int64) (f_t_foundOtherwise_before : Nat → Int64) : Option (Int32 × Int64 × Int64 × Int64 × Int64 × Int64 × Int64 × Int32 × (Nat → Int64) × Int32 × (Nat → Int64) × Int32 × (Nat → Int64) × (Nat → Int64)) :=
 bnd ((f_t_forms (0 : Int32).toNatClampNeg) &&& (511 : Int64)) (fun x1_10 =>
 bnd ((f_t_forms (1 : Int32).toNatClampNeg) &&& (511 : Int64)) (fun x3_21 =>
 obn (F_X7_isProductSound x1_10 x3_21) (fun r25 =>
 (if r25 = 0 then
 some ((0 : Int32), c_t_rows_first, c_t_rows_ofOne, c_t_rows_ofOther, c_t_rows_second, c_t_rows_secondOfOne, c_t_rows_secondOfOther, c_t_factors_parts_size, f_t_factors_parts_held, c_t_found_size, f_t_found_held, c_t_foundOtherwise_size, f_t_foundOtherwise_held, f_t_foundOtherwise_before)
else
 obn7 (F_X7_isCommonSound x1_10 x3_21) (fun r34 c_t_rows_first_34 c_t_rows_ofOne_34 c_t_rows_ofOther_34 c_t_rows_second_34 c_t_rows_secondOfOne_34 c_t_rows_secondOfOther_34 =>
 (if r34 = 0 then
 some ((0 : Int32), c_t_rows_first_34, c_t_rows_ofOne_34, c_t_rows_ofOther_34, c_t_rows_second_34, c_t_rows_secondOfOne_34, c_t_rows_secondOfOther_34, c_t_factors_parts_size, f_t_factors_parts_held, c_t_found_size, f_t_found_held, c_t_foundOtherwise_size, f_t_foundOtherwise_held, f_t_foundOtherwise_before)
else
 obn (F_X6_isWheel c_t_row_taps) (fun r47 =>
 (if r47 = 0 then
 some ((0 : Int32), c_t_rows_first_34, c_t_rows_ofOne_34, c_t_rows_ofOther_34, c_t_rows_second_34, c_t_rows_secondOfOne_34, c_t_rows_secondOfOther_34, c_t_factors_parts_size, f_t_factors_parts_held, c_t_found_size, f_t_found_held, c_t_foundOtherwise_size, f_t_foundOtherwise_held, f_t_foundOtherwise_before)
else
 obn (F_X0_degreeOf x1_10) (fun r56 =>
 (if (1 : Int32) ≤ r56 then
 obn2 (F_X1_findByTrying f_t_found_held x1_10) (fun c_t_found_size_74 f_t_found_held_74 =>
 obn4 (F_X1_findByDegrees c_t_factors_parts_size f_t_factors_parts_held f_t_foundOtherwise_held x1_10) (fun c_t_factors_parts_size_86 f_t_factors_parts_held_86 c_t_foundOtherwise_size_86 f_t_foundOtherwise_held_86 =>
 obn3 (F_X3_arrange c_t_foundOtherwise_size_86 f_t_foundOtherwise_held_86 f_t_foundOtherwise_before (0 : Int32)) (fun r94 f_t_foundOtherwise_held_94 f_t_foundOtherwise_before_94 =>
 obn (F_X3_isSameAs c_t_found_size_74 f_t_found_held_74 c_t_foundOtherwise_size_86 f_t_foundOtherwise_held_94) (fun r106 =>
 (if r106 = 0 then
 some ((0 : Int32), c_t_rows_first_34, c_t_rows_ofOne_34, c_t_rows_ofOther_34, c_t_rows_second_34, c_t_rows_secondOfOne_34, c_t_rows_secondOfOther_34, c_t_factors_parts_size_86, f_t_factors_parts_held_86, c_t_found_size_74, f_t_found_held_74, c_t_foundOtherwise_size_86, f_t_foundOtherwise_held_94, f_t_foundOtherwise_before_94)
else
 obn (F_X3_multipliedAll c_t_found_size_74 f_t_found_held_74) (fun r116 =>
 (if r116 = x1_10 then
 obn (F_X6_isWheel x1_10) (fun r127 =>
 (if r127 = 0 then
 some ((1 : Int32), c_t_rows_first_34, c_t_rows_ofOne_34, c_t_rows_ofOther_34, c_t_rows_second_34, c_t_rows_secondOfOne_34, c_t_rows_secondOfOther_34, c_t_factors_parts_size_86, f_t_factors_parts_held_86, c_t_found_size_74, f_t_found_held_74, c_t_foundOtherwise_size_86, f_t_foundOtherwise_held_94, f_t_foundOtherwise_before_94)
else
 obn (F_X6_periodByMultiplying x1_10) (fun r134 =>
 obn3 (F_X7_periodByFactors f_t_found_held_74 x1_10) (fun r139 c_t_found_size_139 f_t_found_held_139 =>
 (if r134 = r139 then
 some ((1 : Int32), c_t_rows_first_34, c_t_rows_ofOne_34, c_t_rows_ofOther_34, c_t_rows_second_34, c_t_rows_secondOfOne_34, c_t_rows_secondOfOther_34, c_t_factors_parts_size_86, f_t_factors_parts_held_86, c_t_found_size_139, f_t_found_held_139, c_t_foundOtherwise_size_86, f_t_foundOtherwise_held_94, f_t_foundOtherwise_before_94)
else
 some ((0 : Int32), c_t_rows_first_34, c_t_rows_ofOne_34, c_t_rows_ofOther_34, c_t_rows_second_34, c_t_rows_secondOfOne_34, c_t_rows_secondOfOther_34, c_t_factors_parts_size_86, f_t_factors_parts_held_86, c_t_found_size_139, f_t_found_held_139, c_t_foundOtherwise_size_86, f_t_foundOtherwise_held_94, f_t_foundOtherwise_before_94))))))
else
 some ((0 : Int32), c_t_rows_first_34, c_t_rows_ofOne_34, c_t_rows_ofOther_34, c_t_rows_second_34, c_t_rows_secondOfOne_34, c_t_rows_secondOfOther_34, c_t_factors_parts_size_86, f_t_factors_parts_held_86, c_t_found_size_74, f_t_found_held_74, c_t_foundOtherwise_size_86, f_t_foundOtherwise_held_94, f_t_foundOtherwise_before_94))))))))
else
 some ((1 : Int32), c_t_rows_first_34, c_t_rows_ofOne_34, c_t_rows_ofOther_34, c_t_rows_second_34, c_t_rows_secondOfOne_34, c_t_rows_secondOfOther_34, c_t_factors_parts_size, f_t_factors_parts_held, c_t_found_size, f_t_found_held, c_t_foundOtherwise_size, f_t_foundOtherwise_held, f_t_foundOtherwise_before)))))))))))
set_option maxHeartbeats 4000000 in
set_option maxRecDepth 100000 in
theorem c_X7_isSound (l : Launch) (D : va_G) (cyJ : ClassId) (sz : Nat) (a_t : Nat) (a_t_forms : Nat) (a_t_roll : Nat) (a_t_row : Nat) (a_t_rows : Nat) (a_t_factors : Nat) (a_t_found : Nat) (a_t_foundOtherwise : Nat) (a_t_factors_parts : Nat) (a_t_factors_parts_held : Nat) (a_t_factors_parts_before : Nat) (a_t_found_held : Nat) (a_t_found_before : Nat) (a_t_foundOtherwise_held : Nat) (a_t_foundOtherwise_before : Nat) (c_t_acts : Int32) (c_t_refusals : Int32) (c_t_knocks : Int32) (f_t_forms : Nat → Int64) (c_t_row_taps : Int64) (c_t_row_cells : Int64) (c_t_rows_first : Int64) (c_t_rows_ofOne : Int64) (c_t_rows_ofOther : Int64) (c_t_rows_second : Int64) (c_t_rows_secondOfOne : Int64) (c_t_rows_secondOfOther : Int64) (c_t_factors_parts_size : Int32) (f_t_factors_parts_held : Nat → Int64) (c_t_found_size : Int32) (f_t_found_held : Nat → Int64) (c_t_foundOtherwise_size : Int32) (f_t_foundOtherwise_held : Nat → Int64) (f_t_foundOtherwise_before : Nat → Int64) (r0 : Int32) (o_c_t_rows_first : Int64) (o_c_t_rows_ofOne : Int64) (o_c_t_rows_ofOther : Int64) (o_c_t_rows_second : Int64) (o_c_t_rows_secondOfOne : Int64) (o_c_t_rows_secondOfOther : Int64) (o_c_t_factors_parts_size : Int32) (o_f_t_factors_parts_held : Nat → Int64) (o_c_t_found_size : Int32) (o_f_t_found_held : Nat → Int64) (o_c_t_foundOtherwise_size : Int32) (o_f_t_foundOtherwise_held : Nat → Int64) (o_f_t_foundOtherwise_before : Nat → Int64) (hF : F_X7_isSound f_t_forms c_t_row_taps c_t_rows_first c_t_rows_ofOne c_t_rows_ofOther c_t_rows_second c_t_rows_secondOfOne c_t_rows_secondOfOther c_t_factors_parts_size f_t_factors_parts_held c_t_found_size f_t_found_held c_t_foundOtherwise_size f_t_foundOtherwise_held f_t_foundOtherwise_before = some (r0, o_c_t_rows_first, o_c_t_rows_ofOne, o_c_t_rows_ofOther, o_c_t_rows_second, o_c_t_rows_secondOfOne, o_c_t_rows_secondOfOther, o_c_t_factors_parts_size, o_f_t_factors_parts_held, o_c_t_found_size, o_f_t_found_held, o_c_t_foundOtherwise_size, o_f_t_foundOtherwise_held, o_f_t_foundOtherwise_before)) : Met l yX7_isSound wsX7_isSound rmX7_isSound (va_Pc [.ref a_t] (wPD D [(cyJ, .long)] [(a_t, .inr (6, [.ref a_t_forms, .ref a_t_roll, .ref a_t_row, .ref a_t_rows, .ref a_t_factors, .ref a_t_found, .ref a_t_foundOtherwise, .int c_t_acts, .int c_t_refusals, .int c_t_knocks])), (a_t_forms, .inl (cyJ, 6, .inr (.inl f_t_forms))), (a_t_row, .inr (5, [.long c_t_row_taps, .long c_t_row_cells])), (a_t_rows, .inr (4, [.long c_t_rows_first, .long c_t_rows_ofOne, .long c_t_rows_ofOther, .long c_t_rows_second, .long c_t_rows_secondOfOne, .long c_t_rows_secondOfOther])), (a_t_factors, .inr (2, [.ref a_t_factors_parts])), (a_t_factors_parts, .inr (3, [.ref a_t_factors_parts_held, .ref a_t_factors_parts_before, .int c_t_factors_parts_size])), (a_t_factors_parts_held, .inl (cyJ, 12, .inr (.inl f_t_factors_parts_held))), (a_t_found, .inr (3, [.ref a_t_found_held, .ref a_t_found_before, .int c_t_found_size])), (a_t_found_held, .inl (cyJ, 12, .inr (.inl f_t_found_held))), (a_t_foundOtherwise, .inr (3, [.ref a_t_foundOtherwise_held, .ref a_t_foundOtherwise_before, .int c_t_foundOtherwise_size])), (a_t_foundOtherwise_held, .inl (cyJ, 12, .inr (.inl f_t_foundOtherwise_held))), (a_t_foundOtherwise_before, .inl (cyJ, 12, .inr (.inl f_t_foundOtherwise_before)))] sz)) (va_Qi (fun (r : Int32) (_ : Unit) => r = r0) (fun _ t => wQA D [(a_t, .inr (6, [.ref a_t_forms, .ref a_t_roll, .ref a_t_row, .ref a_t_rows, .ref a_t_factors, .ref a_t_found, .ref a_t_foundOtherwise, .int c_t_acts, .int c_t_refusals, .int c_t_knocks])), (a_t_forms, .inl (cyJ, 6, .inr (.inl f_t_forms))), (a_t_row, .inr (5, [.long c_t_row_taps, .long c_t_row_cells])), (a_t_rows, .inr (4, [.long o_c_t_rows_first, .long o_c_t_rows_ofOne, .long o_c_t_rows_ofOther, .long o_c_t_rows_second, .long o_c_t_rows_secondOfOne, .long o_c_t_rows_secondOfOther])), (a_t_factors, .inr (2, [.ref a_t_factors_parts])), (a_t_factors_parts, .inr (3, [.ref a_t_factors_parts_held, .ref a_t_factors_parts_before, .int o_c_t_factors_parts_size])), (a_t_factors_parts_held, .inl (cyJ, 12, .inr (.inl o_f_t_factors_parts_held))), (a_t_found, .inr (3, [.ref a_t_found_held, .ref a_t_found_before, .int o_c_t_found_size])), (a_t_found_held, .inl (cyJ, 12, .inr (.inl o_f_t_found_held))), (a_t_foundOtherwise, .inr (3, [.ref a_t_foundOtherwise_held, .ref a_t_foundOtherwise_before, .int o_c_t_foundOtherwise_size])), (a_t_foundOtherwise_held, .inl (cyJ, 12, .inr (.inl o_f_t_foundOtherwise_held))), (a_t_foundOtherwise_before, .inl (cyJ, 12, .inr (.inl o_f_t_foundOtherwise_before)))] (va_A [(a_t, .inr (6, [.ref a_t_forms, .ref a_t_roll, .ref a_t_row, .ref a_t_rows, .ref a_t_factors, .ref a_t_found, .ref a_t_foundOtherwise, .int c_t_acts, .int c_t_refusals, .int c_t_knocks])), (a_t_forms, .inl (cyJ, 6, .inr (.inl f_t_forms))), (a_t_row, .inr (5, [.long c_t_row_taps, .long c_t_row_cells])), (a_t_rows, .inr (4, [.long c_t_rows_first, .long c_t_rows_ofOne, .long c_t_rows_ofOther, .long c_t_rows_second, .long c_t_rows_secondOfOne, .long c_t_rows_secondOfOther])), (a_t_factors, .inr (2, [.ref a_t_factors_parts])), (a_t_factors_parts, .inr (3, [.ref a_t_factors_parts_held, .ref a_t_factors_parts_before, .int c_t_factors_parts_size])), (a_t_factors_parts_held, .inl (cyJ, 12, .inr (.inl f_t_factors_parts_held))), (a_t_found, .inr (3, [.ref a_t_found_held, .ref a_t_found_before, .int c_t_found_size])), (a_t_found_held, .inl (cyJ, 12, .inr (.inl f_t_found_held))), (a_t_foundOtherwise, .inr (3, [.ref a_t_foundOtherwise_held, .ref a_t_foundOtherwise_before, .int c_t_foundOtherwise_size])), (a_t_foundOtherwise_held, .inl (cyJ, 12, .inr (.inl f_t_foundOtherwise_held))), (a_t_foundOtherwise_before, .inl (cyJ, 12, .inr (.inl f_t_foundOtherwise_before)))] sz) t) (va_A [(a_t, .inr (6, [.ref a_t_forms, .ref a_t_roll, .ref a_t_row, .ref a_t_rows, .ref a_t_factors, .ref a_t_found, .ref a_t_foundOtherwise, .int c_t_acts, .int c_t_refusals, .int c_t_knocks])), (a_t_forms, .inl (cyJ, 6, .inr (.inl f_t_forms))), (a_t_row, .inr (5, [.long c_t_row_taps, .long c_t_row_cells])), (a_t_rows, .inr (4, [.long c_t_rows_first, .long c_t_rows_ofOne, .long c_t_rows_ofOther, .long c_t_rows_second, .long c_t_rows_secondOfOne, .long c_t_rows_secondOfOther])), (a_t_factors, .inr (2, [.ref a_t_factors_parts])), (a_t_factors_parts, .inr (3, [.ref a_t_factors_parts_held, .ref a_t_factors_parts_before, .int c_t_factors_parts_size])), (a_t_factors_parts_held, .inl (cyJ, 12, .inr (.inl f_t_factors_parts_held))), (a_t_found, .inr (3, [.ref a_t_found_held, .ref a_t_found_before, .int c_t_found_size])), (a_t_found_held, .inl (cyJ, 12, .inr (.inl f_t_found_held))), (a_t_foundOtherwise, .inr (3, [.ref a_t_foundOtherwise_held, .ref a_t_foundOtherwise_before, .int c_t_foundOtherwise_size])), (a_t_foundOtherwise_held, .inl (cyJ, 12, .inr (.inl f_t_foundOtherwise_held))), (a_t_foundOtherwise_before, .inl (cyJ, 12, .inr (.inl f_t_foundOtherwise_before)))] sz)) 0 0 (va_A [(a_t, .inr (6, [.ref a_t_forms, .ref a_t_roll, .ref a_t_row, .ref a_t_rows, .ref a_t_factors, .ref a_t_found, .ref a_t_foundOtherwise, .int c_t_acts, .int c_t_refusals, .int c_t_knocks])), (a_t_forms, .inl (cyJ, 6, .inr (.inl f_t_forms))), (a_t_row, .inr (5, [.long c_t_row_taps, .long c_t_row_cells])), (a_t_rows, .inr (4, [.long c_t_rows_first, .long c_t_rows_ofOne, .long c_t_rows_ofOther, .long c_t_rows_second, .long c_t_rows_secondOfOne, .long c_t_rows_secondOfOther])), (a_t_factors, .inr (2, [.ref a_t_factors_parts])), (a_t_factors_parts, .inr (3, [.ref a_t_factors_parts_held, .ref a_t_factors_parts_before, .int c_t_factors_parts_size])), (a_t_factors_parts_held, .inl (cyJ, 12, .inr (.inl f_t_factors_parts_held))), (a_t_found, .inr (3, [.ref a_t_found_held, .ref a_t_found_before, .int c_t_found_size])), (a_t_found_held, .inl (cyJ, 12, .inr (.inl f_t_found_held))), (a_t_foundOtherwise, .inr (3, [.ref a_t_foundOtherwise_held, .ref a_t_foundOtherwise_before, .int c_t_foundOtherwise_size])), (a_t_foundOtherwise_held, .inl (cyJ, 12, .inr (.inl f_t_foundOtherwise_held))), (a_t_foundOtherwise_before, .inl (cyJ, 12, .inr (.inl f_t_foundOtherwise_before)))] sz) := by
  refine Met.ofW (cc := cX7_isSound) (maxL := 5) (ret := (some .boolean)) (by decide) rfl ?_
  intro p e s m args below meth c s₁ B hml hv
  obtain ⟨rfl, hsz, hP, hK, hD0, hnw⟩ := hv
  have hx := B.exec
  have hb := B.bytes
  have hr := B.returns
  have hts := atoms_spec (ws := wsX7_isSound) B.pre
  have hown : s.vm.findClass RX7 = some m.cls := findClass_of_methodNamed B.named
  have hlocks := B.notSynchronized
  have hcf : CallFix _ _ _ _ _ _ _ _ _ := ⟨hx, hb, hml, hown, hts⟩
  have hinX7 : ∀ w ∈ u_ws RX7 TX7 10, w ∈ wsX7_isSound := by decide +kernel
  have hfl9 := hts (.fieldLink RX7 9 "Formwheel" "forms" "[J") (by decide +kernel)
  have hfl23 := hts (.fieldLink RX7 23 "Formwheel" "row" "LFormwheel$ShiftRow;") (by decide +kernel)
  have hinX5 : ∀ w ∈ u_ws RX5 TX5 2, w ∈ wsX7_isSound := by decide +kernel
  have hfl218 := hnw.use (A := ([.ref a_t] : List Value).toArray) (w := .fieldLinkNest RX7 218 "Formwheel$ShiftRow" "taps" "J" "Formwheel") (by decide +kernel)
  have hfl37 := hts (.fieldLink RX7 37 "Formwheel" "factors" "LFormwheel$Factors;") (by decide +kernel)
  have hfl41 := hts (.fieldLink RX7 41 "Formwheel" "found" "LFormwheel$Roll;") (by decide +kernel)
  have hfl44 := hts (.fieldLink RX7 44 "Formwheel" "foundOtherwise" "LFormwheel$Roll;") (by decide +kernel)
  subst hsz
  have hD := hD0.self (sz := s.heap.size)
  generalize hAe : va_A [(a_t, .inr (6, [.ref a_t_forms, .ref a_t_roll, .ref a_t_row, .ref a_t_rows, .ref a_t_factors, .ref a_t_found, .ref a_t_foundOtherwise, .int c_t_acts, .int c_t_refusals, .int c_t_knocks])), (a_t_forms, .inl (cyJ, 6, .inr (.inl f_t_forms))), (a_t_row, .inr (5, [.long c_t_row_taps, .long c_t_row_cells])), (a_t_rows, .inr (4, [.long c_t_rows_first, .long c_t_rows_ofOne, .long c_t_rows_ofOther, .long c_t_rows_second, .long c_t_rows_secondOfOne, .long c_t_rows_secondOfOther])), (a_t_factors, .inr (2, [.ref a_t_factors_parts])), (a_t_factors_parts, .inr (3, [.ref a_t_factors_parts_held, .ref a_t_factors_parts_before, .int c_t_factors_parts_size])), (a_t_factors_parts_held, .inl (cyJ, 12, .inr (.inl f_t_factors_parts_held))), (a_t_found, .inr (3, [.ref a_t_found_held, .ref a_t_found_before, .int c_t_found_size])), (a_t_found_held, .inl (cyJ, 12, .inr (.inl f_t_found_held))), (a_t_foundOtherwise, .inr (3, [.ref a_t_foundOtherwise_held, .ref a_t_foundOtherwise_before, .int c_t_foundOtherwise_size])), (a_t_foundOtherwise_held, .inl (cyJ, 12, .inr (.inl f_t_foundOtherwise_held))), (a_t_foundOtherwise_before, .inl (cyJ, 12, .inr (.inl f_t_foundOtherwise_before)))] s.heap.size = A at hD ⊢
  have hA : ∀ q : Nat, s.heap.size ≤ q → A q := fun q h => by rw [← hAe]; exact Or.inr h
  have hS : va_S A s.heap s.heap [] := va_S.rf
  have hP : va_P D vwCl [(a_t, .inr (6, [.ref a_t_forms, .ref a_t_roll, .ref a_t_row, .ref a_t_rows, .ref a_t_factors, .ref a_t_found, .ref a_t_foundOtherwise, .int c_t_acts, .int c_t_refusals, .int c_t_knocks])), (a_t_forms, .inl (cyJ, 6, .inr (.inl f_t_forms))), (a_t_row, .inr (5, [.long c_t_row_taps, .long c_t_row_cells])), (a_t_rows, .inr (4, [.long c_t_rows_first, .long c_t_rows_ofOne, .long c_t_rows_ofOther, .long c_t_rows_second, .long c_t_rows_secondOfOne, .long c_t_rows_secondOfOther])), (a_t_factors, .inr (2, [.ref a_t_factors_parts])), (a_t_factors_parts, .inr (3, [.ref a_t_factors_parts_held, .ref a_t_factors_parts_before, .int c_t_factors_parts_size])), (a_t_factors_parts_held, .inl (cyJ, 12, .inr (.inl f_t_factors_parts_held))), (a_t_found, .inr (3, [.ref a_t_found_held, .ref a_t_found_before, .int c_t_found_size])), (a_t_found_held, .inl (cyJ, 12, .inr (.inl f_t_found_held))), (a_t_foundOtherwise, .inr (3, [.ref a_t_foundOtherwise_held, .ref a_t_foundOtherwise_before, .int c_t_foundOtherwise_size])), (a_t_foundOtherwise_held, .inl (cyJ, 12, .inr (.inl f_t_foundOtherwise_held))), (a_t_foundOtherwise_before, .inl (cyJ, 12, .inr (.inl f_t_foundOtherwise_before)))] s.heap := hP
  have hK0 := hK
  have hl := lv_entry ([.ref a_t]) (n := 5) (Nat.le_of_ble_eq_true rfl)
  rw [lg_entry_eq]
  generalize (lg_sl ([.ref a_t]) ++ List.replicate (5 - (lg_sl ([.ref a_t])).length) Slot.unset).toArray = ls at hl ⊢
  have hl : lv_has ls 5 [(0, .ref a_t)] := hl
  have h := hF
  clear hF
  unfold F_X7_isSound at h
  refine lv_aload_n hx hb dX7_isSound_0 rfl (lv_at hl 0 rfl) ?_
  refine va_get (D := D) (ci := 6) (v := .ref a_t_forms) (C := RX7) (T := TX7) (N := 10) hx hb hts hinX7 hown hK hP 0 rfl rfl 0 (by decide) hfl9 (fun _ h9 => h9) rfl dX7_isSound_1 ?_
  refine lv_iconst (v := 0) hx hb dX7_isSound_4 (by decide) ?_
  refine va_lald hx hb hK hP 1 0 rfl rfl (show ¬ ((0 : Int32) < 0 ∨ 6 ≤ (0 : Int32).toNatClampNeg) from by decide) dX7_isSound_5 ?_
  refine lv_ldc2 hx hb hown (hts (.constantLong RX7 273 (511)) (by decide +kernel)) dX7_isSound_6 ?_
  refine lv_land hx hb dX7_isSound_9 ?_
  refine lv_topl (fun x1_10 e_x1_10 => ?_)
  have h := bnd_h e_x1_10 h
  refine lv_lstore_n (lv' := [(1, .long x1_10), (0, .ref a_t)]) hx hb dX7_isSound_10 rfl hl (by decide) rfl (fun ls hl => ?_)
  refine lv_aload_n hx hb dX7_isSound_11 rfl (lv_at hl 1 rfl) ?_
  refine va_get (D := D) (ci := 6) (v := .ref a_t_forms) (C := RX7) (T := TX7) (N := 10) hx hb hts hinX7 hown hK hP 0 rfl rfl 0 (by decide) hfl9 (fun _ h9 => h9) rfl dX7_isSound_12 ?_
  refine lv_iconst (v := 1) hx hb dX7_isSound_15 (by decide) ?_
  refine va_lald hx hb hK hP 1 0 rfl rfl (show ¬ ((1 : Int32) < 0 ∨ 6 ≤ (1 : Int32).toNatClampNeg) from by decide) dX7_isSound_16 ?_
  refine lv_ldc2 hx hb hown (hts (.constantLong RX7 273 (511)) (by decide +kernel)) dX7_isSound_17 ?_
  refine lv_land hx hb dX7_isSound_20 ?_
  refine lv_topl (fun x3_21 e_x3_21 => ?_)
  have h := bnd_h e_x3_21 h
  refine lv_lstore_n (lv' := [(3, .long x3_21), (1, .long x1_10), (0, .ref a_t)]) hx hb dX7_isSound_21 rfl hl (by decide) rfl (fun ls hl => ?_)
  refine lv_aload_n hx hb dX7_isSound_22 rfl (lv_at hl 2 rfl) ?_
  refine lv_lload_n hx hb dX7_isSound_23 rfl (lv_at hl 1 rfl) ?_
  refine lv_lload_n hx hb dX7_isSound_24 rfl (lv_at hl 0 rfl) ?_
  obtain ⟨r25, hc25, h⟩ := obn_h h
  have hPc : va_P D vwCl [] s.heap := fun k q h => by simp at h
  refine rd_callV (As := [.long x1_10, .long x3_21]) (rest := []) hcf (c_X7_isProductSound l D cyJ a_t x1_10 x3_21 r25 hc25) (cwV 2 hts gX7_isSound_X7_isProductSound rfl rfl rfl ydX7_isProductSound ⟨Nat.le_of_ble_eq_true rfl, Nat.le_of_ble_eq_true rfl⟩) hnw hPc hK0 (va_recv hK hP (ci := 6) (q0 := 0) rfl rfl) rfl hl.1 rfl (Nat.le_of_ble_eq_true rfl) dX7_isSound_25 ⟨Nat.le_of_ble_eq_true rfl, Nat.le_of_ble_eq_true rfl⟩ ?_
  refine lv_if_eq (tgt := 53) hx hb dX7_isSound_28 (by decide) (fun c28 => ?_) (fun c28 => ?_)
  · have h := it_ c28 h
    refine lv_iconst (v := 0) hx hb dX7_isSound_53 (by decide) ?_
    obtain ⟨e0, e1, e2, e3, e4, e5, e6, e7, e8, e9, e10, e11, e12, e13⟩ := tup14 h
    subst e0
    subst e1
    subst e2
    subst e3
    subst e4
    subst e5
    subst e6
    subst e7
    subst e8
    subst e9
    subst e10
    subst e11
    subst e12
    subst e13
    have hP9 : va_P D vwCl [(a_t, .inr (6, [.ref a_t_forms, .ref a_t_roll, .ref a_t_row, .ref a_t_rows, .ref a_t_factors, .ref a_t_found, .ref a_t_foundOtherwise, .int c_t_acts, .int c_t_refusals, .int c_t_knocks])), (a_t_forms, .inl (cyJ, 6, .inr (.inl f_t_forms))), (a_t_row, .inr (5, [.long c_t_row_taps, .long c_t_row_cells])), (a_t_rows, .inr (4, [.long c_t_rows_first, .long c_t_rows_ofOne, .long c_t_rows_ofOther, .long c_t_rows_second, .long c_t_rows_secondOfOne, .long c_t_rows_secondOfOther])), (a_t_factors, .inr (2, [.ref a_t_factors_parts])), (a_t_factors_parts, .inr (3, [.ref a_t_factors_parts_held, .ref a_t_factors_parts_before, .int c_t_factors_parts_size])), (a_t_factors_parts_held, .inl (cyJ, 12, .inr (.inl f_t_factors_parts_held))), (a_t_found, .inr (3, [.ref a_t_found_held, .ref a_t_found_before, .int c_t_found_size])), (a_t_found_held, .inl (cyJ, 12, .inr (.inl f_t_found_held))), (a_t_foundOtherwise, .inr (3, [.ref a_t_foundOtherwise_held, .ref a_t_foundOtherwise_before, .int c_t_foundOtherwise_size])), (a_t_foundOtherwise_held, .inl (cyJ, 12, .inr (.inl f_t_foundOtherwise_held))), (a_t_foundOtherwise_before, .inl (cyJ, 12, .inr (.inl f_t_foundOtherwise_before)))] s.heap := hP.sub [0, 1, 2, 3, 4, 5, 6, 7, 8, 9, 10, 11] rfl
    have hD9 : va_D A [(a_t, .inr (6, [.ref a_t_forms, .ref a_t_roll, .ref a_t_row, .ref a_t_rows, .ref a_t_factors, .ref a_t_found, .ref a_t_foundOtherwise, .int c_t_acts, .int c_t_refusals, .int c_t_knocks])), (a_t_forms, .inl (cyJ, 6, .inr (.inl f_t_forms))), (a_t_row, .inr (5, [.long c_t_row_taps, .long c_t_row_cells])), (a_t_rows, .inr (4, [.long c_t_rows_first, .long c_t_rows_ofOne, .long c_t_rows_ofOther, .long c_t_rows_second, .long c_t_rows_secondOfOne, .long c_t_rows_secondOfOther])), (a_t_factors, .inr (2, [.ref a_t_factors_parts])), (a_t_factors_parts, .inr (3, [.ref a_t_factors_parts_held, .ref a_t_factors_parts_before, .int c_t_factors_parts_size])), (a_t_factors_parts_held, .inl (cyJ, 12, .inr (.inl f_t_factors_parts_held))), (a_t_found, .inr (3, [.ref a_t_found_held, .ref a_t_found_before, .int c_t_found_size])), (a_t_found_held, .inl (cyJ, 12, .inr (.inl f_t_found_held))), (a_t_foundOtherwise, .inr (3, [.ref a_t_foundOtherwise_held, .ref a_t_foundOtherwise_before, .int c_t_foundOtherwise_size])), (a_t_foundOtherwise_held, .inl (cyJ, 12, .inr (.inl f_t_foundOtherwise_held))), (a_t_foundOtherwise_before, .inl (cyJ, 12, .inr (.inl f_t_foundOtherwise_before)))] := hD.sub [0, 1, 2, 3, 4, 5, 6, 7, 8, 9, 10, 11] (by decide) rfl
    exact W.zret hx hb hr narrow_b0 (fun t ht hW => ⟨⟨_, (), rfl, rfl, wQA_of ht hP9 hD9⟩, hS.F ht⟩) hS.2.2 dX7_isSound_54
  · have h := if_ c28 h
    refine lv_aload_n hx hb dX7_isSound_31 rfl (lv_at hl 2 rfl) ?_
    refine lv_lload_n hx hb dX7_isSound_32 rfl (lv_at hl 1 rfl) ?_
    refine lv_lload_n hx hb dX7_isSound_33 rfl (lv_at hl 0 rfl) ?_
    obtain ⟨r34, c_t_rows_first_34, c_t_rows_ofOne_34, c_t_rows_ofOther_34, c_t_rows_second_34, c_t_rows_secondOfOne_34, c_t_rows_secondOfOther_34, hc34, h⟩ := obn7_h h
    have hPc := hP.sub (ws' := [(a_t, .inr (6, [.ref a_t_forms, .ref a_t_roll, .ref a_t_row, .ref a_t_rows, .ref a_t_factors, .ref a_t_found, .ref a_t_foundOtherwise, .int c_t_acts, .int c_t_refusals, .int c_t_knocks])), (a_t_rows, .inr (4, [.long c_t_rows_first, .long c_t_rows_ofOne, .long c_t_rows_ofOther, .long c_t_rows_second, .long c_t_rows_secondOfOne, .long c_t_rows_secondOfOther]))]) [0, 3] rfl
    have hDc := hD.sub (ws' := [(a_t, .inr (6, [.ref a_t_forms, .ref a_t_roll, .ref a_t_row, .ref a_t_rows, .ref a_t_factors, .ref a_t_found, .ref a_t_foundOtherwise, .int c_t_acts, .int c_t_refusals, .int c_t_knocks])), (a_t_rows, .inr (4, [.long c_t_rows_first, .long c_t_rows_ofOne, .long c_t_rows_ofOther, .long c_t_rows_second, .long c_t_rows_secondOfOne, .long c_t_rows_secondOfOther]))]) [0, 3] (by decide) rfl
    refine hp_i (w1 := [(a_t, .inr (6, [.ref a_t_forms, .ref a_t_roll, .ref a_t_row, .ref a_t_rows, .ref a_t_factors, .ref a_t_found, .ref a_t_foundOtherwise, .int c_t_acts, .int c_t_refusals, .int c_t_knocks])), (a_t_rows, .inr (4, [.long c_t_rows_first_34, .long c_t_rows_ofOne_34, .long c_t_rows_ofOther_34, .long c_t_rows_second_34, .long c_t_rows_secondOfOne_34, .long c_t_rows_secondOfOther_34]))]) (wr := [(a_t_forms, .inl (cyJ, 6, .inr (.inl f_t_forms))), (a_t_row, .inr (5, [.long c_t_row_taps, .long c_t_row_cells])), (a_t_factors, .inr (2, [.ref a_t_factors_parts])), (a_t_factors_parts, .inr (3, [.ref a_t_factors_parts_held, .ref a_t_factors_parts_before, .int c_t_factors_parts_size])), (a_t_factors_parts_held, .inl (cyJ, 12, .inr (.inl f_t_factors_parts_held))), (a_t_found, .inr (3, [.ref a_t_found_held, .ref a_t_found_before, .int c_t_found_size])), (a_t_found_held, .inl (cyJ, 12, .inr (.inl f_t_found_held))), (a_t_foundOtherwise, .inr (3, [.ref a_t_foundOtherwise_held, .ref a_t_foundOtherwise_before, .int c_t_foundOtherwise_size])), (a_t_foundOtherwise_held, .inl (cyJ, 12, .inr (.inl f_t_foundOtherwise_held))), (a_t_foundOtherwise_before, .inl (cyJ, 12, .inr (.inl f_t_foundOtherwise_before)))]) (va_runV (As := [.long x1_10, .long x3_21]) (rest := []) hcf (c_X7_isCommonSound l D cyJ s.heap.size a_t a_t_forms a_t_roll a_t_row a_t_rows a_t_factors a_t_found a_t_foundOtherwise c_t_acts c_t_refusals c_t_knocks c_t_rows_first c_t_rows_ofOne c_t_rows_ofOther c_t_rows_second c_t_rows_secondOfOne c_t_rows_secondOfOther x1_10 x3_21 r34 c_t_rows_first_34 c_t_rows_ofOne_34 c_t_rows_ofOther_34 c_t_rows_second_34 c_t_rows_secondOfOne_34 c_t_rows_secondOfOther_34 hc34) (cwV 2 hts gX7_isSound_X7_isCommonSound rfl rfl rfl ydX7_isCommonSound ⟨Nat.le_of_ble_eq_true rfl, Nat.le_of_ble_eq_true rfl⟩) ⟨bl_PD, va_recv hK hP (ci := 6) (q0 := 0) rfl rfl, pr_PD hPc hK0 hDc hnw⟩ rfl rfl hl.1 rfl (lv_room (Nat.le_of_ble_eq_true rfl)) dX7_isSound_34 ⟨Nat.le_of_ble_eq_true rfl, Nat.le_of_ble_eq_true rfl⟩) hP hD hS hA [0, 3] [1, 2, 4, 5, 6, 7, 8, 9, 10, 11] rfl rfl (by decide) (by decide) (fun H locs hP hD hS => ?_)
    have hP : va_P D vwCl [(a_t_forms, .inl (cyJ, 6, .inr (.inl f_t_forms))), (a_t_row, .inr (5, [.long c_t_row_taps, .long c_t_row_cells])), (a_t_factors, .inr (2, [.ref a_t_factors_parts])), (a_t_factors_parts, .inr (3, [.ref a_t_factors_parts_held, .ref a_t_factors_parts_before, .int c_t_factors_parts_size])), (a_t_factors_parts_held, .inl (cyJ, 12, .inr (.inl f_t_factors_parts_held))), (a_t_found, .inr (3, [.ref a_t_found_held, .ref a_t_found_before, .int c_t_found_size])), (a_t_found_held, .inl (cyJ, 12, .inr (.inl f_t_found_held))), (a_t_foundOtherwise, .inr (3, [.ref a_t_foundOtherwise_held, .ref a_t_foundOtherwise_before, .int c_t_foundOtherwise_size])), (a_t_foundOtherwise_held, .inl (cyJ, 12, .inr (.inl f_t_foundOtherwise_held))), (a_t_foundOtherwise_before, .inl (cyJ, 12, .inr (.inl f_t_foundOtherwise_before))), (a_t, .inr (6, [.ref a_t_forms, .ref a_t_roll, .ref a_t_row, .ref a_t_rows, .ref a_t_factors, .ref a_t_found, .ref a_t_foundOtherwise, .int c_t_acts, .int c_t_refusals, .int c_t_knocks])), (a_t_rows, .inr (4, [.long c_t_rows_first_34, .long c_t_rows_ofOne_34, .long c_t_rows_ofOther_34, .long c_t_rows_second_34, .long c_t_rows_secondOfOne_34, .long c_t_rows_secondOfOther_34]))] H := hP
    have hD : va_D A [(a_t_forms, .inl (cyJ, 6, .inr (.inl f_t_forms))), (a_t_row, .inr (5, [.long c_t_row_taps, .long c_t_row_cells])), (a_t_factors, .inr (2, [.ref a_t_factors_parts])), (a_t_factors_parts, .inr (3, [.ref a_t_factors_parts_held, .ref a_t_factors_parts_before, .int c_t_factors_parts_size])), (a_t_factors_parts_held, .inl (cyJ, 12, .inr (.inl f_t_factors_parts_held))), (a_t_found, .inr (3, [.ref a_t_found_held, .ref a_t_found_before, .int c_t_found_size])), (a_t_found_held, .inl (cyJ, 12, .inr (.inl f_t_found_held))), (a_t_foundOtherwise, .inr (3, [.ref a_t_foundOtherwise_held, .ref a_t_foundOtherwise_before, .int c_t_foundOtherwise_size])), (a_t_foundOtherwise_held, .inl (cyJ, 12, .inr (.inl f_t_foundOtherwise_held))), (a_t_foundOtherwise_before, .inl (cyJ, 12, .inr (.inl f_t_foundOtherwise_before))), (a_t, .inr (6, [.ref a_t_forms, .ref a_t_roll, .ref a_t_row, .ref a_t_rows, .ref a_t_factors, .ref a_t_found, .ref a_t_foundOtherwise, .int c_t_acts, .int c_t_refusals, .int c_t_knocks])), (a_t_rows, .inr (4, [.long c_t_rows_first_34, .long c_t_rows_ofOne_34, .long c_t_rows_ofOther_34, .long c_t_rows_second_34, .long c_t_rows_secondOfOne_34, .long c_t_rows_secondOfOther_34]))] := hD
    refine lv_if_eq (tgt := 53) hx hb dX7_isSound_37 (by decide) (fun c37 => ?_) (fun c37 => ?_)
    · have h := it_ c37 h
      refine lv_iconst (v := 0) hx hb dX7_isSound_53 (by decide) ?_
      obtain ⟨e0, e1, e2, e3, e4, e5, e6, e7, e8, e9, e10, e11, e12, e13⟩ := tup14 h
      subst e0
      subst e1
      subst e2
      subst e3
      subst e4
      subst e5
      subst e6
      subst e7
      subst e8
      subst e9
      subst e10
      subst e11
      subst e12
      subst e13
      have hP9 : va_P D vwCl [(a_t, .inr (6, [.ref a_t_forms, .ref a_t_roll, .ref a_t_row, .ref a_t_rows, .ref a_t_factors, .ref a_t_found, .ref a_t_foundOtherwise, .int c_t_acts, .int c_t_refusals, .int c_t_knocks])), (a_t_forms, .inl (cyJ, 6, .inr (.inl f_t_forms))), (a_t_row, .inr (5, [.long c_t_row_taps, .long c_t_row_cells])), (a_t_rows, .inr (4, [.long c_t_rows_first_34, .long c_t_rows_ofOne_34, .long c_t_rows_ofOther_34, .long c_t_rows_second_34, .long c_t_rows_secondOfOne_34, .long c_t_rows_secondOfOther_34])), (a_t_factors, .inr (2, [.ref a_t_factors_parts])), (a_t_factors_parts, .inr (3, [.ref a_t_factors_parts_held, .ref a_t_factors_parts_before, .int c_t_factors_parts_size])), (a_t_factors_parts_held, .inl (cyJ, 12, .inr (.inl f_t_factors_parts_held))), (a_t_found, .inr (3, [.ref a_t_found_held, .ref a_t_found_before, .int c_t_found_size])), (a_t_found_held, .inl (cyJ, 12, .inr (.inl f_t_found_held))), (a_t_foundOtherwise, .inr (3, [.ref a_t_foundOtherwise_held, .ref a_t_foundOtherwise_before, .int c_t_foundOtherwise_size])), (a_t_foundOtherwise_held, .inl (cyJ, 12, .inr (.inl f_t_foundOtherwise_held))), (a_t_foundOtherwise_before, .inl (cyJ, 12, .inr (.inl f_t_foundOtherwise_before)))] H := hP.sub [10, 0, 1, 11, 2, 3, 4, 5, 6, 7, 8, 9] rfl
      have hD9 : va_D A [(a_t, .inr (6, [.ref a_t_forms, .ref a_t_roll, .ref a_t_row, .ref a_t_rows, .ref a_t_factors, .ref a_t_found, .ref a_t_foundOtherwise, .int c_t_acts, .int c_t_refusals, .int c_t_knocks])), (a_t_forms, .inl (cyJ, 6, .inr (.inl f_t_forms))), (a_t_row, .inr (5, [.long c_t_row_taps, .long c_t_row_cells])), (a_t_rows, .inr (4, [.long c_t_rows_first_34, .long c_t_rows_ofOne_34, .long c_t_rows_ofOther_34, .long c_t_rows_second_34, .long c_t_rows_secondOfOne_34, .long c_t_rows_secondOfOther_34])), (a_t_factors, .inr (2, [.ref a_t_factors_parts])), (a_t_factors_parts, .inr (3, [.ref a_t_factors_parts_held, .ref a_t_factors_parts_before, .int c_t_factors_parts_size])), (a_t_factors_parts_held, .inl (cyJ, 12, .inr (.inl f_t_factors_parts_held))), (a_t_found, .inr (3, [.ref a_t_found_held, .ref a_t_found_before, .int c_t_found_size])), (a_t_found_held, .inl (cyJ, 12, .inr (.inl f_t_found_held))), (a_t_foundOtherwise, .inr (3, [.ref a_t_foundOtherwise_held, .ref a_t_foundOtherwise_before, .int c_t_foundOtherwise_size])), (a_t_foundOtherwise_held, .inl (cyJ, 12, .inr (.inl f_t_foundOtherwise_held))), (a_t_foundOtherwise_before, .inl (cyJ, 12, .inr (.inl f_t_foundOtherwise_before)))] := hD.sub [10, 0, 1, 11, 2, 3, 4, 5, 6, 7, 8, 9] (by decide) rfl
      exact W.zret hx hb hr narrow_b0 (fun t ht hW => ⟨⟨_, (), rfl, rfl, wQA_of ht hP9 hD9⟩, hS.F ht⟩) hS.2.2 dX7_isSound_54
    · have h := if_ c37 h
      refine lv_aload_n hx hb dX7_isSound_40 rfl (lv_at hl 2 rfl) ?_
      refine va_get (D := D) (ci := 6) (v := .ref a_t_row) (C := RX7) (T := TX7) (N := 10) hx hb hts hinX7 hown hK hP 10 rfl rfl 2 (by decide) hfl23 (fun _ h9 => h9) rfl dX7_isSound_41 ?_
      refine va_getN (D := D) (ci := 5) (v := .long c_t_row_taps) (C := RX5) (T := TX5) (N := 2) hx hb hts hinX5 hown hK hP 1 rfl rfl 0 (by decide) hfl218 (fun _ h9 => h9) rfl dX7_isSound_44 ?_
      obtain ⟨r47, hc47, h⟩ := obn_h h
      refine pz_callS (As := [.long c_t_row_taps]) (rest := []) hcf (c_X6_isWheel l c_t_row_taps r47 hc47) (va_cwS 1 hts gX7_isSound_X6_isWheel rfl rfl rfl ydX6_isWheel ⟨Nat.le_of_ble_eq_true rfl, Nat.le_of_ble_eq_true rfl⟩) hnw rfl hl.1 rfl (Nat.le_of_ble_eq_true rfl) dX7_isSound_47 ⟨Nat.le_of_ble_eq_true rfl, Nat.le_of_ble_eq_true rfl⟩ ?_
      refine lv_if_ne (tgt := 55) hx hb dX7_isSound_50 (by decide) (fun c50 => ?_) (fun c50 => ?_)
      · have h := if_ c50 h
        refine lv_lload_n hx hb dX7_isSound_55 rfl (lv_at hl 1 rfl) ?_
        obtain ⟨r56, hc56, h⟩ := obn_h h
        refine pz_callS (As := [.long x1_10]) (rest := []) hcf (c_X0_degreeOf l x1_10 r56 hc56) (va_cwS 1 hts gX7_isSound_X0_degreeOf rfl rfl rfl ydX0_degreeOf ⟨Nat.le_of_ble_eq_true rfl, Nat.le_of_ble_eq_true rfl⟩) hnw rfl hl.1 rfl (Nat.le_of_ble_eq_true rfl) dX7_isSound_56 ⟨Nat.le_of_ble_eq_true rfl, Nat.le_of_ble_eq_true rfl⟩ ?_
        refine lv_iconst (v := 1) hx hb dX7_isSound_59 (by decide) ?_
        refine lv_icmp_ge (tgt := 65) hx hb dX7_isSound_60 (by decide) (fun c60 => ?_) (fun c60 => ?_)
        · have h := it_ c60 h
          refine lv_aload_n hx hb dX7_isSound_65 rfl (lv_at hl 2 rfl) ?_
          refine va_get (D := D) (ci := 6) (v := .ref a_t_factors) (C := RX7) (T := TX7) (N := 10) hx hb hts hinX7 hown hK hP 10 rfl rfl 4 (by decide) hfl37 (fun _ h9 => h9) rfl dX7_isSound_66 ?_
          refine lv_lload_n hx hb dX7_isSound_69 rfl (lv_at hl 1 rfl) ?_
          refine lv_aload_n hx hb dX7_isSound_70 rfl (lv_at hl 2 rfl) ?_
          refine va_get (D := D) (ci := 6) (v := .ref a_t_found) (C := RX7) (T := TX7) (N := 10) hx hb hts hinX7 hown hK hP 10 rfl rfl 5 (by decide) hfl41 (fun _ h9 => h9) rfl dX7_isSound_71 ?_
          obtain ⟨c_t_found_size_74, f_t_found_held_74, hc74, h⟩ := obn2_h h
          have hPc := hP.sub (ws' := [(a_t_found, .inr (3, [.ref a_t_found_held, .ref a_t_found_before, .int c_t_found_size])), (a_t_found_held, .inl (cyJ, 12, .inr (.inl f_t_found_held)))]) [5, 6] rfl
          have hDc := hD.sub (ws' := [(a_t_found, .inr (3, [.ref a_t_found_held, .ref a_t_found_before, .int c_t_found_size])), (a_t_found_held, .inl (cyJ, 12, .inr (.inl f_t_found_held)))]) [5, 6] (by decide) rfl
          refine hp_v (w1 := [(a_t_found, .inr (3, [.ref a_t_found_held, .ref a_t_found_before, .int c_t_found_size_74])), (a_t_found_held, .inl (cyJ, 12, .inr (.inl f_t_found_held_74)))]) (wr := [(a_t_forms, .inl (cyJ, 6, .inr (.inl f_t_forms))), (a_t_row, .inr (5, [.long c_t_row_taps, .long c_t_row_cells])), (a_t_factors, .inr (2, [.ref a_t_factors_parts])), (a_t_factors_parts, .inr (3, [.ref a_t_factors_parts_held, .ref a_t_factors_parts_before, .int c_t_factors_parts_size])), (a_t_factors_parts_held, .inl (cyJ, 12, .inr (.inl f_t_factors_parts_held))), (a_t_foundOtherwise, .inr (3, [.ref a_t_foundOtherwise_held, .ref a_t_foundOtherwise_before, .int c_t_foundOtherwise_size])), (a_t_foundOtherwise_held, .inl (cyJ, 12, .inr (.inl f_t_foundOtherwise_held))), (a_t_foundOtherwise_before, .inl (cyJ, 12, .inr (.inl f_t_foundOtherwise_before))), (a_t, .inr (6, [.ref a_t_forms, .ref a_t_roll, .ref a_t_row, .ref a_t_rows, .ref a_t_factors, .ref a_t_found, .ref a_t_foundOtherwise, .int c_t_acts, .int c_t_refusals, .int c_t_knocks])), (a_t_rows, .inr (4, [.long c_t_rows_first_34, .long c_t_rows_ofOne_34, .long c_t_rows_ofOther_34, .long c_t_rows_second_34, .long c_t_rows_secondOfOne_34, .long c_t_rows_secondOfOther_34]))]) (va_runV (As := [.long x1_10, .ref a_t_found]) (rest := []) hcf (c_X1_findByTrying l D cyJ H.size a_t_factors a_t_found a_t_found_held a_t_found_before c_t_found_size f_t_found_held x1_10 c_t_found_size_74 f_t_found_held_74 hc74) (cwV 2 hts gX7_isSound_X1_findByTrying rfl rfl rfl ydX1_findByTrying ⟨Nat.le_of_ble_eq_true rfl, Nat.le_of_ble_eq_true rfl⟩) ⟨bl_PD, va_recv hK hP (ci := 2) (q0 := 2) rfl rfl, pr_PD hPc hK0 hDc hnw⟩ rfl rfl hl.1 rfl (lv_room (Nat.le_of_ble_eq_true rfl)) dX7_isSound_74 ⟨Nat.le_of_ble_eq_true rfl, Nat.le_of_ble_eq_true rfl⟩) hP hD hS hA [5, 6] [0, 1, 2, 3, 4, 7, 8, 9, 10, 11] rfl rfl (by decide) (by decide) (fun H locs hP hD hS => ?_)
          have hP : va_P D vwCl [(a_t_forms, .inl (cyJ, 6, .inr (.inl f_t_forms))), (a_t_row, .inr (5, [.long c_t_row_taps, .long c_t_row_cells])), (a_t_factors, .inr (2, [.ref a_t_factors_parts])), (a_t_factors_parts, .inr (3, [.ref a_t_factors_parts_held, .ref a_t_factors_parts_before, .int c_t_factors_parts_size])), (a_t_factors_parts_held, .inl (cyJ, 12, .inr (.inl f_t_factors_parts_held))), (a_t_foundOtherwise, .inr (3, [.ref a_t_foundOtherwise_held, .ref a_t_foundOtherwise_before, .int c_t_foundOtherwise_size])), (a_t_foundOtherwise_held, .inl (cyJ, 12, .inr (.inl f_t_foundOtherwise_held))), (a_t_foundOtherwise_before, .inl (cyJ, 12, .inr (.inl f_t_foundOtherwise_before))), (a_t, .inr (6, [.ref a_t_forms, .ref a_t_roll, .ref a_t_row, .ref a_t_rows, .ref a_t_factors, .ref a_t_found, .ref a_t_foundOtherwise, .int c_t_acts, .int c_t_refusals, .int c_t_knocks])), (a_t_rows, .inr (4, [.long c_t_rows_first_34, .long c_t_rows_ofOne_34, .long c_t_rows_ofOther_34, .long c_t_rows_second_34, .long c_t_rows_secondOfOne_34, .long c_t_rows_secondOfOther_34])), (a_t_found, .inr (3, [.ref a_t_found_held, .ref a_t_found_before, .int c_t_found_size_74])), (a_t_found_held, .inl (cyJ, 12, .inr (.inl f_t_found_held_74)))] H := hP
          have hD : va_D A [(a_t_forms, .inl (cyJ, 6, .inr (.inl f_t_forms))), (a_t_row, .inr (5, [.long c_t_row_taps, .long c_t_row_cells])), (a_t_factors, .inr (2, [.ref a_t_factors_parts])), (a_t_factors_parts, .inr (3, [.ref a_t_factors_parts_held, .ref a_t_factors_parts_before, .int c_t_factors_parts_size])), (a_t_factors_parts_held, .inl (cyJ, 12, .inr (.inl f_t_factors_parts_held))), (a_t_foundOtherwise, .inr (3, [.ref a_t_foundOtherwise_held, .ref a_t_foundOtherwise_before, .int c_t_foundOtherwise_size])), (a_t_foundOtherwise_held, .inl (cyJ, 12, .inr (.inl f_t_foundOtherwise_held))), (a_t_foundOtherwise_before, .inl (cyJ, 12, .inr (.inl f_t_foundOtherwise_before))), (a_t, .inr (6, [.ref a_t_forms, .ref a_t_roll, .ref a_t_row, .ref a_t_rows, .ref a_t_factors, .ref a_t_found, .ref a_t_foundOtherwise, .int c_t_acts, .int c_t_refusals, .int c_t_knocks])), (a_t_rows, .inr (4, [.long c_t_rows_first_34, .long c_t_rows_ofOne_34, .long c_t_rows_ofOther_34, .long c_t_rows_second_34, .long c_t_rows_secondOfOne_34, .long c_t_rows_secondOfOther_34])), (a_t_found, .inr (3, [.ref a_t_found_held, .ref a_t_found_before, .int c_t_found_size_74])), (a_t_found_held, .inl (cyJ, 12, .inr (.inl f_t_found_held_74)))] := hD
          refine lv_aload_n hx hb dX7_isSound_77 rfl (lv_at hl 2 rfl) ?_
          refine va_get (D := D) (ci := 6) (v := .ref a_t_factors) (C := RX7) (T := TX7) (N := 10) hx hb hts hinX7 hown hK hP 8 rfl rfl 4 (by decide) hfl37 (fun _ h9 => h9) rfl dX7_isSound_78 ?_
          refine lv_lload_n hx hb dX7_isSound_81 rfl (lv_at hl 1 rfl) ?_
          refine lv_aload_n hx hb dX7_isSound_82 rfl (lv_at hl 2 rfl) ?_
          refine va_get (D := D) (ci := 6) (v := .ref a_t_foundOtherwise) (C := RX7) (T := TX7) (N := 10) hx hb hts hinX7 hown hK hP 8 rfl rfl 6 (by decide) hfl44 (fun _ h9 => h9) rfl dX7_isSound_83 ?_
          obtain ⟨c_t_factors_parts_size_86, f_t_factors_parts_held_86, c_t_foundOtherwise_size_86, f_t_foundOtherwise_held_86, hc86, h⟩ := obn4_h h
          have hPc := hP.sub (ws' := [(a_t_factors, .inr (2, [.ref a_t_factors_parts])), (a_t_factors_parts, .inr (3, [.ref a_t_factors_parts_held, .ref a_t_factors_parts_before, .int c_t_factors_parts_size])), (a_t_factors_parts_held, .inl (cyJ, 12, .inr (.inl f_t_factors_parts_held))), (a_t_foundOtherwise, .inr (3, [.ref a_t_foundOtherwise_held, .ref a_t_foundOtherwise_before, .int c_t_foundOtherwise_size])), (a_t_foundOtherwise_held, .inl (cyJ, 12, .inr (.inl f_t_foundOtherwise_held)))]) [2, 3, 4, 5, 6] rfl
          have hDc := hD.sub (ws' := [(a_t_factors, .inr (2, [.ref a_t_factors_parts])), (a_t_factors_parts, .inr (3, [.ref a_t_factors_parts_held, .ref a_t_factors_parts_before, .int c_t_factors_parts_size])), (a_t_factors_parts_held, .inl (cyJ, 12, .inr (.inl f_t_factors_parts_held))), (a_t_foundOtherwise, .inr (3, [.ref a_t_foundOtherwise_held, .ref a_t_foundOtherwise_before, .int c_t_foundOtherwise_size])), (a_t_foundOtherwise_held, .inl (cyJ, 12, .inr (.inl f_t_foundOtherwise_held)))]) [2, 3, 4, 5, 6] (by decide) rfl
          refine hp_v (w1 := [(a_t_factors, .inr (2, [.ref a_t_factors_parts])), (a_t_factors_parts, .inr (3, [.ref a_t_factors_parts_held, .ref a_t_factors_parts_before, .int c_t_factors_parts_size_86])), (a_t_factors_parts_held, .inl (cyJ, 12, .inr (.inl f_t_factors_parts_held_86))), (a_t_foundOtherwise, .inr (3, [.ref a_t_foundOtherwise_held, .ref a_t_foundOtherwise_before, .int c_t_foundOtherwise_size_86])), (a_t_foundOtherwise_held, .inl (cyJ, 12, .inr (.inl f_t_foundOtherwise_held_86)))]) (wr := [(a_t_forms, .inl (cyJ, 6, .inr (.inl f_t_forms))), (a_t_row, .inr (5, [.long c_t_row_taps, .long c_t_row_cells])), (a_t_foundOtherwise_before, .inl (cyJ, 12, .inr (.inl f_t_foundOtherwise_before))), (a_t, .inr (6, [.ref a_t_forms, .ref a_t_roll, .ref a_t_row, .ref a_t_rows, .ref a_t_factors, .ref a_t_found, .ref a_t_foundOtherwise, .int c_t_acts, .int c_t_refusals, .int c_t_knocks])), (a_t_rows, .inr (4, [.long c_t_rows_first_34, .long c_t_rows_ofOne_34, .long c_t_rows_ofOther_34, .long c_t_rows_second_34, .long c_t_rows_secondOfOne_34, .long c_t_rows_secondOfOther_34])), (a_t_found, .inr (3, [.ref a_t_found_held, .ref a_t_found_before, .int c_t_found_size_74])), (a_t_found_held, .inl (cyJ, 12, .inr (.inl f_t_found_held_74)))]) (va_runV (As := [.long x1_10, .ref a_t_foundOtherwise]) (rest := []) hcf (c_X1_findByDegrees l D cyJ H.size a_t_factors a_t_foundOtherwise a_t_factors_parts a_t_factors_parts_held a_t_factors_parts_before a_t_foundOtherwise_held a_t_foundOtherwise_before c_t_factors_parts_size f_t_factors_parts_held c_t_foundOtherwise_size f_t_foundOtherwise_held x1_10 c_t_factors_parts_size_86 f_t_factors_parts_held_86 c_t_foundOtherwise_size_86 f_t_foundOtherwise_held_86 hc86) (cwV 2 hts gX7_isSound_X1_findByDegrees rfl rfl rfl ydX1_findByDegrees ⟨Nat.le_of_ble_eq_true rfl, Nat.le_of_ble_eq_true rfl⟩) ⟨bl_PD, va_recv hK hP (ci := 2) (q0 := 2) rfl rfl, pr_PD hPc hK0 hDc hnw⟩ rfl rfl hl.1 rfl (lv_room (Nat.le_of_ble_eq_true rfl)) dX7_isSound_86 ⟨Nat.le_of_ble_eq_true rfl, Nat.le_of_ble_eq_true rfl⟩) hP hD hS hA [2, 3, 4, 5, 6] [0, 1, 7, 8, 9, 10, 11] rfl rfl (by decide) (by decide) (fun H locs hP hD hS => ?_)
          have hP : va_P D vwCl [(a_t_forms, .inl (cyJ, 6, .inr (.inl f_t_forms))), (a_t_row, .inr (5, [.long c_t_row_taps, .long c_t_row_cells])), (a_t_foundOtherwise_before, .inl (cyJ, 12, .inr (.inl f_t_foundOtherwise_before))), (a_t, .inr (6, [.ref a_t_forms, .ref a_t_roll, .ref a_t_row, .ref a_t_rows, .ref a_t_factors, .ref a_t_found, .ref a_t_foundOtherwise, .int c_t_acts, .int c_t_refusals, .int c_t_knocks])), (a_t_rows, .inr (4, [.long c_t_rows_first_34, .long c_t_rows_ofOne_34, .long c_t_rows_ofOther_34, .long c_t_rows_second_34, .long c_t_rows_secondOfOne_34, .long c_t_rows_secondOfOther_34])), (a_t_found, .inr (3, [.ref a_t_found_held, .ref a_t_found_before, .int c_t_found_size_74])), (a_t_found_held, .inl (cyJ, 12, .inr (.inl f_t_found_held_74))), (a_t_factors, .inr (2, [.ref a_t_factors_parts])), (a_t_factors_parts, .inr (3, [.ref a_t_factors_parts_held, .ref a_t_factors_parts_before, .int c_t_factors_parts_size_86])), (a_t_factors_parts_held, .inl (cyJ, 12, .inr (.inl f_t_factors_parts_held_86))), (a_t_foundOtherwise, .inr (3, [.ref a_t_foundOtherwise_held, .ref a_t_foundOtherwise_before, .int c_t_foundOtherwise_size_86])), (a_t_foundOtherwise_held, .inl (cyJ, 12, .inr (.inl f_t_foundOtherwise_held_86)))] H := hP
          have hD : va_D A [(a_t_forms, .inl (cyJ, 6, .inr (.inl f_t_forms))), (a_t_row, .inr (5, [.long c_t_row_taps, .long c_t_row_cells])), (a_t_foundOtherwise_before, .inl (cyJ, 12, .inr (.inl f_t_foundOtherwise_before))), (a_t, .inr (6, [.ref a_t_forms, .ref a_t_roll, .ref a_t_row, .ref a_t_rows, .ref a_t_factors, .ref a_t_found, .ref a_t_foundOtherwise, .int c_t_acts, .int c_t_refusals, .int c_t_knocks])), (a_t_rows, .inr (4, [.long c_t_rows_first_34, .long c_t_rows_ofOne_34, .long c_t_rows_ofOther_34, .long c_t_rows_second_34, .long c_t_rows_secondOfOne_34, .long c_t_rows_secondOfOther_34])), (a_t_found, .inr (3, [.ref a_t_found_held, .ref a_t_found_before, .int c_t_found_size_74])), (a_t_found_held, .inl (cyJ, 12, .inr (.inl f_t_found_held_74))), (a_t_factors, .inr (2, [.ref a_t_factors_parts])), (a_t_factors_parts, .inr (3, [.ref a_t_factors_parts_held, .ref a_t_factors_parts_before, .int c_t_factors_parts_size_86])), (a_t_factors_parts_held, .inl (cyJ, 12, .inr (.inl f_t_factors_parts_held_86))), (a_t_foundOtherwise, .inr (3, [.ref a_t_foundOtherwise_held, .ref a_t_foundOtherwise_before, .int c_t_foundOtherwise_size_86])), (a_t_foundOtherwise_held, .inl (cyJ, 12, .inr (.inl f_t_foundOtherwise_held_86)))] := hD
          refine lv_aload_n hx hb dX7_isSound_89 rfl (lv_at hl 2 rfl) ?_
          refine va_get (D := D) (ci := 6) (v := .ref a_t_foundOtherwise) (C := RX7) (T := TX7) (N := 10) hx hb hts hinX7 hown hK hP 3 rfl rfl 6 (by decide) hfl44 (fun _ h9 => h9) rfl dX7_isSound_90 ?_
          refine lv_iconst (v := 0) hx hb dX7_isSound_93 (by decide) ?_
          obtain ⟨r94, f_t_foundOtherwise_held_94, f_t_foundOtherwise_before_94, hc94, h⟩ := obn3_h h
          have hPc := hP.sub (ws' := [(a_t_foundOtherwise, .inr (3, [.ref a_t_foundOtherwise_held, .ref a_t_foundOtherwise_before, .int c_t_foundOtherwise_size_86])), (a_t_foundOtherwise_held, .inl (cyJ, 12, .inr (.inl f_t_foundOtherwise_held_86))), (a_t_foundOtherwise_before, .inl (cyJ, 12, .inr (.inl f_t_foundOtherwise_before)))]) [10, 11, 2] rfl
          have hDc := hD.sub (ws' := [(a_t_foundOtherwise, .inr (3, [.ref a_t_foundOtherwise_held, .ref a_t_foundOtherwise_before, .int c_t_foundOtherwise_size_86])), (a_t_foundOtherwise_held, .inl (cyJ, 12, .inr (.inl f_t_foundOtherwise_held_86))), (a_t_foundOtherwise_before, .inl (cyJ, 12, .inr (.inl f_t_foundOtherwise_before)))]) [10, 11, 2] (by decide) rfl
          refine hp_i (w1 := [(a_t_foundOtherwise, .inr (3, [.ref a_t_foundOtherwise_held, .ref a_t_foundOtherwise_before, .int c_t_foundOtherwise_size_86])), (a_t_foundOtherwise_held, .inl (cyJ, 12, .inr (.inl f_t_foundOtherwise_held_94))), (a_t_foundOtherwise_before, .inl (cyJ, 12, .inr (.inl f_t_foundOtherwise_before_94)))]) (wr := [(a_t_forms, .inl (cyJ, 6, .inr (.inl f_t_forms))), (a_t_row, .inr (5, [.long c_t_row_taps, .long c_t_row_cells])), (a_t, .inr (6, [.ref a_t_forms, .ref a_t_roll, .ref a_t_row, .ref a_t_rows, .ref a_t_factors, .ref a_t_found, .ref a_t_foundOtherwise, .int c_t_acts, .int c_t_refusals, .int c_t_knocks])), (a_t_rows, .inr (4, [.long c_t_rows_first_34, .long c_t_rows_ofOne_34, .long c_t_rows_ofOther_34, .long c_t_rows_second_34, .long c_t_rows_secondOfOne_34, .long c_t_rows_secondOfOther_34])), (a_t_found, .inr (3, [.ref a_t_found_held, .ref a_t_found_before, .int c_t_found_size_74])), (a_t_found_held, .inl (cyJ, 12, .inr (.inl f_t_found_held_74))), (a_t_factors, .inr (2, [.ref a_t_factors_parts])), (a_t_factors_parts, .inr (3, [.ref a_t_factors_parts_held, .ref a_t_factors_parts_before, .int c_t_factors_parts_size_86])), (a_t_factors_parts_held, .inl (cyJ, 12, .inr (.inl f_t_factors_parts_held_86)))]) (va_runV (As := [.int (0 : Int32)]) (rest := []) hcf (c_X3_arrange l D cyJ H.size a_t_foundOtherwise a_t_foundOtherwise_held a_t_foundOtherwise_before c_t_foundOtherwise_size_86 f_t_foundOtherwise_held_86 f_t_foundOtherwise_before (0 : Int32) r94 f_t_foundOtherwise_held_94 f_t_foundOtherwise_before_94 hc94) (cwV 1 hts gX7_isSound_X3_arrange rfl rfl rfl ydX3_arrange ⟨Nat.le_of_ble_eq_true rfl, Nat.le_of_ble_eq_true rfl⟩) ⟨bl_PD, va_recv hK hP (ci := 3) (q0 := 10) rfl rfl, pr_PD hPc hK0 hDc hnw⟩ rfl rfl hl.1 rfl (lv_room (Nat.le_of_ble_eq_true rfl)) dX7_isSound_94 ⟨Nat.le_of_ble_eq_true rfl, Nat.le_of_ble_eq_true rfl⟩) hP hD hS hA [10, 11, 2] [0, 1, 3, 4, 5, 6, 7, 8, 9] rfl rfl (by decide) (by decide) (fun H locs hP hD hS => ?_)
          have hP : va_P D vwCl [(a_t_forms, .inl (cyJ, 6, .inr (.inl f_t_forms))), (a_t_row, .inr (5, [.long c_t_row_taps, .long c_t_row_cells])), (a_t, .inr (6, [.ref a_t_forms, .ref a_t_roll, .ref a_t_row, .ref a_t_rows, .ref a_t_factors, .ref a_t_found, .ref a_t_foundOtherwise, .int c_t_acts, .int c_t_refusals, .int c_t_knocks])), (a_t_rows, .inr (4, [.long c_t_rows_first_34, .long c_t_rows_ofOne_34, .long c_t_rows_ofOther_34, .long c_t_rows_second_34, .long c_t_rows_secondOfOne_34, .long c_t_rows_secondOfOther_34])), (a_t_found, .inr (3, [.ref a_t_found_held, .ref a_t_found_before, .int c_t_found_size_74])), (a_t_found_held, .inl (cyJ, 12, .inr (.inl f_t_found_held_74))), (a_t_factors, .inr (2, [.ref a_t_factors_parts])), (a_t_factors_parts, .inr (3, [.ref a_t_factors_parts_held, .ref a_t_factors_parts_before, .int c_t_factors_parts_size_86])), (a_t_factors_parts_held, .inl (cyJ, 12, .inr (.inl f_t_factors_parts_held_86))), (a_t_foundOtherwise, .inr (3, [.ref a_t_foundOtherwise_held, .ref a_t_foundOtherwise_before, .int c_t_foundOtherwise_size_86])), (a_t_foundOtherwise_held, .inl (cyJ, 12, .inr (.inl f_t_foundOtherwise_held_94))), (a_t_foundOtherwise_before, .inl (cyJ, 12, .inr (.inl f_t_foundOtherwise_before_94)))] H := hP
          have hD : va_D A [(a_t_forms, .inl (cyJ, 6, .inr (.inl f_t_forms))), (a_t_row, .inr (5, [.long c_t_row_taps, .long c_t_row_cells])), (a_t, .inr (6, [.ref a_t_forms, .ref a_t_roll, .ref a_t_row, .ref a_t_rows, .ref a_t_factors, .ref a_t_found, .ref a_t_foundOtherwise, .int c_t_acts, .int c_t_refusals, .int c_t_knocks])), (a_t_rows, .inr (4, [.long c_t_rows_first_34, .long c_t_rows_ofOne_34, .long c_t_rows_ofOther_34, .long c_t_rows_second_34, .long c_t_rows_secondOfOne_34, .long c_t_rows_secondOfOther_34])), (a_t_found, .inr (3, [.ref a_t_found_held, .ref a_t_found_before, .int c_t_found_size_74])), (a_t_found_held, .inl (cyJ, 12, .inr (.inl f_t_found_held_74))), (a_t_factors, .inr (2, [.ref a_t_factors_parts])), (a_t_factors_parts, .inr (3, [.ref a_t_factors_parts_held, .ref a_t_factors_parts_before, .int c_t_factors_parts_size_86])), (a_t_factors_parts_held, .inl (cyJ, 12, .inr (.inl f_t_factors_parts_held_86))), (a_t_foundOtherwise, .inr (3, [.ref a_t_foundOtherwise_held, .ref a_t_foundOtherwise_before, .int c_t_foundOtherwise_size_86])), (a_t_foundOtherwise_held, .inl (cyJ, 12, .inr (.inl f_t_foundOtherwise_held_94))), (a_t_foundOtherwise_before, .inl (cyJ, 12, .inr (.inl f_t_foundOtherwise_before_94)))] := hD
          refine lv_pop hx hb dX7_isSound_97 rfl ?_
          refine lv_aload_n hx hb dX7_isSound_98 rfl (lv_at hl 2 rfl) ?_
          refine va_get (D := D) (ci := 6) (v := .ref a_t_found) (C := RX7) (T := TX7) (N := 10) hx hb hts hinX7 hown hK hP 2 rfl rfl 5 (by decide) hfl41 (fun _ h9 => h9) rfl dX7_isSound_99 ?_
          refine lv_aload_n hx hb dX7_isSound_102 rfl (lv_at hl 2 rfl) ?_
          refine va_get (D := D) (ci := 6) (v := .ref a_t_foundOtherwise) (C := RX7) (T := TX7) (N := 10) hx hb hts hinX7 hown hK hP 2 rfl rfl 6 (by decide) hfl44 (fun _ h9 => h9) rfl dX7_isSound_103 ?_
          obtain ⟨r106, hc106, h⟩ := obn_h h
          have hPc : va_P D vwCl [(a_t_found, .inr (3, [.ref a_t_found_held, .ref a_t_found_before, .int c_t_found_size_74])), (a_t_found_held, .inl (cyJ, 12, .inr (.inl f_t_found_held_74))), (a_t_foundOtherwise, .inr (3, [.ref a_t_foundOtherwise_held, .ref a_t_foundOtherwise_before, .int c_t_foundOtherwise_size_86])), (a_t_foundOtherwise_held, .inl (cyJ, 12, .inr (.inl f_t_foundOtherwise_held_94)))] H := hP.sub [4, 5, 9, 10] rfl
          refine rd_callV (As := [.ref a_t_foundOtherwise]) (rest := []) hcf (c_X3_isSameAs l D cyJ a_t_found a_t_foundOtherwise a_t_found_held a_t_found_before a_t_foundOtherwise_held a_t_foundOtherwise_before c_t_found_size_74 f_t_found_held_74 c_t_foundOtherwise_size_86 f_t_foundOtherwise_held_94 r106 hc106) (cwV 1 hts gX7_isSound_X3_isSameAs rfl rfl rfl ydX3_isSameAs ⟨Nat.le_of_ble_eq_true rfl, Nat.le_of_ble_eq_true rfl⟩) hnw hPc hK0 (va_recv hK hP (ci := 3) (q0 := 4) rfl rfl) rfl hl.1 rfl (Nat.le_of_ble_eq_true rfl) dX7_isSound_106 ⟨Nat.le_of_ble_eq_true rfl, Nat.le_of_ble_eq_true rfl⟩ ?_
          refine lv_if_eq (tgt := 124) hx hb dX7_isSound_109 (by decide) (fun c109 => ?_) (fun c109 => ?_)
          · have h := it_ c109 h
            refine lv_iconst (v := 0) hx hb dX7_isSound_124 (by decide) ?_
            obtain ⟨e0, e1, e2, e3, e4, e5, e6, e7, e8, e9, e10, e11, e12, e13⟩ := tup14 h
            subst e0
            subst e1
            subst e2
            subst e3
            subst e4
            subst e5
            subst e6
            subst e7
            subst e8
            subst e9
            subst e10
            subst e11
            subst e12
            subst e13
            have hP9 : va_P D vwCl [(a_t, .inr (6, [.ref a_t_forms, .ref a_t_roll, .ref a_t_row, .ref a_t_rows, .ref a_t_factors, .ref a_t_found, .ref a_t_foundOtherwise, .int c_t_acts, .int c_t_refusals, .int c_t_knocks])), (a_t_forms, .inl (cyJ, 6, .inr (.inl f_t_forms))), (a_t_row, .inr (5, [.long c_t_row_taps, .long c_t_row_cells])), (a_t_rows, .inr (4, [.long c_t_rows_first_34, .long c_t_rows_ofOne_34, .long c_t_rows_ofOther_34, .long c_t_rows_second_34, .long c_t_rows_secondOfOne_34, .long c_t_rows_secondOfOther_34])), (a_t_factors, .inr (2, [.ref a_t_factors_parts])), (a_t_factors_parts, .inr (3, [.ref a_t_factors_parts_held, .ref a_t_factors_parts_before, .int c_t_factors_parts_size_86])), (a_t_factors_parts_held, .inl (cyJ, 12, .inr (.inl f_t_factors_parts_held_86))), (a_t_found, .inr (3, [.ref a_t_found_held, .ref a_t_found_before, .int c_t_found_size_74])), (a_t_found_held, .inl (cyJ, 12, .inr (.inl f_t_found_held_74))), (a_t_foundOtherwise, .inr (3, [.ref a_t_foundOtherwise_held, .ref a_t_foundOtherwise_before, .int c_t_foundOtherwise_size_86])), (a_t_foundOtherwise_held, .inl (cyJ, 12, .inr (.inl f_t_foundOtherwise_held_94))), (a_t_foundOtherwise_before, .inl (cyJ, 12, .inr (.inl f_t_foundOtherwise_before_94)))] H := hP.sub [2, 0, 1, 3, 6, 7, 8, 4, 5, 9, 10, 11] rfl
            have hD9 : va_D A [(a_t, .inr (6, [.ref a_t_forms, .ref a_t_roll, .ref a_t_row, .ref a_t_rows, .ref a_t_factors, .ref a_t_found, .ref a_t_foundOtherwise, .int c_t_acts, .int c_t_refusals, .int c_t_knocks])), (a_t_forms, .inl (cyJ, 6, .inr (.inl f_t_forms))), (a_t_row, .inr (5, [.long c_t_row_taps, .long c_t_row_cells])), (a_t_rows, .inr (4, [.long c_t_rows_first_34, .long c_t_rows_ofOne_34, .long c_t_rows_ofOther_34, .long c_t_rows_second_34, .long c_t_rows_secondOfOne_34, .long c_t_rows_secondOfOther_34])), (a_t_factors, .inr (2, [.ref a_t_factors_parts])), (a_t_factors_parts, .inr (3, [.ref a_t_factors_parts_held, .ref a_t_factors_parts_before, .int c_t_factors_parts_size_86])), (a_t_factors_parts_held, .inl (cyJ, 12, .inr (.inl f_t_factors_parts_held_86))), (a_t_found, .inr (3, [.ref a_t_found_held, .ref a_t_found_before, .int c_t_found_size_74])), (a_t_found_held, .inl (cyJ, 12, .inr (.inl f_t_found_held_74))), (a_t_foundOtherwise, .inr (3, [.ref a_t_foundOtherwise_held, .ref a_t_foundOtherwise_before, .int c_t_foundOtherwise_size_86])), (a_t_foundOtherwise_held, .inl (cyJ, 12, .inr (.inl f_t_foundOtherwise_held_94))), (a_t_foundOtherwise_before, .inl (cyJ, 12, .inr (.inl f_t_foundOtherwise_before_94)))] := hD.sub [2, 0, 1, 3, 6, 7, 8, 4, 5, 9, 10, 11] (by decide) rfl
            exact W.zret hx hb hr narrow_b0 (fun t ht hW => ⟨⟨_, (), rfl, rfl, wQA_of ht hP9 hD9⟩, hS.F ht⟩) hS.2.2 dX7_isSound_125
          · have h := if_ c109 h
            refine lv_aload_n hx hb dX7_isSound_112 rfl (lv_at hl 2 rfl) ?_
            refine va_get (D := D) (ci := 6) (v := .ref a_t_found) (C := RX7) (T := TX7) (N := 10) hx hb hts hinX7 hown hK hP 2 rfl rfl 5 (by decide) hfl41 (fun _ h9 => h9) rfl dX7_isSound_113 ?_
            obtain ⟨r116, hc116, h⟩ := obn_h h
            have hPc : va_P D vwCl [(a_t_found, .inr (3, [.ref a_t_found_held, .ref a_t_found_before, .int c_t_found_size_74])), (a_t_found_held, .inl (cyJ, 12, .inr (.inl f_t_found_held_74)))] H := hP.sub [4, 5] rfl
            refine rd_callV (As := []) (rest := []) hcf (c_X3_multipliedAll l D cyJ a_t_found a_t_found_held a_t_found_before c_t_found_size_74 f_t_found_held_74 r116 hc116) (cwV 0 hts gX7_isSound_X3_multipliedAll rfl rfl rfl ydX3_multipliedAll ⟨Nat.le_of_ble_eq_true rfl, Nat.le_of_ble_eq_true rfl⟩) hnw hPc hK0 (va_recv hK hP (ci := 3) (q0 := 4) rfl rfl) rfl hl.1 rfl (Nat.le_of_ble_eq_true rfl) dX7_isSound_116 ⟨Nat.le_of_ble_eq_true rfl, Nat.le_of_ble_eq_true rfl⟩ ?_
            refine lv_lload_n hx hb dX7_isSound_119 rfl (lv_at hl 1 rfl) ?_
            refine W.lcmp hx hb dX7_isSound_120 ?_
            refine lv_if_eq (tgt := 126) hx hb dX7_isSound_121 (by decide) (fun c121 => ?_) (fun c121 => ?_)
            · have c121 := (lg_cmp_eq _ _).mp c121
              have h := it_ c121 h
              refine lv_lload_n hx hb dX7_isSound_126 rfl (lv_at hl 1 rfl) ?_
              obtain ⟨r127, hc127, h⟩ := obn_h h
              refine pz_callS (As := [.long x1_10]) (rest := []) hcf (c_X6_isWheel l x1_10 r127 hc127) (va_cwS 1 hts gX7_isSound_X6_isWheel rfl rfl rfl ydX6_isWheel ⟨Nat.le_of_ble_eq_true rfl, Nat.le_of_ble_eq_true rfl⟩) hnw rfl hl.1 rfl (Nat.le_of_ble_eq_true rfl) dX7_isSound_127 ⟨Nat.le_of_ble_eq_true rfl, Nat.le_of_ble_eq_true rfl⟩ ?_
              refine lv_if_eq (tgt := 145) hx hb dX7_isSound_130 (by decide) (fun c130 => ?_) (fun c130 => ?_)
              · have h := it_ c130 h
                refine lv_iconst (v := 1) hx hb dX7_isSound_145 (by decide) ?_
                refine lv_goto (tgt := 150) hx hb dX7_isSound_146 (by decide) ?_
                obtain ⟨e0, e1, e2, e3, e4, e5, e6, e7, e8, e9, e10, e11, e12, e13⟩ := tup14 h
                subst e0
                subst e1
                subst e2
                subst e3
                subst e4
                subst e5
                subst e6
                subst e7
                subst e8
                subst e9
                subst e10
                subst e11
                subst e12
                subst e13
                have hP9 : va_P D vwCl [(a_t, .inr (6, [.ref a_t_forms, .ref a_t_roll, .ref a_t_row, .ref a_t_rows, .ref a_t_factors, .ref a_t_found, .ref a_t_foundOtherwise, .int c_t_acts, .int c_t_refusals, .int c_t_knocks])), (a_t_forms, .inl (cyJ, 6, .inr (.inl f_t_forms))), (a_t_row, .inr (5, [.long c_t_row_taps, .long c_t_row_cells])), (a_t_rows, .inr (4, [.long c_t_rows_first_34, .long c_t_rows_ofOne_34, .long c_t_rows_ofOther_34, .long c_t_rows_second_34, .long c_t_rows_secondOfOne_34, .long c_t_rows_secondOfOther_34])), (a_t_factors, .inr (2, [.ref a_t_factors_parts])), (a_t_factors_parts, .inr (3, [.ref a_t_factors_parts_held, .ref a_t_factors_parts_before, .int c_t_factors_parts_size_86])), (a_t_factors_parts_held, .inl (cyJ, 12, .inr (.inl f_t_factors_parts_held_86))), (a_t_found, .inr (3, [.ref a_t_found_held, .ref a_t_found_before, .int c_t_found_size_74])), (a_t_found_held, .inl (cyJ, 12, .inr (.inl f_t_found_held_74))), (a_t_foundOtherwise, .inr (3, [.ref a_t_foundOtherwise_held, .ref a_t_foundOtherwise_before, .int c_t_foundOtherwise_size_86])), (a_t_foundOtherwise_held, .inl (cyJ, 12, .inr (.inl f_t_foundOtherwise_held_94))), (a_t_foundOtherwise_before, .inl (cyJ, 12, .inr (.inl f_t_foundOtherwise_before_94)))] H := hP.sub [2, 0, 1, 3, 6, 7, 8, 4, 5, 9, 10, 11] rfl
                have hD9 : va_D A [(a_t, .inr (6, [.ref a_t_forms, .ref a_t_roll, .ref a_t_row, .ref a_t_rows, .ref a_t_factors, .ref a_t_found, .ref a_t_foundOtherwise, .int c_t_acts, .int c_t_refusals, .int c_t_knocks])), (a_t_forms, .inl (cyJ, 6, .inr (.inl f_t_forms))), (a_t_row, .inr (5, [.long c_t_row_taps, .long c_t_row_cells])), (a_t_rows, .inr (4, [.long c_t_rows_first_34, .long c_t_rows_ofOne_34, .long c_t_rows_ofOther_34, .long c_t_rows_second_34, .long c_t_rows_secondOfOne_34, .long c_t_rows_secondOfOther_34])), (a_t_factors, .inr (2, [.ref a_t_factors_parts])), (a_t_factors_parts, .inr (3, [.ref a_t_factors_parts_held, .ref a_t_factors_parts_before, .int c_t_factors_parts_size_86])), (a_t_factors_parts_held, .inl (cyJ, 12, .inr (.inl f_t_factors_parts_held_86))), (a_t_found, .inr (3, [.ref a_t_found_held, .ref a_t_found_before, .int c_t_found_size_74])), (a_t_found_held, .inl (cyJ, 12, .inr (.inl f_t_found_held_74))), (a_t_foundOtherwise, .inr (3, [.ref a_t_foundOtherwise_held, .ref a_t_foundOtherwise_before, .int c_t_foundOtherwise_size_86])), (a_t_foundOtherwise_held, .inl (cyJ, 12, .inr (.inl f_t_foundOtherwise_held_94))), (a_t_foundOtherwise_before, .inl (cyJ, 12, .inr (.inl f_t_foundOtherwise_before_94)))] := hD.sub [2, 0, 1, 3, 6, 7, 8, 4, 5, 9, 10, 11] (by decide) rfl
                exact W.zret hx hb hr narrow_b1 (fun t ht hW => ⟨⟨_, (), rfl, rfl, wQA_of ht hP9 hD9⟩, hS.F ht⟩) hS.2.2 dX7_isSound_150
              · have h := if_ c130 h
                refine lv_lload_n hx hb dX7_isSound_133 rfl (lv_at hl 1 rfl) ?_
                obtain ⟨r134, hc134, h⟩ := obn_h h
                refine pz_callS (As := [.long x1_10]) (rest := []) hcf (c_X6_periodByMultiplying l x1_10 r134 hc134) (va_cwS 1 hts gX7_isSound_X6_periodByMultiplying rfl rfl rfl ydX6_periodByMultiplying ⟨Nat.le_of_ble_eq_true rfl, Nat.le_of_ble_eq_true rfl⟩) hnw rfl hl.1 rfl (Nat.le_of_ble_eq_true rfl) dX7_isSound_134 ⟨Nat.le_of_ble_eq_true rfl, Nat.le_of_ble_eq_true rfl⟩ ?_
                refine lv_aload_n hx hb dX7_isSound_137 rfl (lv_at hl 2 rfl) ?_
                refine lv_lload_n hx hb dX7_isSound_138 rfl (lv_at hl 1 rfl) ?_
                obtain ⟨r139, c_t_found_size_139, f_t_found_held_139, hc139, h⟩ := obn3_h h
                have hPc := hP.sub (ws' := [(a_t, .inr (6, [.ref a_t_forms, .ref a_t_roll, .ref a_t_row, .ref a_t_rows, .ref a_t_factors, .ref a_t_found, .ref a_t_foundOtherwise, .int c_t_acts, .int c_t_refusals, .int c_t_knocks])), (a_t_factors, .inr (2, [.ref a_t_factors_parts])), (a_t_found, .inr (3, [.ref a_t_found_held, .ref a_t_found_before, .int c_t_found_size_74])), (a_t_found_held, .inl (cyJ, 12, .inr (.inl f_t_found_held_74)))]) [2, 6, 4, 5] rfl
                have hDc := hD.sub (ws' := [(a_t, .inr (6, [.ref a_t_forms, .ref a_t_roll, .ref a_t_row, .ref a_t_rows, .ref a_t_factors, .ref a_t_found, .ref a_t_foundOtherwise, .int c_t_acts, .int c_t_refusals, .int c_t_knocks])), (a_t_factors, .inr (2, [.ref a_t_factors_parts])), (a_t_found, .inr (3, [.ref a_t_found_held, .ref a_t_found_before, .int c_t_found_size_74])), (a_t_found_held, .inl (cyJ, 12, .inr (.inl f_t_found_held_74)))]) [2, 6, 4, 5] (by decide) rfl
                refine hp_i (w1 := [(a_t, .inr (6, [.ref a_t_forms, .ref a_t_roll, .ref a_t_row, .ref a_t_rows, .ref a_t_factors, .ref a_t_found, .ref a_t_foundOtherwise, .int c_t_acts, .int c_t_refusals, .int c_t_knocks])), (a_t_factors, .inr (2, [.ref a_t_factors_parts])), (a_t_found, .inr (3, [.ref a_t_found_held, .ref a_t_found_before, .int c_t_found_size_139])), (a_t_found_held, .inl (cyJ, 12, .inr (.inl f_t_found_held_139)))]) (wr := [(a_t_forms, .inl (cyJ, 6, .inr (.inl f_t_forms))), (a_t_row, .inr (5, [.long c_t_row_taps, .long c_t_row_cells])), (a_t_rows, .inr (4, [.long c_t_rows_first_34, .long c_t_rows_ofOne_34, .long c_t_rows_ofOther_34, .long c_t_rows_second_34, .long c_t_rows_secondOfOne_34, .long c_t_rows_secondOfOther_34])), (a_t_factors_parts, .inr (3, [.ref a_t_factors_parts_held, .ref a_t_factors_parts_before, .int c_t_factors_parts_size_86])), (a_t_factors_parts_held, .inl (cyJ, 12, .inr (.inl f_t_factors_parts_held_86))), (a_t_foundOtherwise, .inr (3, [.ref a_t_foundOtherwise_held, .ref a_t_foundOtherwise_before, .int c_t_foundOtherwise_size_86])), (a_t_foundOtherwise_held, .inl (cyJ, 12, .inr (.inl f_t_foundOtherwise_held_94))), (a_t_foundOtherwise_before, .inl (cyJ, 12, .inr (.inl f_t_foundOtherwise_before_94)))]) (va_runV (As := [.long x1_10]) (rest := [.int r134]) hcf (c_X7_periodByFactors l D cyJ H.size a_t a_t_forms a_t_roll a_t_row a_t_rows a_t_factors a_t_found a_t_foundOtherwise a_t_factors_parts a_t_found_held a_t_found_before c_t_acts c_t_refusals c_t_knocks c_t_found_size_74 f_t_found_held_74 x1_10 r139 c_t_found_size_139 f_t_found_held_139 hc139) (cwV 1 hts gX7_isSound_X7_periodByFactors rfl rfl rfl ydX7_periodByFactors ⟨Nat.le_of_ble_eq_true rfl, Nat.le_of_ble_eq_true rfl⟩) ⟨bl_PD, va_recv hK hP (ci := 6) (q0 := 2) rfl rfl, pr_PD hPc hK0 hDc hnw⟩ rfl rfl hl.1 rfl (lv_room (Nat.le_of_ble_eq_true rfl)) dX7_isSound_139 ⟨Nat.le_of_ble_eq_true rfl, Nat.le_of_ble_eq_true rfl⟩) hP hD hS hA [2, 6, 4, 5] [0, 1, 3, 7, 8, 9, 10, 11] rfl rfl (by decide) (by decide) (fun H locs hP hD hS => ?_)
                have hP : va_P D vwCl [(a_t_forms, .inl (cyJ, 6, .inr (.inl f_t_forms))), (a_t_row, .inr (5, [.long c_t_row_taps, .long c_t_row_cells])), (a_t_rows, .inr (4, [.long c_t_rows_first_34, .long c_t_rows_ofOne_34, .long c_t_rows_ofOther_34, .long c_t_rows_second_34, .long c_t_rows_secondOfOne_34, .long c_t_rows_secondOfOther_34])), (a_t_factors_parts, .inr (3, [.ref a_t_factors_parts_held, .ref a_t_factors_parts_before, .int c_t_factors_parts_size_86])), (a_t_factors_parts_held, .inl (cyJ, 12, .inr (.inl f_t_factors_parts_held_86))), (a_t_foundOtherwise, .inr (3, [.ref a_t_foundOtherwise_held, .ref a_t_foundOtherwise_before, .int c_t_foundOtherwise_size_86])), (a_t_foundOtherwise_held, .inl (cyJ, 12, .inr (.inl f_t_foundOtherwise_held_94))), (a_t_foundOtherwise_before, .inl (cyJ, 12, .inr (.inl f_t_foundOtherwise_before_94))), (a_t, .inr (6, [.ref a_t_forms, .ref a_t_roll, .ref a_t_row, .ref a_t_rows, .ref a_t_factors, .ref a_t_found, .ref a_t_foundOtherwise, .int c_t_acts, .int c_t_refusals, .int c_t_knocks])), (a_t_factors, .inr (2, [.ref a_t_factors_parts])), (a_t_found, .inr (3, [.ref a_t_found_held, .ref a_t_found_before, .int c_t_found_size_139])), (a_t_found_held, .inl (cyJ, 12, .inr (.inl f_t_found_held_139)))] H := hP
                have hD : va_D A [(a_t_forms, .inl (cyJ, 6, .inr (.inl f_t_forms))), (a_t_row, .inr (5, [.long c_t_row_taps, .long c_t_row_cells])), (a_t_rows, .inr (4, [.long c_t_rows_first_34, .long c_t_rows_ofOne_34, .long c_t_rows_ofOther_34, .long c_t_rows_second_34, .long c_t_rows_secondOfOne_34, .long c_t_rows_secondOfOther_34])), (a_t_factors_parts, .inr (3, [.ref a_t_factors_parts_held, .ref a_t_factors_parts_before, .int c_t_factors_parts_size_86])), (a_t_factors_parts_held, .inl (cyJ, 12, .inr (.inl f_t_factors_parts_held_86))), (a_t_foundOtherwise, .inr (3, [.ref a_t_foundOtherwise_held, .ref a_t_foundOtherwise_before, .int c_t_foundOtherwise_size_86])), (a_t_foundOtherwise_held, .inl (cyJ, 12, .inr (.inl f_t_foundOtherwise_held_94))), (a_t_foundOtherwise_before, .inl (cyJ, 12, .inr (.inl f_t_foundOtherwise_before_94))), (a_t, .inr (6, [.ref a_t_forms, .ref a_t_roll, .ref a_t_row, .ref a_t_rows, .ref a_t_factors, .ref a_t_found, .ref a_t_foundOtherwise, .int c_t_acts, .int c_t_refusals, .int c_t_knocks])), (a_t_factors, .inr (2, [.ref a_t_factors_parts])), (a_t_found, .inr (3, [.ref a_t_found_held, .ref a_t_found_before, .int c_t_found_size_139])), (a_t_found_held, .inl (cyJ, 12, .inr (.inl f_t_found_held_139)))] := hD
                refine lv_icmp_ne (tgt := 149) hx hb dX7_isSound_142 (by decide) (fun c142 => ?_) (fun c142 => ?_)
                · have h := if_ c142 h
                  refine lv_iconst (v := 0) hx hb dX7_isSound_149 (by decide) ?_
                  obtain ⟨e0, e1, e2, e3, e4, e5, e6, e7, e8, e9, e10, e11, e12, e13⟩ := tup14 h
                  subst e0
                  subst e1
                  subst e2
                  subst e3
                  subst e4
                  subst e5
                  subst e6
                  subst e7
                  subst e8
                  subst e9
                  subst e10
                  subst e11
                  subst e12
                  subst e13
                  have hP9 : va_P D vwCl [(a_t, .inr (6, [.ref a_t_forms, .ref a_t_roll, .ref a_t_row, .ref a_t_rows, .ref a_t_factors, .ref a_t_found, .ref a_t_foundOtherwise, .int c_t_acts, .int c_t_refusals, .int c_t_knocks])), (a_t_forms, .inl (cyJ, 6, .inr (.inl f_t_forms))), (a_t_row, .inr (5, [.long c_t_row_taps, .long c_t_row_cells])), (a_t_rows, .inr (4, [.long c_t_rows_first_34, .long c_t_rows_ofOne_34, .long c_t_rows_ofOther_34, .long c_t_rows_second_34, .long c_t_rows_secondOfOne_34, .long c_t_rows_secondOfOther_34])), (a_t_factors, .inr (2, [.ref a_t_factors_parts])), (a_t_factors_parts, .inr (3, [.ref a_t_factors_parts_held, .ref a_t_factors_parts_before, .int c_t_factors_parts_size_86])), (a_t_factors_parts_held, .inl (cyJ, 12, .inr (.inl f_t_factors_parts_held_86))), (a_t_found, .inr (3, [.ref a_t_found_held, .ref a_t_found_before, .int c_t_found_size_139])), (a_t_found_held, .inl (cyJ, 12, .inr (.inl f_t_found_held_139))), (a_t_foundOtherwise, .inr (3, [.ref a_t_foundOtherwise_held, .ref a_t_foundOtherwise_before, .int c_t_foundOtherwise_size_86])), (a_t_foundOtherwise_held, .inl (cyJ, 12, .inr (.inl f_t_foundOtherwise_held_94))), (a_t_foundOtherwise_before, .inl (cyJ, 12, .inr (.inl f_t_foundOtherwise_before_94)))] H := hP.sub [8, 0, 1, 2, 9, 3, 4, 10, 11, 5, 6, 7] rfl
                  have hD9 : va_D A [(a_t, .inr (6, [.ref a_t_forms, .ref a_t_roll, .ref a_t_row, .ref a_t_rows, .ref a_t_factors, .ref a_t_found, .ref a_t_foundOtherwise, .int c_t_acts, .int c_t_refusals, .int c_t_knocks])), (a_t_forms, .inl (cyJ, 6, .inr (.inl f_t_forms))), (a_t_row, .inr (5, [.long c_t_row_taps, .long c_t_row_cells])), (a_t_rows, .inr (4, [.long c_t_rows_first_34, .long c_t_rows_ofOne_34, .long c_t_rows_ofOther_34, .long c_t_rows_second_34, .long c_t_rows_secondOfOne_34, .long c_t_rows_secondOfOther_34])), (a_t_factors, .inr (2, [.ref a_t_factors_parts])), (a_t_factors_parts, .inr (3, [.ref a_t_factors_parts_held, .ref a_t_factors_parts_before, .int c_t_factors_parts_size_86])), (a_t_factors_parts_held, .inl (cyJ, 12, .inr (.inl f_t_factors_parts_held_86))), (a_t_found, .inr (3, [.ref a_t_found_held, .ref a_t_found_before, .int c_t_found_size_139])), (a_t_found_held, .inl (cyJ, 12, .inr (.inl f_t_found_held_139))), (a_t_foundOtherwise, .inr (3, [.ref a_t_foundOtherwise_held, .ref a_t_foundOtherwise_before, .int c_t_foundOtherwise_size_86])), (a_t_foundOtherwise_held, .inl (cyJ, 12, .inr (.inl f_t_foundOtherwise_held_94))), (a_t_foundOtherwise_before, .inl (cyJ, 12, .inr (.inl f_t_foundOtherwise_before_94)))] := hD.sub [8, 0, 1, 2, 9, 3, 4, 10, 11, 5, 6, 7] (by decide) rfl
                  exact W.zret hx hb hr narrow_b0 (fun t ht hW => ⟨⟨_, (), rfl, rfl, wQA_of ht hP9 hD9⟩, hS.F ht⟩) hS.2.2 dX7_isSound_150
                · have h := it_ c142 h
                  refine lv_iconst (v := 1) hx hb dX7_isSound_145 (by decide) ?_
                  refine lv_goto (tgt := 150) hx hb dX7_isSound_146 (by decide) ?_
                  obtain ⟨e0, e1, e2, e3, e4, e5, e6, e7, e8, e9, e10, e11, e12, e13⟩ := tup14 h
                  subst e0
                  subst e1
                  subst e2
                  subst e3
                  subst e4
                  subst e5
                  subst e6
                  subst e7
                  subst e8
                  subst e9
                  subst e10
                  subst e11
                  subst e12
                  subst e13
                  have hP9 : va_P D vwCl [(a_t, .inr (6, [.ref a_t_forms, .ref a_t_roll, .ref a_t_row, .ref a_t_rows, .ref a_t_factors, .ref a_t_found, .ref a_t_foundOtherwise, .int c_t_acts, .int c_t_refusals, .int c_t_knocks])), (a_t_forms, .inl (cyJ, 6, .inr (.inl f_t_forms))), (a_t_row, .inr (5, [.long c_t_row_taps, .long c_t_row_cells])), (a_t_rows, .inr (4, [.long c_t_rows_first_34, .long c_t_rows_ofOne_34, .long c_t_rows_ofOther_34, .long c_t_rows_second_34, .long c_t_rows_secondOfOne_34, .long c_t_rows_secondOfOther_34])), (a_t_factors, .inr (2, [.ref a_t_factors_parts])), (a_t_factors_parts, .inr (3, [.ref a_t_factors_parts_held, .ref a_t_factors_parts_before, .int c_t_factors_parts_size_86])), (a_t_factors_parts_held, .inl (cyJ, 12, .inr (.inl f_t_factors_parts_held_86))), (a_t_found, .inr (3, [.ref a_t_found_held, .ref a_t_found_before, .int c_t_found_size_139])), (a_t_found_held, .inl (cyJ, 12, .inr (.inl f_t_found_held_139))), (a_t_foundOtherwise, .inr (3, [.ref a_t_foundOtherwise_held, .ref a_t_foundOtherwise_before, .int c_t_foundOtherwise_size_86])), (a_t_foundOtherwise_held, .inl (cyJ, 12, .inr (.inl f_t_foundOtherwise_held_94))), (a_t_foundOtherwise_before, .inl (cyJ, 12, .inr (.inl f_t_foundOtherwise_before_94)))] H := hP.sub [8, 0, 1, 2, 9, 3, 4, 10, 11, 5, 6, 7] rfl
                  have hD9 : va_D A [(a_t, .inr (6, [.ref a_t_forms, .ref a_t_roll, .ref a_t_row, .ref a_t_rows, .ref a_t_factors, .ref a_t_found, .ref a_t_foundOtherwise, .int c_t_acts, .int c_t_refusals, .int c_t_knocks])), (a_t_forms, .inl (cyJ, 6, .inr (.inl f_t_forms))), (a_t_row, .inr (5, [.long c_t_row_taps, .long c_t_row_cells])), (a_t_rows, .inr (4, [.long c_t_rows_first_34, .long c_t_rows_ofOne_34, .long c_t_rows_ofOther_34, .long c_t_rows_second_34, .long c_t_rows_secondOfOne_34, .long c_t_rows_secondOfOther_34])), (a_t_factors, .inr (2, [.ref a_t_factors_parts])), (a_t_factors_parts, .inr (3, [.ref a_t_factors_parts_held, .ref a_t_factors_parts_before, .int c_t_factors_parts_size_86])), (a_t_factors_parts_held, .inl (cyJ, 12, .inr (.inl f_t_factors_parts_held_86))), (a_t_found, .inr (3, [.ref a_t_found_held, .ref a_t_found_before, .int c_t_found_size_139])), (a_t_found_held, .inl (cyJ, 12, .inr (.inl f_t_found_held_139))), (a_t_foundOtherwise, .inr (3, [.ref a_t_foundOtherwise_held, .ref a_t_foundOtherwise_before, .int c_t_foundOtherwise_size_86])), (a_t_foundOtherwise_held, .inl (cyJ, 12, .inr (.inl f_t_foundOtherwise_held_94))), (a_t_foundOtherwise_before, .inl (cyJ, 12, .inr (.inl f_t_foundOtherwise_before_94)))] := hD.sub [8, 0, 1, 2, 9, 3, 4, 10, 11, 5, 6, 7] (by decide) rfl
                  exact W.zret hx hb hr narrow_b1 (fun t ht hW => ⟨⟨_, (), rfl, rfl, wQA_of ht hP9 hD9⟩, hS.F ht⟩) hS.2.2 dX7_isSound_150
            · have c121 := fun z => c121 ((lg_cmp_eq _ _).mpr z)
              have h := if_ c121 h
              refine lv_iconst (v := 0) hx hb dX7_isSound_124 (by decide) ?_
              obtain ⟨e0, e1, e2, e3, e4, e5, e6, e7, e8, e9, e10, e11, e12, e13⟩ := tup14 h
              subst e0
              subst e1
              subst e2
              subst e3
              subst e4
              subst e5
              subst e6
              subst e7
              subst e8
              subst e9
              subst e10
              subst e11
              subst e12
              subst e13
              have hP9 : va_P D vwCl [(a_t, .inr (6, [.ref a_t_forms, .ref a_t_roll, .ref a_t_row, .ref a_t_rows, .ref a_t_factors, .ref a_t_found, .ref a_t_foundOtherwise, .int c_t_acts, .int c_t_refusals, .int c_t_knocks])), (a_t_forms, .inl (cyJ, 6, .inr (.inl f_t_forms))), (a_t_row, .inr (5, [.long c_t_row_taps, .long c_t_row_cells])), (a_t_rows, .inr (4, [.long c_t_rows_first_34, .long c_t_rows_ofOne_34, .long c_t_rows_ofOther_34, .long c_t_rows_second_34, .long c_t_rows_secondOfOne_34, .long c_t_rows_secondOfOther_34])), (a_t_factors, .inr (2, [.ref a_t_factors_parts])), (a_t_factors_parts, .inr (3, [.ref a_t_factors_parts_held, .ref a_t_factors_parts_before, .int c_t_factors_parts_size_86])), (a_t_factors_parts_held, .inl (cyJ, 12, .inr (.inl f_t_factors_parts_held_86))), (a_t_found, .inr (3, [.ref a_t_found_held, .ref a_t_found_before, .int c_t_found_size_74])), (a_t_found_held, .inl (cyJ, 12, .inr (.inl f_t_found_held_74))), (a_t_foundOtherwise, .inr (3, [.ref a_t_foundOtherwise_held, .ref a_t_foundOtherwise_before, .int c_t_foundOtherwise_size_86])), (a_t_foundOtherwise_held, .inl (cyJ, 12, .inr (.inl f_t_foundOtherwise_held_94))), (a_t_foundOtherwise_before, .inl (cyJ, 12, .inr (.inl f_t_foundOtherwise_before_94)))] H := hP.sub [2, 0, 1, 3, 6, 7, 8, 4, 5, 9, 10, 11] rfl
              have hD9 : va_D A [(a_t, .inr (6, [.ref a_t_forms, .ref a_t_roll, .ref a_t_row, .ref a_t_rows, .ref a_t_factors, .ref a_t_found, .ref a_t_foundOtherwise, .int c_t_acts, .int c_t_refusals, .int c_t_knocks])), (a_t_forms, .inl (cyJ, 6, .inr (.inl f_t_forms))), (a_t_row, .inr (5, [.long c_t_row_taps, .long c_t_row_cells])), (a_t_rows, .inr (4, [.long c_t_rows_first_34, .long c_t_rows_ofOne_34, .long c_t_rows_ofOther_34, .long c_t_rows_second_34, .long c_t_rows_secondOfOne_34, .long c_t_rows_secondOfOther_34])), (a_t_factors, .inr (2, [.ref a_t_factors_parts])), (a_t_factors_parts, .inr (3, [.ref a_t_factors_parts_held, .ref a_t_factors_parts_before, .int c_t_factors_parts_size_86])), (a_t_factors_parts_held, .inl (cyJ, 12, .inr (.inl f_t_factors_parts_held_86))), (a_t_found, .inr (3, [.ref a_t_found_held, .ref a_t_found_before, .int c_t_found_size_74])), (a_t_found_held, .inl (cyJ, 12, .inr (.inl f_t_found_held_74))), (a_t_foundOtherwise, .inr (3, [.ref a_t_foundOtherwise_held, .ref a_t_foundOtherwise_before, .int c_t_foundOtherwise_size_86])), (a_t_foundOtherwise_held, .inl (cyJ, 12, .inr (.inl f_t_foundOtherwise_held_94))), (a_t_foundOtherwise_before, .inl (cyJ, 12, .inr (.inl f_t_foundOtherwise_before_94)))] := hD.sub [2, 0, 1, 3, 6, 7, 8, 4, 5, 9, 10, 11] (by decide) rfl
              exact W.zret hx hb hr narrow_b0 (fun t ht hW => ⟨⟨_, (), rfl, rfl, wQA_of ht hP9 hD9⟩, hS.F ht⟩) hS.2.2 dX7_isSound_125
        · have h := if_ c60 h
          refine lv_iconst (v := 1) hx hb dX7_isSound_63 (by decide) ?_
          obtain ⟨e0, e1, e2, e3, e4, e5, e6, e7, e8, e9, e10, e11, e12, e13⟩ := tup14 h
          subst e0
          subst e1
          subst e2
          subst e3
          subst e4
          subst e5
          subst e6
          subst e7
          subst e8
          subst e9
          subst e10
          subst e11
          subst e12
          subst e13
          have hP9 : va_P D vwCl [(a_t, .inr (6, [.ref a_t_forms, .ref a_t_roll, .ref a_t_row, .ref a_t_rows, .ref a_t_factors, .ref a_t_found, .ref a_t_foundOtherwise, .int c_t_acts, .int c_t_refusals, .int c_t_knocks])), (a_t_forms, .inl (cyJ, 6, .inr (.inl f_t_forms))), (a_t_row, .inr (5, [.long c_t_row_taps, .long c_t_row_cells])), (a_t_rows, .inr (4, [.long c_t_rows_first_34, .long c_t_rows_ofOne_34, .long c_t_rows_ofOther_34, .long c_t_rows_second_34, .long c_t_rows_secondOfOne_34, .long c_t_rows_secondOfOther_34])), (a_t_factors, .inr (2, [.ref a_t_factors_parts])), (a_t_factors_parts, .inr (3, [.ref a_t_factors_parts_held, .ref a_t_factors_parts_before, .int c_t_factors_parts_size])), (a_t_factors_parts_held, .inl (cyJ, 12, .inr (.inl f_t_factors_parts_held))), (a_t_found, .inr (3, [.ref a_t_found_held, .ref a_t_found_before, .int c_t_found_size])), (a_t_found_held, .inl (cyJ, 12, .inr (.inl f_t_found_held))), (a_t_foundOtherwise, .inr (3, [.ref a_t_foundOtherwise_held, .ref a_t_foundOtherwise_before, .int c_t_foundOtherwise_size])), (a_t_foundOtherwise_held, .inl (cyJ, 12, .inr (.inl f_t_foundOtherwise_held))), (a_t_foundOtherwise_before, .inl (cyJ, 12, .inr (.inl f_t_foundOtherwise_before)))] H := hP.sub [10, 0, 1, 11, 2, 3, 4, 5, 6, 7, 8, 9] rfl
          have hD9 : va_D A [(a_t, .inr (6, [.ref a_t_forms, .ref a_t_roll, .ref a_t_row, .ref a_t_rows, .ref a_t_factors, .ref a_t_found, .ref a_t_foundOtherwise, .int c_t_acts, .int c_t_refusals, .int c_t_knocks])), (a_t_forms, .inl (cyJ, 6, .inr (.inl f_t_forms))), (a_t_row, .inr (5, [.long c_t_row_taps, .long c_t_row_cells])), (a_t_rows, .inr (4, [.long c_t_rows_first_34, .long c_t_rows_ofOne_34, .long c_t_rows_ofOther_34, .long c_t_rows_second_34, .long c_t_rows_secondOfOne_34, .long c_t_rows_secondOfOther_34])), (a_t_factors, .inr (2, [.ref a_t_factors_parts])), (a_t_factors_parts, .inr (3, [.ref a_t_factors_parts_held, .ref a_t_factors_parts_before, .int c_t_factors_parts_size])), (a_t_factors_parts_held, .inl (cyJ, 12, .inr (.inl f_t_factors_parts_held))), (a_t_found, .inr (3, [.ref a_t_found_held, .ref a_t_found_before, .int c_t_found_size])), (a_t_found_held, .inl (cyJ, 12, .inr (.inl f_t_found_held))), (a_t_foundOtherwise, .inr (3, [.ref a_t_foundOtherwise_held, .ref a_t_foundOtherwise_before, .int c_t_foundOtherwise_size])), (a_t_foundOtherwise_held, .inl (cyJ, 12, .inr (.inl f_t_foundOtherwise_held))), (a_t_foundOtherwise_before, .inl (cyJ, 12, .inr (.inl f_t_foundOtherwise_before)))] := hD.sub [10, 0, 1, 11, 2, 3, 4, 5, 6, 7, 8, 9] (by decide) rfl
          exact W.zret hx hb hr narrow_b1 (fun t ht hW => ⟨⟨_, (), rfl, rfl, wQA_of ht hP9 hD9⟩, hS.F ht⟩) hS.2.2 dX7_isSound_64
      · have h := it_ c50 h
        refine lv_iconst (v := 0) hx hb dX7_isSound_53 (by decide) ?_
        obtain ⟨e0, e1, e2, e3, e4, e5, e6, e7, e8, e9, e10, e11, e12, e13⟩ := tup14 h
        subst e0
        subst e1
        subst e2
        subst e3
        subst e4
        subst e5
        subst e6
        subst e7
        subst e8
        subst e9
        subst e10
        subst e11
        subst e12
        subst e13
        have hP9 : va_P D vwCl [(a_t, .inr (6, [.ref a_t_forms, .ref a_t_roll, .ref a_t_row, .ref a_t_rows, .ref a_t_factors, .ref a_t_found, .ref a_t_foundOtherwise, .int c_t_acts, .int c_t_refusals, .int c_t_knocks])), (a_t_forms, .inl (cyJ, 6, .inr (.inl f_t_forms))), (a_t_row, .inr (5, [.long c_t_row_taps, .long c_t_row_cells])), (a_t_rows, .inr (4, [.long c_t_rows_first_34, .long c_t_rows_ofOne_34, .long c_t_rows_ofOther_34, .long c_t_rows_second_34, .long c_t_rows_secondOfOne_34, .long c_t_rows_secondOfOther_34])), (a_t_factors, .inr (2, [.ref a_t_factors_parts])), (a_t_factors_parts, .inr (3, [.ref a_t_factors_parts_held, .ref a_t_factors_parts_before, .int c_t_factors_parts_size])), (a_t_factors_parts_held, .inl (cyJ, 12, .inr (.inl f_t_factors_parts_held))), (a_t_found, .inr (3, [.ref a_t_found_held, .ref a_t_found_before, .int c_t_found_size])), (a_t_found_held, .inl (cyJ, 12, .inr (.inl f_t_found_held))), (a_t_foundOtherwise, .inr (3, [.ref a_t_foundOtherwise_held, .ref a_t_foundOtherwise_before, .int c_t_foundOtherwise_size])), (a_t_foundOtherwise_held, .inl (cyJ, 12, .inr (.inl f_t_foundOtherwise_held))), (a_t_foundOtherwise_before, .inl (cyJ, 12, .inr (.inl f_t_foundOtherwise_before)))] H := hP.sub [10, 0, 1, 11, 2, 3, 4, 5, 6, 7, 8, 9] rfl
        have hD9 : va_D A [(a_t, .inr (6, [.ref a_t_forms, .ref a_t_roll, .ref a_t_row, .ref a_t_rows, .ref a_t_factors, .ref a_t_found, .ref a_t_foundOtherwise, .int c_t_acts, .int c_t_refusals, .int c_t_knocks])), (a_t_forms, .inl (cyJ, 6, .inr (.inl f_t_forms))), (a_t_row, .inr (5, [.long c_t_row_taps, .long c_t_row_cells])), (a_t_rows, .inr (4, [.long c_t_rows_first_34, .long c_t_rows_ofOne_34, .long c_t_rows_ofOther_34, .long c_t_rows_second_34, .long c_t_rows_secondOfOne_34, .long c_t_rows_secondOfOther_34])), (a_t_factors, .inr (2, [.ref a_t_factors_parts])), (a_t_factors_parts, .inr (3, [.ref a_t_factors_parts_held, .ref a_t_factors_parts_before, .int c_t_factors_parts_size])), (a_t_factors_parts_held, .inl (cyJ, 12, .inr (.inl f_t_factors_parts_held))), (a_t_found, .inr (3, [.ref a_t_found_held, .ref a_t_found_before, .int c_t_found_size])), (a_t_found_held, .inl (cyJ, 12, .inr (.inl f_t_found_held))), (a_t_foundOtherwise, .inr (3, [.ref a_t_foundOtherwise_held, .ref a_t_foundOtherwise_before, .int c_t_foundOtherwise_size])), (a_t_foundOtherwise_held, .inl (cyJ, 12, .inr (.inl f_t_foundOtherwise_held))), (a_t_foundOtherwise_before, .inl (cyJ, 12, .inr (.inl f_t_foundOtherwise_before)))] := hD.sub [10, 0, 1, 11, 2, 3, 4, 5, 6, 7, 8, 9] (by decide) rfl
        exact W.zret hx hb hr narrow_b0 (fun t ht hW => ⟨⟨_, (), rfl, rfl, wQA_of ht hP9 hD9⟩, hS.F ht⟩) hS.2.2 dX7_isSound_54

noncomputable abbrev rmX7_mixed : Room := { frames := 0, cells := 0, slots := 0, locals := 0 }
theorem ydX7_mixed : yX7_mixed.cls ≠ "java/lang/invoke/MethodHandle" ∧ yX7_mixed.cls ≠ "java/lang/invoke/VarHandle" ∧ (parseMethodDescriptor yX7_mixed.desc).map (fun d => d.parameters.length) = some 2 := by decide +kernel
noncomputable def F_X7_mixed (p0 : Int64) (p1 : Int64) : Option (Int64) :=
 some ((p0 * (31 : Int64)) + p1)
set_option maxHeartbeats 4000000 in
set_option maxRecDepth 100000 in
theorem c_X7_mixed (l : Launch) (p0 : Int64) (p1 : Int64) (r0 : Int64) (hF : F_X7_mixed p0 p1 = some r0) : Met l yX7_mixed wsX7_mixed rmX7_mixed (va_Pc [.long p0, .long p1] NW) (k2_QcV (.long r0)) 0 0 (fun _ => False) := by
  refine Met.ofW (cc := cX7_mixed) (maxL := 4) (ret := (some .long)) (by decide) rfl ?_
  intro p e s m args below meth c s₁ B hml hv
  obtain ⟨rfl, hnw⟩ := hv
  have hx := B.exec
  have hb := B.bytes
  have hr := B.returns
  have hts := atoms_spec (ws := wsX7_mixed) B.pre
  have hown : s.vm.findClass RX7 = some m.cls := findClass_of_methodNamed B.named
  have hlocks := B.notSynchronized
  have hcf : CallFix _ _ _ _ _ _ _ _ _ := ⟨hx, hb, hml, hown, hts⟩
  have hl := lv_entry ([.long p0, .long p1]) (n := 4) (Nat.le_of_ble_eq_true rfl)
  rw [lg_entry_eq]
  generalize (lg_sl ([.long p0, .long p1]) ++ List.replicate (4 - (lg_sl ([.long p0, .long p1])).length) Slot.unset).toArray = ls at hl ⊢
  have hl : lv_has ls 4 [(0, .long p0), (2, .long p1)] := hl
  have h := hF
  clear hF
  unfold F_X7_mixed at h
  refine lv_lload_n hx hb dX7_mixed_0 rfl (lv_at hl 0 rfl) ?_
  refine lv_ldc2 hx hb hown (hts (.constantLong RX7 313 (31)) (by decide +kernel)) dX7_mixed_1 ?_
  refine lv_lmul hx hb dX7_mixed_4 ?_
  refine lv_lload_n hx hb dX7_mixed_5 rfl (lv_at hl 1 rfl) ?_
  refine lv_ladd hx hb dX7_mixed_6 ?_
  have e1 := Option.some.inj h
  subst e1
  exact W.lret hx hb hr (fun t ht _ => ⟨rfl, ht⟩) no_q dX7_mixed_7

noncomputable abbrev rmX7_digestOfForm : Room := { frames := 3, cells := 0, slots := 0, locals := 65 }
theorem ydX7_digestOfForm : yX7_digestOfForm.cls ≠ "java/lang/invoke/MethodHandle" ∧ yX7_digestOfForm.cls ≠ "java/lang/invoke/VarHandle" ∧ (parseMethodDescriptor yX7_digestOfForm.desc).map (fun d => d.parameters.length) = some 2 := by decide +kernel
noncomputable def S_X7_digestOfForm_25 (z2_25 : Int64) (k55 : Int64 → Option (Int64)) (ih25 : Int64 → Int32 → Option (Int64)) (y4_25 : Int64) (y6_25 : Int32) : Option (Int64) :=
 (if y6_25 < 0 then
 k55 y4_25
else
 obn (F_X0_hasOne z2_25 y6_25) (fun r33 =>
 (if r33 = 0 then
 bnd (y6_25 + (-1)) (fun x6_49 =>
 ih25 y4_25 x6_49)
else
 obn (F_X7_mixed y4_25 y6_25.toInt64) (fun r44 =>
 bnd (y6_25 + (-1)) (fun x6_49 =>
 ih25 r44 x6_49)))))
noncomputable def F_X7_digestOfForm (p0 : Int64) (p1 : Int64) : Option (Int64) :=
 obn (F_X0_degreeOf p1) (fun r2 =>
 obn (F_X7_mixed p0 r2.toInt64) (fun r6 =>
 obn (F_X0_lowestOf p1) (fun r10 =>
 obn (F_X7_mixed r6 r10.toInt64) (fun r14 =>
 obn (F_X0_degreeOf p1) (fun r20 =>
 LQ2 (S_X7_digestOfForm_25 p1 (fun y4_25_55 =>
 some y4_25_55)) 20000 r14 r20)))))
set_option maxHeartbeats 4000000 in
set_option maxRecDepth 100000 in
theorem c_X7_digestOfForm (l : Launch) (p0 : Int64) (p1 : Int64) (r0 : Int64) (hF : F_X7_digestOfForm p0 p1 = some r0) : Met l yX7_digestOfForm wsX7_digestOfForm rmX7_digestOfForm (va_Pc [.long p0, .long p1] NW) (k2_QcV (.long r0)) 0 0 (fun _ => False) := by
  refine Met.ofW (cc := cX7_digestOfForm) (maxL := 7) (ret := (some .long)) (by decide) rfl ?_
  intro p e s m args below meth c s₁ B hml hv
  obtain ⟨rfl, hnw⟩ := hv
  have hx := B.exec
  have hb := B.bytes
  have hr := B.returns
  have hts := atoms_spec (ws := wsX7_digestOfForm) B.pre
  have hown : s.vm.findClass RX7 = some m.cls := findClass_of_methodNamed B.named
  have hlocks := B.notSynchronized
  have hcf : CallFix _ _ _ _ _ _ _ _ _ := ⟨hx, hb, hml, hown, hts⟩
  have hl := lv_entry ([.long p0, .long p1]) (n := 7) (Nat.le_of_ble_eq_true rfl)
  rw [lg_entry_eq]
  generalize (lg_sl ([.long p0, .long p1]) ++ List.replicate (7 - (lg_sl ([.long p0, .long p1])).length) Slot.unset).toArray = ls at hl ⊢
  have hl : lv_has ls 7 [(0, .long p0), (2, .long p1)] := hl
  have h := hF
  clear hF
  unfold F_X7_digestOfForm at h
  refine lv_lload_n hx hb dX7_digestOfForm_0 rfl (lv_at hl 0 rfl) ?_
  refine lv_lload_n hx hb dX7_digestOfForm_1 rfl (lv_at hl 1 rfl) ?_
  obtain ⟨r2, hc2, h⟩ := obn_h h
  refine pz_callS (As := [.long p1]) (rest := [.long p0]) hcf (c_X0_degreeOf l p1 r2 hc2) (va_cwS 1 hts gX7_digestOfForm_X0_degreeOf rfl rfl rfl ydX0_degreeOf ⟨Nat.le_of_ble_eq_true rfl, Nat.le_of_ble_eq_true rfl⟩) hnw rfl hl.1 rfl (Nat.le_of_ble_eq_true rfl) dX7_digestOfForm_2 ⟨Nat.le_of_ble_eq_true rfl, Nat.le_of_ble_eq_true rfl⟩ ?_
  refine lv_i2l (v := r2.toInt64) hx hb dX7_digestOfForm_5 rfl ?_
  obtain ⟨r6, hc6, h⟩ := obn_h h
  refine pz_callS (As := [.long p0, .long r2.toInt64]) (rest := []) hcf (c_X7_mixed l p0 r2.toInt64 r6 hc6) (va_cwS 2 hts gX7_digestOfForm_X7_mixed rfl rfl rfl ydX7_mixed ⟨Nat.le_of_ble_eq_true rfl, Nat.le_of_ble_eq_true rfl⟩) hnw rfl hl.1 rfl (Nat.le_of_ble_eq_true rfl) dX7_digestOfForm_6 ⟨Nat.le_of_ble_eq_true rfl, Nat.le_of_ble_eq_true rfl⟩ ?_
  refine lv_lload_n hx hb dX7_digestOfForm_9 rfl (lv_at hl 1 rfl) ?_
  obtain ⟨r10, hc10, h⟩ := obn_h h
  refine pz_callS (As := [.long p1]) (rest := [.long r6]) hcf (c_X0_lowestOf l p1 r10 hc10) (va_cwS 1 hts gX7_digestOfForm_X0_lowestOf rfl rfl rfl ydX0_lowestOf ⟨Nat.le_of_ble_eq_true rfl, Nat.le_of_ble_eq_true rfl⟩) hnw rfl hl.1 rfl (Nat.le_of_ble_eq_true rfl) dX7_digestOfForm_10 ⟨Nat.le_of_ble_eq_true rfl, Nat.le_of_ble_eq_true rfl⟩ ?_
  refine lv_i2l (v := r10.toInt64) hx hb dX7_digestOfForm_13 rfl ?_
  obtain ⟨r14, hc14, h⟩ := obn_h h
  refine pz_callS (As := [.long r6, .long r10.toInt64]) (rest := []) hcf (c_X7_mixed l r6 r10.toInt64 r14 hc14) (va_cwS 2 hts gX7_digestOfForm_X7_mixed rfl rfl rfl ydX7_mixed ⟨Nat.le_of_ble_eq_true rfl, Nat.le_of_ble_eq_true rfl⟩) hnw rfl hl.1 rfl (Nat.le_of_ble_eq_true rfl) dX7_digestOfForm_14 ⟨Nat.le_of_ble_eq_true rfl, Nat.le_of_ble_eq_true rfl⟩ ?_
  refine lv_lstore (lv' := [(4, .long r14), (0, .long p0), (2, .long p1)]) hx hb dX7_digestOfForm_17 hl (by decide) rfl (fun ls hl => ?_)
  refine lv_lload_n hx hb dX7_digestOfForm_19 rfl (lv_at hl 2 rfl) ?_
  obtain ⟨r20, hc20, h⟩ := obn_h h
  refine pz_callS (As := [.long p1]) (rest := []) hcf (c_X0_degreeOf l p1 r20 hc20) (va_cwS 1 hts gX7_digestOfForm_X0_degreeOf rfl rfl rfl ydX0_degreeOf ⟨Nat.le_of_ble_eq_true rfl, Nat.le_of_ble_eq_true rfl⟩) hnw rfl hl.1 rfl (Nat.le_of_ble_eq_true rfl) dX7_digestOfForm_20 ⟨Nat.le_of_ble_eq_true rfl, Nat.le_of_ble_eq_true rfl⟩ ?_
  refine lv_istore (lv' := [(6, .int r20), (4, .long r14), (0, .long p0), (2, .long p1)]) hx hb dX7_digestOfForm_23 hl (by decide) rfl (fun ls hl => ?_)
  refine LQ2_k1 (M := fun (y4_25 : Int64) (y6_25 : Int32) => ∀ (ls : Array Slot), lv_has ls 7 [(2, .long p1), (4, .long y4_25), (6, .int y6_25)] → W p l e rmX7_digestOfForm s m ([.long p0, .long p1] : List Value).toArray below meth c s.heap [] 0 0 (MQ below (k2_QcV (.long r0)) ([.long p0, .long p1] : List Value).toArray s 0 0 (fun _ => False)) (F0 m 25 ls [])) ?_ _ _ _ h ls (lv_sub hl [3, 1, 0] rfl)
  intro k55 hk55 ih25 hih25 y4_25 y6_25 h ls hl
  unfold S_X7_digestOfForm_25 at h
  refine lv_iload hx hb dX7_digestOfForm_25 (lv_at hl 2 rfl) ?_
  refine lv_if_lt (tgt := 55) hx hb dX7_digestOfForm_27 (by decide) (fun c27 => ?_) (fun c27 => ?_)
  · have h := it_ c27 h
    rw [hk55] at h
    refine lv_lload hx hb dX7_digestOfForm_55 (lv_at hl 1 rfl) ?_
    have e1 := Option.some.inj h
    subst e1
    exact W.lret hx hb hr (fun t ht _ => ⟨rfl, ht⟩) no_q dX7_digestOfForm_57
  · have h := if_ c27 h
    refine lv_lload_n hx hb dX7_digestOfForm_30 rfl (lv_at hl 0 rfl) ?_
    refine lv_iload hx hb dX7_digestOfForm_31 (lv_at hl 2 rfl) ?_
    obtain ⟨r33, hc33, h⟩ := obn_h h
    refine pz_callS (As := [.long p1, .int y6_25]) (rest := []) hcf (c_X0_hasOne l p1 y6_25 r33 hc33) (va_cwS 2 hts gX7_digestOfForm_X0_hasOne rfl rfl rfl ydX0_hasOne ⟨Nat.le_of_ble_eq_true rfl, Nat.le_of_ble_eq_true rfl⟩) hnw rfl hl.1 rfl (Nat.le_of_ble_eq_true rfl) dX7_digestOfForm_33 ⟨Nat.le_of_ble_eq_true rfl, Nat.le_of_ble_eq_true rfl⟩ ?_
    refine lv_if_eq (tgt := 49) hx hb dX7_digestOfForm_36 (by decide) (fun c36 => ?_) (fun c36 => ?_)
    · have h := it_ c36 h
      obtain ⟨x6_49, e_x6_49⟩ : ∃ z : Int32, z = y6_25 + (-1) := ⟨_, rfl⟩
      have h := bnd_h e_x6_49 h
      refine lv_iinc (v := x6_49) (lv' := [(6, .int x6_49), (2, .long p1), (4, .long y4_25)]) hx hb dX7_digestOfForm_49 hl (k := 2) rfl (by rw [e_x6_49]; rfl) (by decide) rfl (fun ls hl => ?_)
      refine lv_goto (tgt := 25) hx hb dX7_digestOfForm_52 (by decide) ?_
      exact hih25 y4_25 x6_49 h ls (lv_sub hl [1, 2, 0] rfl)
    · have h := if_ c36 h
      refine lv_lload hx hb dX7_digestOfForm_39 (lv_at hl 1 rfl) ?_
      refine lv_iload hx hb dX7_digestOfForm_41 (lv_at hl 2 rfl) ?_
      refine lv_i2l (v := y6_25.toInt64) hx hb dX7_digestOfForm_43 rfl ?_
      obtain ⟨r44, hc44, h⟩ := obn_h h
      refine pz_callS (As := [.long y4_25, .long y6_25.toInt64]) (rest := []) hcf (c_X7_mixed l y4_25 y6_25.toInt64 r44 hc44) (va_cwS 2 hts gX7_digestOfForm_X7_mixed rfl rfl rfl ydX7_mixed ⟨Nat.le_of_ble_eq_true rfl, Nat.le_of_ble_eq_true rfl⟩) hnw rfl hl.1 rfl (Nat.le_of_ble_eq_true rfl) dX7_digestOfForm_44 ⟨Nat.le_of_ble_eq_true rfl, Nat.le_of_ble_eq_true rfl⟩ ?_
      refine lv_lstore (lv' := [(4, .long r44), (2, .long p1), (6, .int y6_25)]) hx hb dX7_digestOfForm_47 hl (by decide) rfl (fun ls hl => ?_)
      obtain ⟨x6_49, e_x6_49⟩ : ∃ z : Int32, z = y6_25 + (-1) := ⟨_, rfl⟩
      have h := bnd_h e_x6_49 h
      refine lv_iinc (v := x6_49) (lv' := [(6, .int x6_49), (4, .long r44), (2, .long p1)]) hx hb dX7_digestOfForm_49 hl (k := 2) rfl (by rw [e_x6_49]; rfl) (by decide) rfl (fun ls hl => ?_)
      refine lv_goto (tgt := 25) hx hb dX7_digestOfForm_52 (by decide) ?_
      exact hih25 r44 x6_49 h ls (lv_sub hl [2, 1, 0] rfl)
