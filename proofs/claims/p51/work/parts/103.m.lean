noncomputable abbrev rmX7_common : Room := { frames := 10, cells := 3, slots := 18, locals := 142 }
theorem ydX7_common : yX7_common.cls = RX7 ∧ yX7_common.cls ≠ "java/lang/invoke/MethodHandle" ∧ yX7_common.cls ≠ "java/lang/invoke/VarHandle" ∧ (parseMethodDescriptor yX7_common.desc).map (fun d => d.parameters.length) = some 3 := by decide +kernel
noncomputable def F_X7_common (c_t_acts : Int32) (f_t_forms : Nat → Int64) (p0 : Int32) (p1 : Int32) (p2 : Int32) : Option (Nat × Int32 × Int32 × (Nat → Int64)) :=
 obn (F_X7_testForms p0 p1 p2) (fun xc3 =>
 if xc3 = 0 then
 chk (¬ (p0 < 0 ∨ 6 ≤ p0.toNatClampNeg)) (
 chk (¬ (p1 < 0 ∨ 6 ≤ p1.toNatClampNeg)) (
 obn (F_X0_greatestBoth (f_t_forms p0.toNatClampNeg) (f_t_forms p1.toNatClampNeg)) (fun r20 =>
 obn3 (F_X7_become c_t_acts f_t_forms p2 r20) (fun r23 c_t_acts_23 f_t_forms_23 =>
 some (0, r23, c_t_acts_23, f_t_forms_23)))))
else
 some (xc3, 0, c_t_acts, f_t_forms))
set_option maxHeartbeats 4000000 in
set_option maxRecDepth 100000 in
theorem c_X7_common (l : Launch) (hfl : l.stackTraces = false) (D : va_G) (cyJ : ClassId) (sz : Nat) (a_t : Nat) (a_t_forms : Nat) (a_t_roll : Nat) (a_t_row : Nat) (a_t_rows : Nat) (a_t_factors : Nat) (a_t_found : Nat) (a_t_foundOtherwise : Nat) (c_t_acts : Int32) (c_t_refusals : Int32) (c_t_knocks : Int32) (f_t_forms : Nat → Int64) (p0 : Int32) (p1 : Int32) (p2 : Int32) (xc : Nat) (r0 : Int32) (o_c_t_acts : Int32) (o_f_t_forms : Nat → Int64) (hF : F_X7_common c_t_acts f_t_forms p0 p1 p2 = some (xc, r0, o_c_t_acts, o_f_t_forms)) : vx_Met l yX7_common wsX7_common rmX7_common (va_Pc [.ref a_t, .int p0, .int p1, .int p2] (wPX D [(cyJ, .long)] [(a_t, .inr (6, [.ref a_t_forms, .ref a_t_roll, .ref a_t_row, .ref a_t_rows, .ref a_t_factors, .ref a_t_found, .ref a_t_foundOtherwise, .int c_t_acts, .int c_t_refusals, .int c_t_knocks])), (a_t_forms, .inl (cyJ, 6, .inr (.inl f_t_forms)))] sz)) (va_Qi (fun (r : Int32) (_ : Unit) => xc = 0 ∧ r = r0) (fun _ t => wQA D [(a_t, .inr (6, [.ref a_t_forms, .ref a_t_roll, .ref a_t_row, .ref a_t_rows, .ref a_t_factors, .ref a_t_found, .ref a_t_foundOtherwise, .int o_c_t_acts, .int c_t_refusals, .int c_t_knocks])), (a_t_forms, .inl (cyJ, 6, .inr (.inl o_f_t_forms)))] (va_A [(a_t, .inr (6, [.ref a_t_forms, .ref a_t_roll, .ref a_t_row, .ref a_t_rows, .ref a_t_factors, .ref a_t_found, .ref a_t_foundOtherwise, .int c_t_acts, .int c_t_refusals, .int c_t_knocks])), (a_t_forms, .inl (cyJ, 6, .inr (.inl f_t_forms)))] sz) t) (va_A [(a_t, .inr (6, [.ref a_t_forms, .ref a_t_roll, .ref a_t_row, .ref a_t_rows, .ref a_t_factors, .ref a_t_found, .ref a_t_foundOtherwise, .int c_t_acts, .int c_t_refusals, .int c_t_knocks])), (a_t_forms, .inl (cyJ, 6, .inr (.inl f_t_forms)))] sz)) (vx_X (fun (_ : Unit) => ¬ xc = 0) (fun E _ t => E = xcls xc ∧ wQA D [(a_t, .inr (6, [.ref a_t_forms, .ref a_t_roll, .ref a_t_row, .ref a_t_rows, .ref a_t_factors, .ref a_t_found, .ref a_t_foundOtherwise, .int o_c_t_acts, .int c_t_refusals, .int c_t_knocks])), (a_t_forms, .inl (cyJ, 6, .inr (.inl o_f_t_forms)))] (va_A [(a_t, .inr (6, [.ref a_t_forms, .ref a_t_roll, .ref a_t_row, .ref a_t_rows, .ref a_t_factors, .ref a_t_found, .ref a_t_foundOtherwise, .int c_t_acts, .int c_t_refusals, .int c_t_knocks])), (a_t_forms, .inl (cyJ, 6, .inr (.inl f_t_forms)))] sz) t) (va_A [(a_t, .inr (6, [.ref a_t_forms, .ref a_t_roll, .ref a_t_row, .ref a_t_rows, .ref a_t_factors, .ref a_t_found, .ref a_t_foundOtherwise, .int c_t_acts, .int c_t_refusals, .int c_t_knocks])), (a_t_forms, .inl (cyJ, 6, .inr (.inl f_t_forms)))] sz)) 3 18 (va_A [(a_t, .inr (6, [.ref a_t_forms, .ref a_t_roll, .ref a_t_row, .ref a_t_rows, .ref a_t_factors, .ref a_t_found, .ref a_t_foundOtherwise, .int c_t_acts, .int c_t_refusals, .int c_t_knocks])), (a_t_forms, .inl (cyJ, 6, .inr (.inl f_t_forms)))] sz) := by
  refine vx_ofW (cc := cX7_common) (maxL := 4) (ret := (some .int)) (by decide) rfl ?_
  intro p e s m args below meth c s₁ B hml hxt hv
  obtain ⟨rfl, ⟨⟨hsz, hP, hK, hD0, hnw⟩, hE⟩⟩ := hv
  have hx := B.exec
  have hb := B.bytes
  have hr := B.returns
  have hts := atoms_spec (ws := wsX7_common) B.pre
  have hown : s.vm.findClass RX7 = some m.cls := findClass_of_methodNamed B.named
  have hlocks := B.notSynchronized
  have hcf : CallFix _ _ _ _ _ _ _ _ _ := ⟨hx, hb, hml, hown, hts⟩
  have hinX7 : ∀ w ∈ u_ws RX7 TX7 10, w ∈ wsX7_common := by decide +kernel
  have hfl9 := hts (.fieldLink RX7 9 "Formwheel" "forms" "[J") (by decide +kernel)
  subst hsz
  have hD := hD0.self (sz := s.heap.size)
  generalize hAe : va_A [(a_t, .inr (6, [.ref a_t_forms, .ref a_t_roll, .ref a_t_row, .ref a_t_rows, .ref a_t_factors, .ref a_t_found, .ref a_t_foundOtherwise, .int c_t_acts, .int c_t_refusals, .int c_t_knocks])), (a_t_forms, .inl (cyJ, 6, .inr (.inl f_t_forms)))] s.heap.size = A at hD hE ⊢
  have hA : ∀ q : Nat, s.heap.size ≤ q → A q := fun q h => by rw [← hAe]; exact Or.inr h
  have hS : va_S A s.heap s.heap [] := va_S.rf
  have hP : va_P D vwCl [(a_t, .inr (6, [.ref a_t_forms, .ref a_t_roll, .ref a_t_row, .ref a_t_rows, .ref a_t_factors, .ref a_t_found, .ref a_t_foundOtherwise, .int c_t_acts, .int c_t_refusals, .int c_t_knocks])), (a_t_forms, .inl (cyJ, 6, .inr (.inl f_t_forms)))] s.heap := hP
  have hK0 := hK
  have hl := lv_entry ([.ref a_t, .int p0, .int p1, .int p2]) (n := 4) (Nat.le_of_ble_eq_true rfl)
  rw [lg_entry_eq]
  generalize (lg_sl ([.ref a_t, .int p0, .int p1, .int p2]) ++ List.replicate (4 - (lg_sl ([.ref a_t, .int p0, .int p1, .int p2])).length) Slot.unset).toArray = ls at hl ⊢
  have hl : lv_has ls 4 [(0, .ref a_t), (1, .int p0), (2, .int p1), (3, .int p2)] := hl
  have h := hF
  clear hF
  unfold F_X7_common at h
  refine lv_iload_n hx hb dX7_common_0 rfl (lv_at hl 1 rfl) ?_
  refine lv_iload_n hx hb dX7_common_1 rfl (lv_at hl 2 rfl) ?_
  refine lv_iload_n hx hb dX7_common_2 rfl (lv_at hl 3 rfl) ?_
  obtain ⟨xc3, hc3, h⟩ := obn_h h
  have hPc := hP.sub (ws' := []) [] rfl
  have hDc := hD.sub (ws' := []) [] (by decide) rfl
  refine hx_v (w1 := []) (wr := [(a_t, .inr (6, [.ref a_t_forms, .ref a_t_roll, .ref a_t_row, .ref a_t_rows, .ref a_t_factors, .ref a_t_found, .ref a_t_foundOtherwise, .int c_t_acts, .int c_t_refusals, .int c_t_knocks])), (a_t_forms, .inl (cyJ, 6, .inr (.inl f_t_forms)))]) (vx_runS (As := [.int p0, .int p1, .int p2]) (rest := []) hcf (c_X7_testForms l hfl D cyJ s.heap.size p0 p1 p2 xc3 hc3) (va_cwS 3 hts gX7_common_X7_testForms rfl rfl rfl ydX7_testForms ⟨Nat.le_of_ble_eq_true rfl, Nat.le_of_ble_eq_true rfl⟩) ⟨bl_PX, pr_PX hPc hK0 hDc hnw hE hS (va_free hD hS hA [] rfl)⟩ rfl rfl hl.1 rfl (lv_room (Nat.le_of_ble_eq_true rfl)) dX7_common_3 ⟨Nat.le_of_ble_eq_true rfl, Nat.le_of_ble_eq_true rfl⟩) hP hD hS hA [] [0, 1] rfl rfl (by decide) (by decide) (fun E9 ce9 q9 H locs hx9 hE9 hP hD hS hce9 hcv9 hcl9 => ?_) (fun hx9 H locs hP hD hS => ?_)
  · have h := if_ hx9 h
    have hP : va_P D vwCl [(a_t, .inr (6, [.ref a_t_forms, .ref a_t_roll, .ref a_t_row, .ref a_t_rows, .ref a_t_factors, .ref a_t_found, .ref a_t_foundOtherwise, .int c_t_acts, .int c_t_refusals, .int c_t_knocks])), (a_t_forms, .inl (cyJ, 6, .inr (.inl f_t_forms)))] H := hP
    have hD : va_D A [(a_t, .inr (6, [.ref a_t_forms, .ref a_t_roll, .ref a_t_row, .ref a_t_rows, .ref a_t_factors, .ref a_t_found, .ref a_t_foundOtherwise, .int c_t_acts, .int c_t_refusals, .int c_t_knocks])), (a_t_forms, .inl (cyJ, 6, .inr (.inl f_t_forms)))] := hD
    obtain ⟨e0, e1, e2, e3⟩ := tup4 h
    subst e0
    subst e1
    subst e2
    subst e3
    have hP9 : va_P D vwCl [(a_t, .inr (6, [.ref a_t_forms, .ref a_t_roll, .ref a_t_row, .ref a_t_rows, .ref a_t_factors, .ref a_t_found, .ref a_t_foundOtherwise, .int c_t_acts, .int c_t_refusals, .int c_t_knocks])), (a_t_forms, .inl (cyJ, 6, .inr (.inl f_t_forms)))] H := hP.sub [0, 1] rfl
    have hD9 : va_D A [(a_t, .inr (6, [.ref a_t_forms, .ref a_t_roll, .ref a_t_row, .ref a_t_rows, .ref a_t_factors, .ref a_t_found, .ref a_t_foundOtherwise, .int c_t_acts, .int c_t_refusals, .int c_t_knocks])), (a_t_forms, .inl (cyJ, 6, .inr (.inl f_t_forms)))] := hD.sub [0, 1] (by decide) rfl
    exact vx_out (fun x hx => (hxt x hx).elim) hlocks hce9 hcv9 hcl9 (fun t ht hW => ⟨(), hx9, ⟨hE9, wQA_of ht hP9 hD9⟩, hS.F ht⟩) hS.2.2 (Nat.le_of_ble_eq_true rfl) (Nat.le_of_ble_eq_true rfl)
  · have h := it_ hx9 h
    have hP : va_P D vwCl [(a_t, .inr (6, [.ref a_t_forms, .ref a_t_roll, .ref a_t_row, .ref a_t_rows, .ref a_t_factors, .ref a_t_found, .ref a_t_foundOtherwise, .int c_t_acts, .int c_t_refusals, .int c_t_knocks])), (a_t_forms, .inl (cyJ, 6, .inr (.inl f_t_forms)))] H := hP
    have hD : va_D A [(a_t, .inr (6, [.ref a_t_forms, .ref a_t_roll, .ref a_t_row, .ref a_t_rows, .ref a_t_factors, .ref a_t_found, .ref a_t_foundOtherwise, .int c_t_acts, .int c_t_refusals, .int c_t_knocks])), (a_t_forms, .inl (cyJ, 6, .inr (.inl f_t_forms)))] := hD
    refine lv_aload_n hx hb dX7_common_6 rfl (lv_at hl 0 rfl) ?_
    refine lv_iload_n hx hb dX7_common_7 rfl (lv_at hl 3 rfl) ?_
    refine lv_aload_n hx hb dX7_common_8 rfl (lv_at hl 0 rfl) ?_
    refine va_get (D := D) (ci := 6) (v := .ref a_t_forms) (C := RX7) (T := TX7) (N := 10) hx hb hts hinX7 hown hK hP 0 rfl rfl 0 (by decide) hfl9 (fun _ h9 => h9) rfl dX7_common_9 ?_
    refine lv_iload_n hx hb dX7_common_12 rfl (lv_at hl 1 rfl) ?_
    obtain ⟨hq13, h⟩ := chk_h h
    refine va_lald hx hb hK hP 1 0 rfl rfl hq13 dX7_common_13 ?_
    refine lv_aload_n hx hb dX7_common_14 rfl (lv_at hl 0 rfl) ?_
    refine va_get (D := D) (ci := 6) (v := .ref a_t_forms) (C := RX7) (T := TX7) (N := 10) hx hb hts hinX7 hown hK hP 0 rfl rfl 0 (by decide) hfl9 (fun _ h9 => h9) rfl dX7_common_15 ?_
    refine lv_iload_n hx hb dX7_common_18 rfl (lv_at hl 2 rfl) ?_
    obtain ⟨hq19, h⟩ := chk_h h
    refine va_lald hx hb hK hP 1 0 rfl rfl hq19 dX7_common_19 ?_
    obtain ⟨r20, hc20, h⟩ := obn_h h
    refine pz_callS (As := [.long (f_t_forms p0.toNatClampNeg), .long (f_t_forms p1.toNatClampNeg)]) (rest := [.int p2, .ref a_t]) hcf (c_X0_greatestBoth l (f_t_forms p0.toNatClampNeg) (f_t_forms p1.toNatClampNeg) r20 hc20) (va_cwS 2 hts gX7_common_X0_greatestBoth rfl rfl rfl ydX0_greatestBoth ⟨Nat.le_of_ble_eq_true rfl, Nat.le_of_ble_eq_true rfl⟩) hnw rfl hl.1 rfl (Nat.le_of_ble_eq_true rfl) dX7_common_20 ⟨Nat.le_of_ble_eq_true rfl, Nat.le_of_ble_eq_true rfl⟩ ?_
    obtain ⟨r23, c_t_acts_23, f_t_forms_23, hc23, h⟩ := obn3_h h
    have hPc := hP.sub (ws' := [(a_t, .inr (6, [.ref a_t_forms, .ref a_t_roll, .ref a_t_row, .ref a_t_rows, .ref a_t_factors, .ref a_t_found, .ref a_t_foundOtherwise, .int c_t_acts, .int c_t_refusals, .int c_t_knocks])), (a_t_forms, .inl (cyJ, 6, .inr (.inl f_t_forms)))]) [0, 1] rfl
    have hDc := hD.sub (ws' := [(a_t, .inr (6, [.ref a_t_forms, .ref a_t_roll, .ref a_t_row, .ref a_t_rows, .ref a_t_factors, .ref a_t_found, .ref a_t_foundOtherwise, .int c_t_acts, .int c_t_refusals, .int c_t_knocks])), (a_t_forms, .inl (cyJ, 6, .inr (.inl f_t_forms)))]) [0, 1] (by decide) rfl
    refine hp_i (w1 := [(a_t, .inr (6, [.ref a_t_forms, .ref a_t_roll, .ref a_t_row, .ref a_t_rows, .ref a_t_factors, .ref a_t_found, .ref a_t_foundOtherwise, .int c_t_acts_23, .int c_t_refusals, .int c_t_knocks])), (a_t_forms, .inl (cyJ, 6, .inr (.inl f_t_forms_23)))]) (wr := []) (va_runV (As := [.int p2, .long r20]) (rest := []) hcf (c_X7_become l D cyJ H.size a_t a_t_forms a_t_roll a_t_row a_t_rows a_t_factors a_t_found a_t_foundOtherwise c_t_acts c_t_refusals c_t_knocks f_t_forms p2 r20 r23 c_t_acts_23 f_t_forms_23 hc23) (cwV 2 hts gX7_common_X7_become rfl rfl rfl ydX7_become ⟨Nat.le_of_ble_eq_true rfl, Nat.le_of_ble_eq_true rfl⟩) ⟨bl_PD, va_recv hK hP (ci := 6) (q0 := 0) rfl rfl, pr_PD hPc hK0 hDc hnw⟩ rfl rfl hl.1 rfl (lv_room (Nat.le_of_ble_eq_true rfl)) dX7_common_23 ⟨Nat.le_of_ble_eq_true rfl, Nat.le_of_ble_eq_true rfl⟩) hP hD hS hA [0, 1] [] rfl rfl (by decide) (by decide) (fun H locs hP hD hS => ?_)
    have hP : va_P D vwCl [(a_t, .inr (6, [.ref a_t_forms, .ref a_t_roll, .ref a_t_row, .ref a_t_rows, .ref a_t_factors, .ref a_t_found, .ref a_t_foundOtherwise, .int c_t_acts_23, .int c_t_refusals, .int c_t_knocks])), (a_t_forms, .inl (cyJ, 6, .inr (.inl f_t_forms_23)))] H := hP
    have hD : va_D A [(a_t, .inr (6, [.ref a_t_forms, .ref a_t_roll, .ref a_t_row, .ref a_t_rows, .ref a_t_factors, .ref a_t_found, .ref a_t_foundOtherwise, .int c_t_acts_23, .int c_t_refusals, .int c_t_knocks])), (a_t_forms, .inl (cyJ, 6, .inr (.inl f_t_forms_23)))] := hD
    obtain ⟨e0, e1, e2, e3⟩ := tup4 h
    subst e0
    subst e1
    subst e2
    subst e3
    have hP9 : va_P D vwCl [(a_t, .inr (6, [.ref a_t_forms, .ref a_t_roll, .ref a_t_row, .ref a_t_rows, .ref a_t_factors, .ref a_t_found, .ref a_t_foundOtherwise, .int c_t_acts_23, .int c_t_refusals, .int c_t_knocks])), (a_t_forms, .inl (cyJ, 6, .inr (.inl f_t_forms_23)))] H := hP.sub [0, 1] rfl
    have hD9 : va_D A [(a_t, .inr (6, [.ref a_t_forms, .ref a_t_roll, .ref a_t_row, .ref a_t_rows, .ref a_t_factors, .ref a_t_found, .ref a_t_foundOtherwise, .int c_t_acts_23, .int c_t_refusals, .int c_t_knocks])), (a_t_forms, .inl (cyJ, 6, .inr (.inl f_t_forms_23)))] := hD.sub [0, 1] (by decide) rfl
    refine vx_ret ?_
    exact W.iret hx hb hr (fun t ht hW => ⟨⟨_, (), rfl, ⟨rfl, rfl⟩, wQA_of ht hP9 hD9⟩, hS.F ht⟩) hS.2.2 dX7_common_26

noncomputable abbrev rmX4_goOn : Room := { frames := 3, cells := 0, slots := 0, locals := 70 }
theorem ydX4_goOn : yX4_goOn.cls = RX4 ∧ yX4_goOn.cls ≠ "java/lang/invoke/MethodHandle" ∧ yX4_goOn.cls ≠ "java/lang/invoke/VarHandle" ∧ (parseMethodDescriptor yX4_goOn.desc).map (fun d => d.parameters.length) = some 1 := by decide +kernel
noncomputable def F_X4_goOn (c_t_first : Int64) (c_t_ofOne : Int64) (c_t_ofOther : Int64) (c_t_second : Int64) (c_t_secondOfOne : Int64) (c_t_secondOfOther : Int64) (p0 : Int64) : Option (Int64 × Int64 × Int64 × Int64 × Int64 × Int64) :=
 obn (F_X0_multiplied p0 c_t_second) (fun r9 =>
 bnd (c_t_first ^^^ r9) (fun x3_13 =>
 obn (F_X0_multiplied p0 c_t_secondOfOne) (fun r23 =>
 bnd (c_t_ofOne ^^^ r23) (fun x5_27 =>
 obn (F_X0_multiplied p0 c_t_secondOfOther) (fun r38 =>
 bnd (c_t_ofOther ^^^ r38) (fun x7_42 =>
 some (c_t_second, c_t_secondOfOne, c_t_secondOfOther, x3_13, x5_27, x7_42)))))))
set_option maxHeartbeats 4000000 in
set_option maxRecDepth 100000 in
theorem c_X4_goOn (l : Launch) (D : va_G) (cyJ : ClassId) (sz : Nat) (a_t : Nat) (c_t_first : Int64) (c_t_ofOne : Int64) (c_t_ofOther : Int64) (c_t_second : Int64) (c_t_secondOfOne : Int64) (c_t_secondOfOther : Int64) (p0 : Int64) (o_c_t_first : Int64) (o_c_t_ofOne : Int64) (o_c_t_ofOther : Int64) (o_c_t_second : Int64) (o_c_t_secondOfOne : Int64) (o_c_t_secondOfOther : Int64) (hF : F_X4_goOn c_t_first c_t_ofOne c_t_ofOther c_t_second c_t_secondOfOne c_t_secondOfOther p0 = some (o_c_t_first, o_c_t_ofOne, o_c_t_ofOther, o_c_t_second, o_c_t_secondOfOne, o_c_t_secondOfOther)) : Met l yX4_goOn wsX4_goOn rmX4_goOn (va_Pc [.ref a_t, .long p0] (wPD D [(cyJ, .long)] [(a_t, .inr (4, [.long c_t_first, .long c_t_ofOne, .long c_t_ofOther, .long c_t_second, .long c_t_secondOfOne, .long c_t_secondOfOther]))] sz)) (va_Qv (fun (_ : Unit) => True) (fun _ t => wQA D [(a_t, .inr (4, [.long o_c_t_first, .long o_c_t_ofOne, .long o_c_t_ofOther, .long o_c_t_second, .long o_c_t_secondOfOne, .long o_c_t_secondOfOther]))] (va_A [(a_t, .inr (4, [.long c_t_first, .long c_t_ofOne, .long c_t_ofOther, .long c_t_second, .long c_t_secondOfOne, .long c_t_secondOfOther]))] sz) t) (va_A [(a_t, .inr (4, [.long c_t_first, .long c_t_ofOne, .long c_t_ofOther, .long c_t_second, .long c_t_secondOfOne, .long c_t_secondOfOther]))] sz)) 0 0 (va_A [(a_t, .inr (4, [.long c_t_first, .long c_t_ofOne, .long c_t_ofOther, .long c_t_second, .long c_t_secondOfOne, .long c_t_secondOfOther]))] sz) := by
  refine Met.ofW (cc := cX4_goOn) (maxL := 9) (ret := none) (by decide) rfl ?_
  intro p e s m args below meth c s₁ B hml hv
  obtain ⟨rfl, hsz, hP, hK, hD0, hnw⟩ := hv
  have hx := B.exec
  have hb := B.bytes
  have hr := B.returns
  have hts := atoms_spec (ws := wsX4_goOn) B.pre
  have hown : s.vm.findClass RX4 = some m.cls := findClass_of_methodNamed B.named
  have hlocks := B.notSynchronized
  have hcf : CallFix _ _ _ _ _ _ _ _ _ := ⟨hx, hb, hml, hown, hts⟩
  have hinX4 : ∀ w ∈ u_ws RX4 TX4 6, w ∈ wsX4_goOn := by decide +kernel
  have hfl9 := hts (.fieldLink RX4 9 "Formwheel$Rows" "first" "J") (by decide +kernel)
  have hfl21 := hts (.fieldLink RX4 21 "Formwheel$Rows" "second" "J") (by decide +kernel)
  have hfl15 := hts (.fieldLink RX4 15 "Formwheel$Rows" "ofOne" "J") (by decide +kernel)
  have hfl24 := hts (.fieldLink RX4 24 "Formwheel$Rows" "secondOfOne" "J") (by decide +kernel)
  have hfl18 := hts (.fieldLink RX4 18 "Formwheel$Rows" "ofOther" "J") (by decide +kernel)
  have hfl27 := hts (.fieldLink RX4 27 "Formwheel$Rows" "secondOfOther" "J") (by decide +kernel)
  subst hsz
  have hD := hD0.self (sz := s.heap.size)
  generalize hAe : va_A [(a_t, .inr (4, [.long c_t_first, .long c_t_ofOne, .long c_t_ofOther, .long c_t_second, .long c_t_secondOfOne, .long c_t_secondOfOther]))] s.heap.size = A at hD ⊢
  have hA : ∀ q : Nat, s.heap.size ≤ q → A q := fun q h => by rw [← hAe]; exact Or.inr h
  have hS : va_S A s.heap s.heap [] := va_S.rf
  have hP : va_P D vwCl [(a_t, .inr (4, [.long c_t_first, .long c_t_ofOne, .long c_t_ofOther, .long c_t_second, .long c_t_secondOfOne, .long c_t_secondOfOther]))] s.heap := hP
  have hK0 := hK
  have hl := lv_entry ([.ref a_t, .long p0]) (n := 9) (Nat.le_of_ble_eq_true rfl)
  rw [lg_entry_eq]
  generalize (lg_sl ([.ref a_t, .long p0]) ++ List.replicate (9 - (lg_sl ([.ref a_t, .long p0])).length) Slot.unset).toArray = ls at hl ⊢
  have hl : lv_has ls 9 [(0, .ref a_t), (1, .long p0)] := hl
  have h := hF
  clear hF
  unfold F_X4_goOn at h
  refine lv_aload_n hx hb dX4_goOn_0 rfl (lv_at hl 0 rfl) ?_
  refine va_get (D := D) (ci := 4) (v := .long c_t_first) (C := RX4) (T := TX4) (N := 6) hx hb hts hinX4 hown hK hP 0 rfl rfl 0 (by decide) hfl9 (fun _ h9 => h9) rfl dX4_goOn_1 ?_
  refine lv_lload_n hx hb dX4_goOn_4 rfl (lv_at hl 1 rfl) ?_
  refine lv_aload_n hx hb dX4_goOn_5 rfl (lv_at hl 0 rfl) ?_
  refine va_get (D := D) (ci := 4) (v := .long c_t_second) (C := RX4) (T := TX4) (N := 6) hx hb hts hinX4 hown hK hP 0 rfl rfl 3 (by decide) hfl21 (fun _ h9 => h9) rfl dX4_goOn_6 ?_
  obtain ⟨r9, hc9, h⟩ := obn_h h
  refine pz_callS (As := [.long p0, .long c_t_second]) (rest := [.long c_t_first]) hcf (c_X0_multiplied l p0 c_t_second r9 hc9) (va_cwS 2 hts gX4_goOn_X0_multiplied rfl rfl rfl ydX0_multiplied ⟨Nat.le_of_ble_eq_true rfl, Nat.le_of_ble_eq_true rfl⟩) hnw rfl hl.1 rfl (Nat.le_of_ble_eq_true rfl) dX4_goOn_9 ⟨Nat.le_of_ble_eq_true rfl, Nat.le_of_ble_eq_true rfl⟩ ?_
  refine lv_lxor hx hb dX4_goOn_12 ?_
  refine lv_topl (fun x3_13 e_x3_13 => ?_)
  have h := bnd_h e_x3_13 h
  refine lv_lstore_n (lv' := [(3, .long x3_13), (0, .ref a_t), (1, .long p0)]) hx hb dX4_goOn_13 rfl hl (by decide) rfl (fun ls hl => ?_)
  refine lv_aload_n hx hb dX4_goOn_14 rfl (lv_at hl 1 rfl) ?_
  refine va_get (D := D) (ci := 4) (v := .long c_t_ofOne) (C := RX4) (T := TX4) (N := 6) hx hb hts hinX4 hown hK hP 0 rfl rfl 1 (by decide) hfl15 (fun _ h9 => h9) rfl dX4_goOn_15 ?_
  refine lv_lload_n hx hb dX4_goOn_18 rfl (lv_at hl 2 rfl) ?_
  refine lv_aload_n hx hb dX4_goOn_19 rfl (lv_at hl 1 rfl) ?_
  refine va_get (D := D) (ci := 4) (v := .long c_t_secondOfOne) (C := RX4) (T := TX4) (N := 6) hx hb hts hinX4 hown hK hP 0 rfl rfl 4 (by decide) hfl24 (fun _ h9 => h9) rfl dX4_goOn_20 ?_
  obtain ⟨r23, hc23, h⟩ := obn_h h
  refine pz_callS (As := [.long p0, .long c_t_secondOfOne]) (rest := [.long c_t_ofOne]) hcf (c_X0_multiplied l p0 c_t_secondOfOne r23 hc23) (va_cwS 2 hts gX4_goOn_X0_multiplied rfl rfl rfl ydX0_multiplied ⟨Nat.le_of_ble_eq_true rfl, Nat.le_of_ble_eq_true rfl⟩) hnw rfl hl.1 rfl (Nat.le_of_ble_eq_true rfl) dX4_goOn_23 ⟨Nat.le_of_ble_eq_true rfl, Nat.le_of_ble_eq_true rfl⟩ ?_
  refine lv_lxor hx hb dX4_goOn_26 ?_
  refine lv_topl (fun x5_27 e_x5_27 => ?_)
  have h := bnd_h e_x5_27 h
  refine lv_lstore (lv' := [(5, .long x5_27), (3, .long x3_13), (0, .ref a_t), (1, .long p0)]) hx hb dX4_goOn_27 hl (by decide) rfl (fun ls hl => ?_)
  refine lv_aload_n hx hb dX4_goOn_29 rfl (lv_at hl 2 rfl) ?_
  refine va_get (D := D) (ci := 4) (v := .long c_t_ofOther) (C := RX4) (T := TX4) (N := 6) hx hb hts hinX4 hown hK hP 0 rfl rfl 2 (by decide) hfl18 (fun _ h9 => h9) rfl dX4_goOn_30 ?_
  refine lv_lload_n hx hb dX4_goOn_33 rfl (lv_at hl 3 rfl) ?_
  refine lv_aload_n hx hb dX4_goOn_34 rfl (lv_at hl 2 rfl) ?_
  refine va_get (D := D) (ci := 4) (v := .long c_t_secondOfOther) (C := RX4) (T := TX4) (N := 6) hx hb hts hinX4 hown hK hP 0 rfl rfl 5 (by decide) hfl27 (fun _ h9 => h9) rfl dX4_goOn_35 ?_
  obtain ⟨r38, hc38, h⟩ := obn_h h
  refine pz_callS (As := [.long p0, .long c_t_secondOfOther]) (rest := [.long c_t_ofOther]) hcf (c_X0_multiplied l p0 c_t_secondOfOther r38 hc38) (va_cwS 2 hts gX4_goOn_X0_multiplied rfl rfl rfl ydX0_multiplied ⟨Nat.le_of_ble_eq_true rfl, Nat.le_of_ble_eq_true rfl⟩) hnw rfl hl.1 rfl (Nat.le_of_ble_eq_true rfl) dX4_goOn_38 ⟨Nat.le_of_ble_eq_true rfl, Nat.le_of_ble_eq_true rfl⟩ ?_
  refine lv_lxor hx hb dX4_goOn_41 ?_
  refine lv_topl (fun x7_42 e_x7_42 => ?_)
  have h := bnd_h e_x7_42 h
  refine lv_lstore (lv' := [(7, .long x7_42), (5, .long x5_27), (3, .long x3_13), (0, .ref a_t), (1, .long p0)]) hx hb dX4_goOn_42 hl (by decide) rfl (fun ls hl => ?_)
  refine lv_aload_n hx hb dX4_goOn_44 rfl (lv_at hl 3 rfl) ?_
  refine lv_aload_n hx hb dX4_goOn_45 rfl (lv_at hl 3 rfl) ?_
  refine va_get (D := D) (ci := 4) (v := .long c_t_second) (C := RX4) (T := TX4) (N := 6) hx hb hts hinX4 hown hK hP 0 rfl rfl 3 (by decide) hfl21 (fun _ h9 => h9) rfl dX4_goOn_46 ?_
  refine va_put (D := D) (ci := 4) (v := .long c_t_second) (ty := .long) (C := RX4) (T := TX4) (N := 6) hx hb hts hinX4 tyX4 tyX4_ok nmX4 hown hK hP hD hS 0 rfl rfl 0 (by decide) hfl9 (fun _ h9 => h9) rfl (by decide +kernel) rfl rfl (Nat.le_of_ble_eq_true rfl) dX4_goOn_49 (fun H locs hP hD hS => ?_)
  have hP : va_P D vwCl [(a_t, .inr (4, [.long c_t_second, .long c_t_ofOne, .long c_t_ofOther, .long c_t_second, .long c_t_secondOfOne, .long c_t_secondOfOther]))] H := hP
  have hD : va_D A [(a_t, .inr (4, [.long c_t_second, .long c_t_ofOne, .long c_t_ofOther, .long c_t_second, .long c_t_secondOfOne, .long c_t_secondOfOther]))] := hD
  refine lv_aload_n hx hb dX4_goOn_52 rfl (lv_at hl 3 rfl) ?_
  refine lv_aload_n hx hb dX4_goOn_53 rfl (lv_at hl 3 rfl) ?_
  refine va_get (D := D) (ci := 4) (v := .long c_t_secondOfOne) (C := RX4) (T := TX4) (N := 6) hx hb hts hinX4 hown hK hP 0 rfl rfl 4 (by decide) hfl24 (fun _ h9 => h9) rfl dX4_goOn_54 ?_
  refine va_put (D := D) (ci := 4) (v := .long c_t_secondOfOne) (ty := .long) (C := RX4) (T := TX4) (N := 6) hx hb hts hinX4 tyX4 tyX4_ok nmX4 hown hK hP hD hS 0 rfl rfl 1 (by decide) hfl15 (fun _ h9 => h9) rfl (by decide +kernel) rfl rfl (Nat.le_of_ble_eq_true rfl) dX4_goOn_57 (fun H locs hP hD hS => ?_)
  have hP : va_P D vwCl [(a_t, .inr (4, [.long c_t_second, .long c_t_secondOfOne, .long c_t_ofOther, .long c_t_second, .long c_t_secondOfOne, .long c_t_secondOfOther]))] H := hP
  have hD : va_D A [(a_t, .inr (4, [.long c_t_second, .long c_t_secondOfOne, .long c_t_ofOther, .long c_t_second, .long c_t_secondOfOne, .long c_t_secondOfOther]))] := hD
  refine lv_aload_n hx hb dX4_goOn_60 rfl (lv_at hl 3 rfl) ?_
  refine lv_aload_n hx hb dX4_goOn_61 rfl (lv_at hl 3 rfl) ?_
  refine va_get (D := D) (ci := 4) (v := .long c_t_secondOfOther) (C := RX4) (T := TX4) (N := 6) hx hb hts hinX4 hown hK hP 0 rfl rfl 5 (by decide) hfl27 (fun _ h9 => h9) rfl dX4_goOn_62 ?_
  refine va_put (D := D) (ci := 4) (v := .long c_t_secondOfOther) (ty := .long) (C := RX4) (T := TX4) (N := 6) hx hb hts hinX4 tyX4 tyX4_ok nmX4 hown hK hP hD hS 0 rfl rfl 2 (by decide) hfl18 (fun _ h9 => h9) rfl (by decide +kernel) rfl rfl (Nat.le_of_ble_eq_true rfl) dX4_goOn_65 (fun H locs hP hD hS => ?_)
  have hP : va_P D vwCl [(a_t, .inr (4, [.long c_t_second, .long c_t_secondOfOne, .long c_t_secondOfOther, .long c_t_second, .long c_t_secondOfOne, .long c_t_secondOfOther]))] H := hP
  have hD : va_D A [(a_t, .inr (4, [.long c_t_second, .long c_t_secondOfOne, .long c_t_secondOfOther, .long c_t_second, .long c_t_secondOfOne, .long c_t_secondOfOther]))] := hD
  refine lv_aload_n hx hb dX4_goOn_68 rfl (lv_at hl 3 rfl) ?_
  refine lv_lload_n hx hb dX4_goOn_69 rfl (lv_at hl 2 rfl) ?_
  refine va_put (D := D) (ci := 4) (v := .long x3_13) (ty := .long) (C := RX4) (T := TX4) (N := 6) hx hb hts hinX4 tyX4 tyX4_ok nmX4 hown hK hP hD hS 0 rfl rfl 3 (by decide) hfl21 (fun _ h9 => h9) rfl (by decide +kernel) rfl rfl (Nat.le_of_ble_eq_true rfl) dX4_goOn_70 (fun H locs hP hD hS => ?_)
  have hP : va_P D vwCl [(a_t, .inr (4, [.long c_t_second, .long c_t_secondOfOne, .long c_t_secondOfOther, .long x3_13, .long c_t_secondOfOne, .long c_t_secondOfOther]))] H := hP
  have hD : va_D A [(a_t, .inr (4, [.long c_t_second, .long c_t_secondOfOne, .long c_t_secondOfOther, .long x3_13, .long c_t_secondOfOne, .long c_t_secondOfOther]))] := hD
  refine lv_aload_n hx hb dX4_goOn_73 rfl (lv_at hl 3 rfl) ?_
  refine lv_lload hx hb dX4_goOn_74 (lv_at hl 1 rfl) ?_
  refine va_put (D := D) (ci := 4) (v := .long x5_27) (ty := .long) (C := RX4) (T := TX4) (N := 6) hx hb hts hinX4 tyX4 tyX4_ok nmX4 hown hK hP hD hS 0 rfl rfl 4 (by decide) hfl24 (fun _ h9 => h9) rfl (by decide +kernel) rfl rfl (Nat.le_of_ble_eq_true rfl) dX4_goOn_76 (fun H locs hP hD hS => ?_)
  have hP : va_P D vwCl [(a_t, .inr (4, [.long c_t_second, .long c_t_secondOfOne, .long c_t_secondOfOther, .long x3_13, .long x5_27, .long c_t_secondOfOther]))] H := hP
  have hD : va_D A [(a_t, .inr (4, [.long c_t_second, .long c_t_secondOfOne, .long c_t_secondOfOther, .long x3_13, .long x5_27, .long c_t_secondOfOther]))] := hD
  refine lv_aload_n hx hb dX4_goOn_79 rfl (lv_at hl 3 rfl) ?_
  refine lv_lload hx hb dX4_goOn_80 (lv_at hl 0 rfl) ?_
  refine va_put (D := D) (ci := 4) (v := .long x7_42) (ty := .long) (C := RX4) (T := TX4) (N := 6) hx hb hts hinX4 tyX4 tyX4_ok nmX4 hown hK hP hD hS 0 rfl rfl 5 (by decide) hfl27 (fun _ h9 => h9) rfl (by decide +kernel) rfl rfl (Nat.le_of_ble_eq_true rfl) dX4_goOn_82 (fun H locs hP hD hS => ?_)
  have hP : va_P D vwCl [(a_t, .inr (4, [.long c_t_second, .long c_t_secondOfOne, .long c_t_secondOfOther, .long x3_13, .long x5_27, .long x7_42]))] H := hP
  have hD : va_D A [(a_t, .inr (4, [.long c_t_second, .long c_t_secondOfOne, .long c_t_secondOfOther, .long x3_13, .long x5_27, .long x7_42]))] := hD
  obtain ⟨e0, e1, e2, e3, e4, e5⟩ := tup6 h
  subst e0
  subst e1
  subst e2
  subst e3
  subst e4
  subst e5
  have hP9 : va_P D vwCl [(a_t, .inr (4, [.long c_t_second, .long c_t_secondOfOne, .long c_t_secondOfOther, .long x3_13, .long x5_27, .long x7_42]))] H := hP.sub [0] rfl
  have hD9 : va_D A [(a_t, .inr (4, [.long c_t_second, .long c_t_secondOfOne, .long c_t_secondOfOther, .long x3_13, .long x5_27, .long x7_42]))] := hD.sub [0] (by decide) rfl
  exact W.vret hx hb hr (fun t ht hW => ⟨⟨(), rfl, trivial, wQA_of ht hP9 hD9⟩, hS.F ht⟩) hS.2.2 dX4_goOn_85

noncomputable abbrev rmX4_workOut : Room := { frames := 4, cells := 0, slots := 0, locals := 98 }
theorem ydX4_workOut : yX4_workOut.cls = RX4 ∧ yX4_workOut.cls ≠ "java/lang/invoke/MethodHandle" ∧ yX4_workOut.cls ≠ "java/lang/invoke/VarHandle" ∧ (parseMethodDescriptor yX4_workOut.desc).map (fun d => d.parameters.length) = some 2 := by decide +kernel
noncomputable def S_X4_workOut_33 (k71 : Int64 → Int64 → Int64 → Int64 → Int64 → Int64 → Option (Int64 × Int64 × Int64 × Int64 × Int64 × Int64)) (ih33 : Int32 → Int64 → Int64 → Int64 → Int64 → Int64 → Int64 → Option (Int64 × Int64 × Int64 × Int64 × Int64 × Int64)) (y5_33 : Int32) (c_t_first_33 : Int64) (c_t_ofOne_33 : Int64) (c_t_ofOther_33 : Int64) (c_t_second_33 : Int64) (c_t_secondOfOne_33 : Int64) (c_t_secondOfOther_33 : Int64) : Option (Int64 × Int64 × Int64 × Int64 × Int64 × Int64) :=
 (if (1000 : Int32) ≤ y5_33 then
 k71 c_t_first_33 c_t_ofOne_33 c_t_ofOther_33 c_t_second_33 c_t_secondOfOne_33 c_t_secondOfOther_33
else
 (if c_t_second_33 = (0 : Int64) then
 k71 c_t_first_33 c_t_ofOne_33 c_t_ofOther_33 c_t_second_33 c_t_secondOfOne_33 c_t_secondOfOther_33
else
 obn (F_X0_quotient c_t_first_33 c_t_second_33) (fun r59 =>
 obn6 (F_X4_goOn c_t_first_33 c_t_ofOne_33 c_t_ofOther_33 c_t_second_33 c_t_secondOfOne_33 c_t_secondOfOther_33 r59) (fun c_t_first_62 c_t_ofOne_62 c_t_ofOther_62 c_t_second_62 c_t_secondOfOne_62 c_t_secondOfOther_62 =>
 bnd (y5_33 + 1) (fun x5_65 =>
 ih33 x5_65 c_t_first_62 c_t_ofOne_62 c_t_ofOther_62 c_t_second_62 c_t_secondOfOne_62 c_t_secondOfOther_62)))))
noncomputable def F_X4_workOut (p0 : Int64) (p1 : Int64) : Option (Int64 × Int64 × Int64 × Int64 × Int64 × Int64) :=
 LQ7 (S_X4_workOut_33 (fun c_t_first_33_71 c_t_ofOne_33_71 c_t_ofOther_33_71 c_t_second_33_71 c_t_secondOfOne_33_71 c_t_secondOfOther_33_71 =>
 some (c_t_first_33_71, c_t_ofOne_33_71, c_t_ofOther_33_71, c_t_second_33_71, c_t_secondOfOne_33_71, c_t_secondOfOther_33_71))) 20000 (0 : Int32) p0 (1 : Int64) (0 : Int64) p1 (0 : Int64) (1 : Int64)
set_option maxHeartbeats 4000000 in
set_option maxRecDepth 100000 in
theorem c_X4_workOut (l : Launch) (D : va_G) (cyJ : ClassId) (sz : Nat) (a_t : Nat) (c_t_first : Int64) (c_t_ofOne : Int64) (c_t_ofOther : Int64) (c_t_second : Int64) (c_t_secondOfOne : Int64) (c_t_secondOfOther : Int64) (p0 : Int64) (p1 : Int64) (o_c_t_first : Int64) (o_c_t_ofOne : Int64) (o_c_t_ofOther : Int64) (o_c_t_second : Int64) (o_c_t_secondOfOne : Int64) (o_c_t_secondOfOther : Int64) (hF : F_X4_workOut p0 p1 = some (o_c_t_first, o_c_t_ofOne, o_c_t_ofOther, o_c_t_second, o_c_t_secondOfOne, o_c_t_secondOfOther)) : Met l yX4_workOut wsX4_workOut rmX4_workOut (va_Pc [.ref a_t, .long p0, .long p1] (wPD D [(cyJ, .long)] [(a_t, .inr (4, [.long c_t_first, .long c_t_ofOne, .long c_t_ofOther, .long c_t_second, .long c_t_secondOfOne, .long c_t_secondOfOther]))] sz)) (va_Qv (fun (_ : Unit) => True) (fun _ t => wQA D [(a_t, .inr (4, [.long o_c_t_first, .long o_c_t_ofOne, .long o_c_t_ofOther, .long o_c_t_second, .long o_c_t_secondOfOne, .long o_c_t_secondOfOther]))] (va_A [(a_t, .inr (4, [.long c_t_first, .long c_t_ofOne, .long c_t_ofOther, .long c_t_second, .long c_t_secondOfOne, .long c_t_secondOfOther]))] sz) t) (va_A [(a_t, .inr (4, [.long c_t_first, .long c_t_ofOne, .long c_t_ofOther, .long c_t_second, .long c_t_secondOfOne, .long c_t_secondOfOther]))] sz)) 0 0 (va_A [(a_t, .inr (4, [.long c_t_first, .long c_t_ofOne, .long c_t_ofOther, .long c_t_second, .long c_t_secondOfOne, .long c_t_secondOfOther]))] sz) := by
  refine Met.ofW (cc := cX4_workOut) (maxL := 6) (ret := none) (by decide) rfl ?_
  intro p e s m args below meth c s₁ B hml hv
  obtain ⟨rfl, hsz, hP, hK, hD0, hnw⟩ := hv
  have hx := B.exec
  have hb := B.bytes
  have hr := B.returns
  have hts := atoms_spec (ws := wsX4_workOut) B.pre
  have hown : s.vm.findClass RX4 = some m.cls := findClass_of_methodNamed B.named
  have hlocks := B.notSynchronized
  have hcf : CallFix _ _ _ _ _ _ _ _ _ := ⟨hx, hb, hml, hown, hts⟩
  have hinX4 : ∀ w ∈ u_ws RX4 TX4 6, w ∈ wsX4_workOut := by decide +kernel
  have hfl9 := hts (.fieldLink RX4 9 "Formwheel$Rows" "first" "J") (by decide +kernel)
  have hfl15 := hts (.fieldLink RX4 15 "Formwheel$Rows" "ofOne" "J") (by decide +kernel)
  have hfl18 := hts (.fieldLink RX4 18 "Formwheel$Rows" "ofOther" "J") (by decide +kernel)
  have hfl21 := hts (.fieldLink RX4 21 "Formwheel$Rows" "second" "J") (by decide +kernel)
  have hfl24 := hts (.fieldLink RX4 24 "Formwheel$Rows" "secondOfOne" "J") (by decide +kernel)
  have hfl27 := hts (.fieldLink RX4 27 "Formwheel$Rows" "secondOfOther" "J") (by decide +kernel)
  subst hsz
  have hD := hD0.self (sz := s.heap.size)
  generalize hAe : va_A [(a_t, .inr (4, [.long c_t_first, .long c_t_ofOne, .long c_t_ofOther, .long c_t_second, .long c_t_secondOfOne, .long c_t_secondOfOther]))] s.heap.size = A at hD ⊢
  have hA : ∀ q : Nat, s.heap.size ≤ q → A q := fun q h => by rw [← hAe]; exact Or.inr h
  have hS : va_S A s.heap s.heap [] := va_S.rf
  have hP : va_P D vwCl [(a_t, .inr (4, [.long c_t_first, .long c_t_ofOne, .long c_t_ofOther, .long c_t_second, .long c_t_secondOfOne, .long c_t_secondOfOther]))] s.heap := hP
  have hK0 := hK
  have hl := lv_entry ([.ref a_t, .long p0, .long p1]) (n := 6) (Nat.le_of_ble_eq_true rfl)
  rw [lg_entry_eq]
  generalize (lg_sl ([.ref a_t, .long p0, .long p1]) ++ List.replicate (6 - (lg_sl ([.ref a_t, .long p0, .long p1])).length) Slot.unset).toArray = ls at hl ⊢
  have hl : lv_has ls 6 [(0, .ref a_t), (1, .long p0), (3, .long p1)] := hl
  have h := hF
  clear hF
  unfold F_X4_workOut at h
  refine lv_aload_n hx hb dX4_workOut_0 rfl (lv_at hl 0 rfl) ?_
  refine lv_lload_n hx hb dX4_workOut_1 rfl (lv_at hl 1 rfl) ?_
  refine va_put (D := D) (ci := 4) (v := .long p0) (ty := .long) (C := RX4) (T := TX4) (N := 6) hx hb hts hinX4 tyX4 tyX4_ok nmX4 hown hK hP hD hS 0 rfl rfl 0 (by decide) hfl9 (fun _ h9 => h9) rfl (by decide +kernel) rfl rfl (Nat.le_of_ble_eq_true rfl) dX4_workOut_2 (fun H locs hP hD hS => ?_)
  have hP : va_P D vwCl [(a_t, .inr (4, [.long p0, .long c_t_ofOne, .long c_t_ofOther, .long c_t_second, .long c_t_secondOfOne, .long c_t_secondOfOther]))] H := hP
  have hD : va_D A [(a_t, .inr (4, [.long p0, .long c_t_ofOne, .long c_t_ofOther, .long c_t_second, .long c_t_secondOfOne, .long c_t_secondOfOther]))] := hD
  refine lv_aload_n hx hb dX4_workOut_5 rfl (lv_at hl 0 rfl) ?_
  refine lv_lconst (v := 1) hx hb dX4_workOut_6 (by decide) ?_
  refine va_put (D := D) (ci := 4) (v := .long (1 : Int64)) (ty := .long) (C := RX4) (T := TX4) (N := 6) hx hb hts hinX4 tyX4 tyX4_ok nmX4 hown hK hP hD hS 0 rfl rfl 1 (by decide) hfl15 (fun _ h9 => h9) rfl (by decide +kernel) rfl rfl (Nat.le_of_ble_eq_true rfl) dX4_workOut_7 (fun H locs hP hD hS => ?_)
  have hP : va_P D vwCl [(a_t, .inr (4, [.long p0, .long (1 : Int64), .long c_t_ofOther, .long c_t_second, .long c_t_secondOfOne, .long c_t_secondOfOther]))] H := hP
  have hD : va_D A [(a_t, .inr (4, [.long p0, .long (1 : Int64), .long c_t_ofOther, .long c_t_second, .long c_t_secondOfOne, .long c_t_secondOfOther]))] := hD
  refine lv_aload_n hx hb dX4_workOut_10 rfl (lv_at hl 0 rfl) ?_
  refine lv_lconst (v := 0) hx hb dX4_workOut_11 (by decide) ?_
  refine va_put (D := D) (ci := 4) (v := .long (0 : Int64)) (ty := .long) (C := RX4) (T := TX4) (N := 6) hx hb hts hinX4 tyX4 tyX4_ok nmX4 hown hK hP hD hS 0 rfl rfl 2 (by decide) hfl18 (fun _ h9 => h9) rfl (by decide +kernel) rfl rfl (Nat.le_of_ble_eq_true rfl) dX4_workOut_12 (fun H locs hP hD hS => ?_)
  have hP : va_P D vwCl [(a_t, .inr (4, [.long p0, .long (1 : Int64), .long (0 : Int64), .long c_t_second, .long c_t_secondOfOne, .long c_t_secondOfOther]))] H := hP
  have hD : va_D A [(a_t, .inr (4, [.long p0, .long (1 : Int64), .long (0 : Int64), .long c_t_second, .long c_t_secondOfOne, .long c_t_secondOfOther]))] := hD
  refine lv_aload_n hx hb dX4_workOut_15 rfl (lv_at hl 0 rfl) ?_
  refine lv_lload_n hx hb dX4_workOut_16 rfl (lv_at hl 2 rfl) ?_
  refine va_put (D := D) (ci := 4) (v := .long p1) (ty := .long) (C := RX4) (T := TX4) (N := 6) hx hb hts hinX4 tyX4 tyX4_ok nmX4 hown hK hP hD hS 0 rfl rfl 3 (by decide) hfl21 (fun _ h9 => h9) rfl (by decide +kernel) rfl rfl (Nat.le_of_ble_eq_true rfl) dX4_workOut_17 (fun H locs hP hD hS => ?_)
  have hP : va_P D vwCl [(a_t, .inr (4, [.long p0, .long (1 : Int64), .long (0 : Int64), .long p1, .long c_t_secondOfOne, .long c_t_secondOfOther]))] H := hP
  have hD : va_D A [(a_t, .inr (4, [.long p0, .long (1 : Int64), .long (0 : Int64), .long p1, .long c_t_secondOfOne, .long c_t_secondOfOther]))] := hD
  refine lv_aload_n hx hb dX4_workOut_20 rfl (lv_at hl 0 rfl) ?_
  refine lv_lconst (v := 0) hx hb dX4_workOut_21 (by decide) ?_
  refine va_put (D := D) (ci := 4) (v := .long (0 : Int64)) (ty := .long) (C := RX4) (T := TX4) (N := 6) hx hb hts hinX4 tyX4 tyX4_ok nmX4 hown hK hP hD hS 0 rfl rfl 4 (by decide) hfl24 (fun _ h9 => h9) rfl (by decide +kernel) rfl rfl (Nat.le_of_ble_eq_true rfl) dX4_workOut_22 (fun H locs hP hD hS => ?_)
  have hP : va_P D vwCl [(a_t, .inr (4, [.long p0, .long (1 : Int64), .long (0 : Int64), .long p1, .long (0 : Int64), .long c_t_secondOfOther]))] H := hP
  have hD : va_D A [(a_t, .inr (4, [.long p0, .long (1 : Int64), .long (0 : Int64), .long p1, .long (0 : Int64), .long c_t_secondOfOther]))] := hD
  refine lv_aload_n hx hb dX4_workOut_25 rfl (lv_at hl 0 rfl) ?_
  refine lv_lconst (v := 1) hx hb dX4_workOut_26 (by decide) ?_
  refine va_put (D := D) (ci := 4) (v := .long (1 : Int64)) (ty := .long) (C := RX4) (T := TX4) (N := 6) hx hb hts hinX4 tyX4 tyX4_ok nmX4 hown hK hP hD hS 0 rfl rfl 5 (by decide) hfl27 (fun _ h9 => h9) rfl (by decide +kernel) rfl rfl (Nat.le_of_ble_eq_true rfl) dX4_workOut_27 (fun H locs hP hD hS => ?_)
  have hP : va_P D vwCl [(a_t, .inr (4, [.long p0, .long (1 : Int64), .long (0 : Int64), .long p1, .long (0 : Int64), .long (1 : Int64)]))] H := hP
  have hD : va_D A [(a_t, .inr (4, [.long p0, .long (1 : Int64), .long (0 : Int64), .long p1, .long (0 : Int64), .long (1 : Int64)]))] := hD
  refine lv_iconst (v := 0) hx hb dX4_workOut_30 (by decide) ?_
  refine lv_istore (lv' := [(5, .int (0 : Int32)), (0, .ref a_t), (1, .long p0), (3, .long p1)]) hx hb dX4_workOut_31 hl (by decide) rfl (fun ls hl => ?_)
  refine LQ7_k1 (M := fun (y5_33 : Int32) (c_t_first_33 : Int64) (c_t_ofOne_33 : Int64) (c_t_ofOther_33 : Int64) (c_t_second_33 : Int64) (c_t_secondOfOne_33 : Int64) (c_t_secondOfOther_33 : Int64) => ∀ (H : Heap) (locs : List Loc), va_P D vwCl [(a_t, .inr (4, [.long c_t_first_33, .long c_t_ofOne_33, .long c_t_ofOther_33, .long c_t_second_33, .long c_t_secondOfOne_33, .long c_t_secondOfOther_33]))] H → va_D A [(a_t, .inr (4, [.long c_t_first_33, .long c_t_ofOne_33, .long c_t_ofOther_33, .long c_t_second_33, .long c_t_secondOfOne_33, .long c_t_secondOfOther_33]))] → va_S A s.heap H locs → ∀ (ls : Array Slot), lv_has ls 6 [(0, .ref a_t), (5, .int y5_33)] → W p l e rmX4_workOut s m ([.ref a_t, .long p0, .long p1] : List Value).toArray below meth c H locs 0 0 (MQ below (va_Qv (fun (_ : Unit) => True) (fun _ t => wQA D [(a_t, .inr (4, [.long o_c_t_first, .long o_c_t_ofOne, .long o_c_t_ofOther, .long o_c_t_second, .long o_c_t_secondOfOne, .long o_c_t_secondOfOther]))] A t) A) ([.ref a_t, .long p0, .long p1] : List Value).toArray s 0 0 A) (F0 m 33 ls [])) ?_ _ _ _ _ _ _ _ _ h _ _ hP hD hS ls (lv_sub hl [1, 0] rfl)
  intro k71 hk71 ih33 hih33 y5_33 c_t_first_33 c_t_ofOne_33 c_t_ofOther_33 c_t_second_33 c_t_secondOfOne_33 c_t_secondOfOther_33 h H locs hP hD hS ls hl
  unfold S_X4_workOut_33 at h
  refine lv_iload hx hb dX4_workOut_33 (lv_at hl 1 rfl) ?_
  refine lv_sipush (v := 1000) hx hb dX4_workOut_35 (by decide) ?_
  refine lv_icmp_ge (tgt := 71) hx hb dX4_workOut_38 (by decide) (fun c38 => ?_) (fun c38 => ?_)
  · have h := it_ c38 h
    rw [hk71] at h
    obtain ⟨e0, e1, e2, e3, e4, e5⟩ := tup6 h
    subst e0
    subst e1
    subst e2
    subst e3
    subst e4
    subst e5
    have hP9 : va_P D vwCl [(a_t, .inr (4, [.long c_t_first_33, .long c_t_ofOne_33, .long c_t_ofOther_33, .long c_t_second_33, .long c_t_secondOfOne_33, .long c_t_secondOfOther_33]))] H := hP.sub [0] rfl
    have hD9 : va_D A [(a_t, .inr (4, [.long c_t_first_33, .long c_t_ofOne_33, .long c_t_ofOther_33, .long c_t_second_33, .long c_t_secondOfOne_33, .long c_t_secondOfOther_33]))] := hD.sub [0] (by decide) rfl
    exact W.vret hx hb hr (fun t ht hW => ⟨⟨(), rfl, trivial, wQA_of ht hP9 hD9⟩, hS.F ht⟩) hS.2.2 dX4_workOut_71
  · have h := if_ c38 h
    refine lv_aload_n hx hb dX4_workOut_41 rfl (lv_at hl 0 rfl) ?_
    refine va_get (D := D) (ci := 4) (v := .long c_t_second_33) (C := RX4) (T := TX4) (N := 6) hx hb hts hinX4 hown hK hP 0 rfl rfl 3 (by decide) hfl21 (fun _ h9 => h9) rfl dX4_workOut_42 ?_
    refine lv_lconst (v := 0) hx hb dX4_workOut_45 (by decide) ?_
    refine W.lcmp hx hb dX4_workOut_46 ?_
    refine lv_if_eq (tgt := 71) hx hb dX4_workOut_47 (by decide) (fun c47 => ?_) (fun c47 => ?_)
    · have c47 := (lg_cmp_eq _ _).mp c47
      have h := it_ c47 h
      rw [hk71] at h
      obtain ⟨e0, e1, e2, e3, e4, e5⟩ := tup6 h
      subst e0
      subst e1
      subst e2
      subst e3
      subst e4
      subst e5
      have hP9 : va_P D vwCl [(a_t, .inr (4, [.long c_t_first_33, .long c_t_ofOne_33, .long c_t_ofOther_33, .long c_t_second_33, .long c_t_secondOfOne_33, .long c_t_secondOfOther_33]))] H := hP.sub [0] rfl
      have hD9 : va_D A [(a_t, .inr (4, [.long c_t_first_33, .long c_t_ofOne_33, .long c_t_ofOther_33, .long c_t_second_33, .long c_t_secondOfOne_33, .long c_t_secondOfOther_33]))] := hD.sub [0] (by decide) rfl
      exact W.vret hx hb hr (fun t ht hW => ⟨⟨(), rfl, trivial, wQA_of ht hP9 hD9⟩, hS.F ht⟩) hS.2.2 dX4_workOut_71
    · have c47 := fun z => c47 ((lg_cmp_eq _ _).mpr z)
      have h := if_ c47 h
      refine lv_aload_n hx hb dX4_workOut_50 rfl (lv_at hl 0 rfl) ?_
      refine lv_aload_n hx hb dX4_workOut_51 rfl (lv_at hl 0 rfl) ?_
      refine va_get (D := D) (ci := 4) (v := .long c_t_first_33) (C := RX4) (T := TX4) (N := 6) hx hb hts hinX4 hown hK hP 0 rfl rfl 0 (by decide) hfl9 (fun _ h9 => h9) rfl dX4_workOut_52 ?_
      refine lv_aload_n hx hb dX4_workOut_55 rfl (lv_at hl 0 rfl) ?_
      refine va_get (D := D) (ci := 4) (v := .long c_t_second_33) (C := RX4) (T := TX4) (N := 6) hx hb hts hinX4 hown hK hP 0 rfl rfl 3 (by decide) hfl21 (fun _ h9 => h9) rfl dX4_workOut_56 ?_
      obtain ⟨r59, hc59, h⟩ := obn_h h
      refine pz_callS (As := [.long c_t_first_33, .long c_t_second_33]) (rest := [.ref a_t]) hcf (c_X0_quotient l c_t_first_33 c_t_second_33 r59 hc59) (va_cwS 2 hts gX4_workOut_X0_quotient rfl rfl rfl ydX0_quotient ⟨Nat.le_of_ble_eq_true rfl, Nat.le_of_ble_eq_true rfl⟩) hnw rfl hl.1 rfl (Nat.le_of_ble_eq_true rfl) dX4_workOut_59 ⟨Nat.le_of_ble_eq_true rfl, Nat.le_of_ble_eq_true rfl⟩ ?_
      obtain ⟨c_t_first_62, c_t_ofOne_62, c_t_ofOther_62, c_t_second_62, c_t_secondOfOne_62, c_t_secondOfOther_62, hc62, h⟩ := obn6_h h
      have hPc := hP.sub (ws' := [(a_t, .inr (4, [.long c_t_first_33, .long c_t_ofOne_33, .long c_t_ofOther_33, .long c_t_second_33, .long c_t_secondOfOne_33, .long c_t_secondOfOther_33]))]) [0] rfl
      have hDc := hD.sub (ws' := [(a_t, .inr (4, [.long c_t_first_33, .long c_t_ofOne_33, .long c_t_ofOther_33, .long c_t_second_33, .long c_t_secondOfOne_33, .long c_t_secondOfOther_33]))]) [0] (by decide) rfl
      refine hp_v (w1 := [(a_t, .inr (4, [.long c_t_first_62, .long c_t_ofOne_62, .long c_t_ofOther_62, .long c_t_second_62, .long c_t_secondOfOne_62, .long c_t_secondOfOther_62]))]) (wr := []) (va_runV (As := [.long r59]) (rest := []) hcf (c_X4_goOn l D cyJ H.size a_t c_t_first_33 c_t_ofOne_33 c_t_ofOther_33 c_t_second_33 c_t_secondOfOne_33 c_t_secondOfOther_33 r59 c_t_first_62 c_t_ofOne_62 c_t_ofOther_62 c_t_second_62 c_t_secondOfOne_62 c_t_secondOfOther_62 hc62) (cwV 1 hts gX4_workOut_X4_goOn rfl rfl rfl ydX4_goOn ⟨Nat.le_of_ble_eq_true rfl, Nat.le_of_ble_eq_true rfl⟩) ⟨bl_PD, va_recv hK hP (ci := 4) (q0 := 0) rfl rfl, pr_PD hPc hK0 hDc hnw⟩ rfl rfl hl.1 rfl (lv_room (Nat.le_of_ble_eq_true rfl)) dX4_workOut_62 ⟨Nat.le_of_ble_eq_true rfl, Nat.le_of_ble_eq_true rfl⟩) hP hD hS hA [0] [] rfl rfl (by decide) (by decide) (fun H locs hP hD hS => ?_)
      have hP : va_P D vwCl [(a_t, .inr (4, [.long c_t_first_62, .long c_t_ofOne_62, .long c_t_ofOther_62, .long c_t_second_62, .long c_t_secondOfOne_62, .long c_t_secondOfOther_62]))] H := hP
      have hD : va_D A [(a_t, .inr (4, [.long c_t_first_62, .long c_t_ofOne_62, .long c_t_ofOther_62, .long c_t_second_62, .long c_t_secondOfOne_62, .long c_t_secondOfOther_62]))] := hD
      obtain ⟨x5_65, e_x5_65⟩ : ∃ z : Int32, z = y5_33 + 1 := ⟨_, rfl⟩
      have h := bnd_h e_x5_65 h
      refine lv_iinc (v := x5_65) (lv' := [(5, .int x5_65), (0, .ref a_t)]) hx hb dX4_workOut_65 hl (k := 1) rfl (by rw [e_x5_65]; rfl) (by decide) rfl (fun ls hl => ?_)
      refine lv_goto (tgt := 33) hx hb dX4_workOut_68 (by decide) ?_
      exact hih33 x5_65 c_t_first_62 c_t_ofOne_62 c_t_ofOther_62 c_t_second_62 c_t_secondOfOne_62 c_t_secondOfOther_62 h _ _ (hP.sub [0] rfl) (hD.sub [0] (by decide) rfl) hS ls (lv_sub hl [1, 0] rfl)

noncomputable abbrev rmX7_multipliers : Room := { frames := 10, cells := 5, slots := 30, locals := 142 }
theorem ydX7_multipliers : yX7_multipliers.cls = RX7 ∧ yX7_multipliers.cls ≠ "java/lang/invoke/MethodHandle" ∧ yX7_multipliers.cls ≠ "java/lang/invoke/VarHandle" ∧ (parseMethodDescriptor yX7_multipliers.desc).map (fun d => d.parameters.length) = some 4 := by decide +kernel
noncomputable def F_X7_multipliers (c_t_acts : Int32) (f_t_forms : Nat → Int64) (c_t_rows_first : Int64) (c_t_rows_ofOne : Int64) (c_t_rows_ofOther : Int64) (c_t_rows_second : Int64) (c_t_rows_secondOfOne : Int64) (c_t_rows_secondOfOther : Int64) (p0 : Int32) (p1 : Int32) (p2 : Int32) (p3 : Int32) : Option (Nat × Int32 × Int32 × (Nat → Int64) × Int64 × Int64 × Int64 × Int64 × Int64 × Int64) :=
 obn (F_X7_testForms p0 p1 p2) (fun xc3 =>
 if xc3 = 0 then
 obn (F_X7_testForm p3) (fun xc8 =>
 if xc8 = 0 then
 (if p2 = p3 then
 some (2, 0, c_t_acts, f_t_forms, c_t_rows_first, c_t_rows_ofOne, c_t_rows_ofOther, c_t_rows_second, c_t_rows_secondOfOne, c_t_rows_secondOfOther)
else
 chk (¬ (p0 < 0 ∨ 6 ≤ p0.toNatClampNeg)) (
 chk (¬ (p1 < 0 ∨ 6 ≤ p1.toNatClampNeg)) (
 obn6 (F_X4_workOut (f_t_forms p0.toNatClampNeg) (f_t_forms p1.toNatClampNeg)) (fun c_t_rows_first_43 c_t_rows_ofOne_43 c_t_rows_ofOther_43 c_t_rows_second_43 c_t_rows_secondOfOne_43 c_t_rows_secondOfOther_43 =>
 chk (¬ (p2 < 0 ∨ 6 ≤ p2.toNatClampNeg)) (
 bnd (vp_updL f_t_forms p2.toNatClampNeg c_t_rows_ofOne_43) (fun f_t_forms_58 =>
 chk (¬ (p3 < 0 ∨ 6 ≤ p3.toNatClampNeg)) (
 bnd (vp_updL f_t_forms_58 p3.toNatClampNeg c_t_rows_ofOther_43) (fun f_t_forms_72 =>
 obn (F_X0_degreeOf c_t_rows_first_43) (fun r81 =>
 obn2 (F_X7_done c_t_acts r81) (fun r84 c_t_acts_84 =>
 some (0, r84, c_t_acts_84, f_t_forms_72, c_t_rows_first_43, c_t_rows_ofOne_43, c_t_rows_ofOther_43, c_t_rows_second_43, c_t_rows_secondOfOne_43, c_t_rows_secondOfOther_43)))))))))))
else
 some (xc8, 0, c_t_acts, f_t_forms, c_t_rows_first, c_t_rows_ofOne, c_t_rows_ofOther, c_t_rows_second, c_t_rows_secondOfOne, c_t_rows_secondOfOther))
else
 some (xc3, 0, c_t_acts, f_t_forms, c_t_rows_first, c_t_rows_ofOne, c_t_rows_ofOther, c_t_rows_second, c_t_rows_secondOfOne, c_t_rows_secondOfOther))
theorem wsat_X7_multipliers : ∀ w ∈ (vx_atS RX7 127 "java/lang/IllegalArgumentException" ["java/lang/RuntimeException", "java/lang/Exception"]).filter goodWord, w ∈ wsX7_multipliers := fun w h => List.mem_cons_of_mem _ (by first | exact List.mem_append_right _ h | exact List.mem_append_left _ (List.mem_append_right _ h) | exact List.mem_append_left _ (List.mem_append_left _ (List.mem_append_right _ h)))
theorem hgood_X7_multipliers : ∀ w ∈ Cond.classLink RX7 123 "java/lang/IllegalArgumentException" :: Cond.initialized "java/lang/IllegalArgumentException" :: vx_atS RX7 127 "java/lang/IllegalArgumentException" ["java/lang/RuntimeException", "java/lang/Exception"], vx_ot w = true := by decide +kernel
set_option maxHeartbeats 4000000 in
set_option maxRecDepth 100000 in
theorem c_X7_multipliers (l : Launch) (hfl : l.stackTraces = false) (D : va_G) (cyJ : ClassId) (sz : Nat) (a_t : Nat) (a_t_forms : Nat) (a_t_roll : Nat) (a_t_row : Nat) (a_t_rows : Nat) (a_t_factors : Nat) (a_t_found : Nat) (a_t_foundOtherwise : Nat) (c_t_acts : Int32) (c_t_refusals : Int32) (c_t_knocks : Int32) (f_t_forms : Nat → Int64) (c_t_rows_first : Int64) (c_t_rows_ofOne : Int64) (c_t_rows_ofOther : Int64) (c_t_rows_second : Int64) (c_t_rows_secondOfOne : Int64) (c_t_rows_secondOfOther : Int64) (p0 : Int32) (p1 : Int32) (p2 : Int32) (p3 : Int32) (xc : Nat) (r0 : Int32) (o_c_t_acts : Int32) (o_f_t_forms : Nat → Int64) (o_c_t_rows_first : Int64) (o_c_t_rows_ofOne : Int64) (o_c_t_rows_ofOther : Int64) (o_c_t_rows_second : Int64) (o_c_t_rows_secondOfOne : Int64) (o_c_t_rows_secondOfOther : Int64) (hF : F_X7_multipliers c_t_acts f_t_forms c_t_rows_first c_t_rows_ofOne c_t_rows_ofOther c_t_rows_second c_t_rows_secondOfOne c_t_rows_secondOfOther p0 p1 p2 p3 = some (xc, r0, o_c_t_acts, o_f_t_forms, o_c_t_rows_first, o_c_t_rows_ofOne, o_c_t_rows_ofOther, o_c_t_rows_second, o_c_t_rows_secondOfOne, o_c_t_rows_secondOfOther)) : vx_Met l yX7_multipliers wsX7_multipliers rmX7_multipliers (va_Pc [.ref a_t, .int p0, .int p1, .int p2, .int p3] (wPX D [(cyJ, .long)] [(a_t, .inr (6, [.ref a_t_forms, .ref a_t_roll, .ref a_t_row, .ref a_t_rows, .ref a_t_factors, .ref a_t_found, .ref a_t_foundOtherwise, .int c_t_acts, .int c_t_refusals, .int c_t_knocks])), (a_t_forms, .inl (cyJ, 6, .inr (.inl f_t_forms))), (a_t_rows, .inr (4, [.long c_t_rows_first, .long c_t_rows_ofOne, .long c_t_rows_ofOther, .long c_t_rows_second, .long c_t_rows_secondOfOne, .long c_t_rows_secondOfOther]))] sz)) (va_Qi (fun (r : Int32) (_ : Unit) => xc = 0 ∧ r = r0) (fun _ t => wQA D [(a_t, .inr (6, [.ref a_t_forms, .ref a_t_roll, .ref a_t_row, .ref a_t_rows, .ref a_t_factors, .ref a_t_found, .ref a_t_foundOtherwise, .int o_c_t_acts, .int c_t_refusals, .int c_t_knocks])), (a_t_forms, .inl (cyJ, 6, .inr (.inl o_f_t_forms))), (a_t_rows, .inr (4, [.long o_c_t_rows_first, .long o_c_t_rows_ofOne, .long o_c_t_rows_ofOther, .long o_c_t_rows_second, .long o_c_t_rows_secondOfOne, .long o_c_t_rows_secondOfOther]))] (va_A [(a_t, .inr (6, [.ref a_t_forms, .ref a_t_roll, .ref a_t_row, .ref a_t_rows, .ref a_t_factors, .ref a_t_found, .ref a_t_foundOtherwise, .int c_t_acts, .int c_t_refusals, .int c_t_knocks])), (a_t_forms, .inl (cyJ, 6, .inr (.inl f_t_forms))), (a_t_rows, .inr (4, [.long c_t_rows_first, .long c_t_rows_ofOne, .long c_t_rows_ofOther, .long c_t_rows_second, .long c_t_rows_secondOfOne, .long c_t_rows_secondOfOther]))] sz) t) (va_A [(a_t, .inr (6, [.ref a_t_forms, .ref a_t_roll, .ref a_t_row, .ref a_t_rows, .ref a_t_factors, .ref a_t_found, .ref a_t_foundOtherwise, .int c_t_acts, .int c_t_refusals, .int c_t_knocks])), (a_t_forms, .inl (cyJ, 6, .inr (.inl f_t_forms))), (a_t_rows, .inr (4, [.long c_t_rows_first, .long c_t_rows_ofOne, .long c_t_rows_ofOther, .long c_t_rows_second, .long c_t_rows_secondOfOne, .long c_t_rows_secondOfOther]))] sz)) (vx_X (fun (_ : Unit) => ¬ xc = 0) (fun E _ t => E = xcls xc ∧ wQA D [(a_t, .inr (6, [.ref a_t_forms, .ref a_t_roll, .ref a_t_row, .ref a_t_rows, .ref a_t_factors, .ref a_t_found, .ref a_t_foundOtherwise, .int o_c_t_acts, .int c_t_refusals, .int c_t_knocks])), (a_t_forms, .inl (cyJ, 6, .inr (.inl o_f_t_forms))), (a_t_rows, .inr (4, [.long o_c_t_rows_first, .long o_c_t_rows_ofOne, .long o_c_t_rows_ofOther, .long o_c_t_rows_second, .long o_c_t_rows_secondOfOne, .long o_c_t_rows_secondOfOther]))] (va_A [(a_t, .inr (6, [.ref a_t_forms, .ref a_t_roll, .ref a_t_row, .ref a_t_rows, .ref a_t_factors, .ref a_t_found, .ref a_t_foundOtherwise, .int c_t_acts, .int c_t_refusals, .int c_t_knocks])), (a_t_forms, .inl (cyJ, 6, .inr (.inl f_t_forms))), (a_t_rows, .inr (4, [.long c_t_rows_first, .long c_t_rows_ofOne, .long c_t_rows_ofOther, .long c_t_rows_second, .long c_t_rows_secondOfOne, .long c_t_rows_secondOfOther]))] sz) t) (va_A [(a_t, .inr (6, [.ref a_t_forms, .ref a_t_roll, .ref a_t_row, .ref a_t_rows, .ref a_t_factors, .ref a_t_found, .ref a_t_foundOtherwise, .int c_t_acts, .int c_t_refusals, .int c_t_knocks])), (a_t_forms, .inl (cyJ, 6, .inr (.inl f_t_forms))), (a_t_rows, .inr (4, [.long c_t_rows_first, .long c_t_rows_ofOne, .long c_t_rows_ofOther, .long c_t_rows_second, .long c_t_rows_secondOfOne, .long c_t_rows_secondOfOther]))] sz)) 5 30 (va_A [(a_t, .inr (6, [.ref a_t_forms, .ref a_t_roll, .ref a_t_row, .ref a_t_rows, .ref a_t_factors, .ref a_t_found, .ref a_t_foundOtherwise, .int c_t_acts, .int c_t_refusals, .int c_t_knocks])), (a_t_forms, .inl (cyJ, 6, .inr (.inl f_t_forms))), (a_t_rows, .inr (4, [.long c_t_rows_first, .long c_t_rows_ofOne, .long c_t_rows_ofOther, .long c_t_rows_second, .long c_t_rows_secondOfOne, .long c_t_rows_secondOfOther]))] sz) := by
  refine vx_ofW (cc := cX7_multipliers) (maxL := 5) (ret := (some .int)) (by decide) rfl ?_
  intro p e s m args below meth c s₁ B hml hxt hv
  obtain ⟨rfl, ⟨⟨hsz, hP, hK, hD0, hnw⟩, hE⟩⟩ := hv
  have hx := B.exec
  have hb := B.bytes
  have hr := B.returns
  have hts := atoms_spec (ws := wsX7_multipliers) B.pre
  have hown : s.vm.findClass RX7 = some m.cls := findClass_of_methodNamed B.named
  have hlocks := B.notSynchronized
  have hcf : CallFix _ _ _ _ _ _ _ _ _ := ⟨hx, hb, hml, hown, hts⟩
  have hinX7 : ∀ w ∈ u_ws RX7 TX7 10, w ∈ wsX7_multipliers := by decide +kernel
  have hfl30 := hts (.fieldLink RX7 30 "Formwheel" "rows" "LFormwheel$Rows;") (by decide +kernel)
  have hfl9 := hts (.fieldLink RX7 9 "Formwheel" "forms" "[J") (by decide +kernel)
  have hinX4 : ∀ w ∈ u_ws RX4 TX4 6, w ∈ wsX7_multipliers := by decide +kernel
  have hfl134 := hnw.use (A := ([.ref a_t, .int p0, .int p1, .int p2, .int p3] : List Value).toArray) (w := .fieldLinkNest RX7 134 "Formwheel$Rows" "ofOne" "J" "Formwheel") (by decide +kernel)
  have hfl138 := hnw.use (A := ([.ref a_t, .int p0, .int p1, .int p2, .int p3] : List Value).toArray) (w := .fieldLinkNest RX7 138 "Formwheel$Rows" "ofOther" "J" "Formwheel") (by decide +kernel)
  have hfl141 := hnw.use (A := ([.ref a_t, .int p0, .int p1, .int p2, .int p3] : List Value).toArray) (w := .fieldLinkNest RX7 141 "Formwheel$Rows" "first" "J" "Formwheel") (by decide +kernel)
  subst hsz
  have hD := hD0.self (sz := s.heap.size)
  generalize hAe : va_A [(a_t, .inr (6, [.ref a_t_forms, .ref a_t_roll, .ref a_t_row, .ref a_t_rows, .ref a_t_factors, .ref a_t_found, .ref a_t_foundOtherwise, .int c_t_acts, .int c_t_refusals, .int c_t_knocks])), (a_t_forms, .inl (cyJ, 6, .inr (.inl f_t_forms))), (a_t_rows, .inr (4, [.long c_t_rows_first, .long c_t_rows_ofOne, .long c_t_rows_ofOther, .long c_t_rows_second, .long c_t_rows_secondOfOne, .long c_t_rows_secondOfOther]))] s.heap.size = A at hD hE ⊢
  have hA : ∀ q : Nat, s.heap.size ≤ q → A q := fun q h => by rw [← hAe]; exact Or.inr h
  have hS : va_S A s.heap s.heap [] := va_S.rf
  have hP : va_P D vwCl [(a_t, .inr (6, [.ref a_t_forms, .ref a_t_roll, .ref a_t_row, .ref a_t_rows, .ref a_t_factors, .ref a_t_found, .ref a_t_foundOtherwise, .int c_t_acts, .int c_t_refusals, .int c_t_knocks])), (a_t_forms, .inl (cyJ, 6, .inr (.inl f_t_forms))), (a_t_rows, .inr (4, [.long c_t_rows_first, .long c_t_rows_ofOne, .long c_t_rows_ofOther, .long c_t_rows_second, .long c_t_rows_secondOfOne, .long c_t_rows_secondOfOther]))] s.heap := hP
  have hK0 := hK
  have hl := lv_entry ([.ref a_t, .int p0, .int p1, .int p2, .int p3]) (n := 5) (Nat.le_of_ble_eq_true rfl)
  rw [lg_entry_eq]
  generalize (lg_sl ([.ref a_t, .int p0, .int p1, .int p2, .int p3]) ++ List.replicate (5 - (lg_sl ([.ref a_t, .int p0, .int p1, .int p2, .int p3])).length) Slot.unset).toArray = ls at hl ⊢
  have hl : lv_has ls 5 [(0, .ref a_t), (1, .int p0), (2, .int p1), (3, .int p2), (4, .int p3)] := hl
  have h := hF
  clear hF
  unfold F_X7_multipliers at h
  refine lv_iload_n hx hb dX7_multipliers_0 rfl (lv_at hl 1 rfl) ?_
  refine lv_iload_n hx hb dX7_multipliers_1 rfl (lv_at hl 2 rfl) ?_
  refine lv_iload_n hx hb dX7_multipliers_2 rfl (lv_at hl 3 rfl) ?_
  obtain ⟨xc3, hc3, h⟩ := obn_h h
  have hPc := hP.sub (ws' := []) [] rfl
  have hDc := hD.sub (ws' := []) [] (by decide) rfl
  refine hx_v (w1 := []) (wr := [(a_t, .inr (6, [.ref a_t_forms, .ref a_t_roll, .ref a_t_row, .ref a_t_rows, .ref a_t_factors, .ref a_t_found, .ref a_t_foundOtherwise, .int c_t_acts, .int c_t_refusals, .int c_t_knocks])), (a_t_forms, .inl (cyJ, 6, .inr (.inl f_t_forms))), (a_t_rows, .inr (4, [.long c_t_rows_first, .long c_t_rows_ofOne, .long c_t_rows_ofOther, .long c_t_rows_second, .long c_t_rows_secondOfOne, .long c_t_rows_secondOfOther]))]) (vx_runS (As := [.int p0, .int p1, .int p2]) (rest := []) hcf (c_X7_testForms l hfl D cyJ s.heap.size p0 p1 p2 xc3 hc3) (va_cwS 3 hts gX7_multipliers_X7_testForms rfl rfl rfl ydX7_testForms ⟨Nat.le_of_ble_eq_true rfl, Nat.le_of_ble_eq_true rfl⟩) ⟨bl_PX, pr_PX hPc hK0 hDc hnw hE hS (va_free hD hS hA [] rfl)⟩ rfl rfl hl.1 rfl (lv_room (Nat.le_of_ble_eq_true rfl)) dX7_multipliers_3 ⟨Nat.le_of_ble_eq_true rfl, Nat.le_of_ble_eq_true rfl⟩) hP hD hS hA [] [0, 1, 2] rfl rfl (by decide) (by decide) (fun E9 ce9 q9 H locs hx9 hE9 hP hD hS hce9 hcv9 hcl9 => ?_) (fun hx9 H locs hP hD hS => ?_)
  · have h := if_ hx9 h
    have hP : va_P D vwCl [(a_t, .inr (6, [.ref a_t_forms, .ref a_t_roll, .ref a_t_row, .ref a_t_rows, .ref a_t_factors, .ref a_t_found, .ref a_t_foundOtherwise, .int c_t_acts, .int c_t_refusals, .int c_t_knocks])), (a_t_forms, .inl (cyJ, 6, .inr (.inl f_t_forms))), (a_t_rows, .inr (4, [.long c_t_rows_first, .long c_t_rows_ofOne, .long c_t_rows_ofOther, .long c_t_rows_second, .long c_t_rows_secondOfOne, .long c_t_rows_secondOfOther]))] H := hP
    have hD : va_D A [(a_t, .inr (6, [.ref a_t_forms, .ref a_t_roll, .ref a_t_row, .ref a_t_rows, .ref a_t_factors, .ref a_t_found, .ref a_t_foundOtherwise, .int c_t_acts, .int c_t_refusals, .int c_t_knocks])), (a_t_forms, .inl (cyJ, 6, .inr (.inl f_t_forms))), (a_t_rows, .inr (4, [.long c_t_rows_first, .long c_t_rows_ofOne, .long c_t_rows_ofOther, .long c_t_rows_second, .long c_t_rows_secondOfOne, .long c_t_rows_secondOfOther]))] := hD
    obtain ⟨e0, e1, e2, e3, e4, e5, e6, e7, e8, e9⟩ := tup10 h
    subst e0
    subst e1
    subst e2
    subst e3
    subst e4
    subst e5
    subst e6
    subst e7
    subst e8
    subst e9
    have hP9 : va_P D vwCl [(a_t, .inr (6, [.ref a_t_forms, .ref a_t_roll, .ref a_t_row, .ref a_t_rows, .ref a_t_factors, .ref a_t_found, .ref a_t_foundOtherwise, .int c_t_acts, .int c_t_refusals, .int c_t_knocks])), (a_t_forms, .inl (cyJ, 6, .inr (.inl f_t_forms))), (a_t_rows, .inr (4, [.long c_t_rows_first, .long c_t_rows_ofOne, .long c_t_rows_ofOther, .long c_t_rows_second, .long c_t_rows_secondOfOne, .long c_t_rows_secondOfOther]))] H := hP.sub [0, 1, 2] rfl
    have hD9 : va_D A [(a_t, .inr (6, [.ref a_t_forms, .ref a_t_roll, .ref a_t_row, .ref a_t_rows, .ref a_t_factors, .ref a_t_found, .ref a_t_foundOtherwise, .int c_t_acts, .int c_t_refusals, .int c_t_knocks])), (a_t_forms, .inl (cyJ, 6, .inr (.inl f_t_forms))), (a_t_rows, .inr (4, [.long c_t_rows_first, .long c_t_rows_ofOne, .long c_t_rows_ofOther, .long c_t_rows_second, .long c_t_rows_secondOfOne, .long c_t_rows_secondOfOther]))] := hD.sub [0, 1, 2] (by decide) rfl
    exact vx_out (fun x hx => (hxt x hx).elim) hlocks hce9 hcv9 hcl9 (fun t ht hW => ⟨(), hx9, ⟨hE9, wQA_of ht hP9 hD9⟩, hS.F ht⟩) hS.2.2 (Nat.le_of_ble_eq_true rfl) (Nat.le_of_ble_eq_true rfl)
  · have h := it_ hx9 h
    have hP : va_P D vwCl [(a_t, .inr (6, [.ref a_t_forms, .ref a_t_roll, .ref a_t_row, .ref a_t_rows, .ref a_t_factors, .ref a_t_found, .ref a_t_foundOtherwise, .int c_t_acts, .int c_t_refusals, .int c_t_knocks])), (a_t_forms, .inl (cyJ, 6, .inr (.inl f_t_forms))), (a_t_rows, .inr (4, [.long c_t_rows_first, .long c_t_rows_ofOne, .long c_t_rows_ofOther, .long c_t_rows_second, .long c_t_rows_secondOfOne, .long c_t_rows_secondOfOther]))] H := hP
    have hD : va_D A [(a_t, .inr (6, [.ref a_t_forms, .ref a_t_roll, .ref a_t_row, .ref a_t_rows, .ref a_t_factors, .ref a_t_found, .ref a_t_foundOtherwise, .int c_t_acts, .int c_t_refusals, .int c_t_knocks])), (a_t_forms, .inl (cyJ, 6, .inr (.inl f_t_forms))), (a_t_rows, .inr (4, [.long c_t_rows_first, .long c_t_rows_ofOne, .long c_t_rows_ofOther, .long c_t_rows_second, .long c_t_rows_secondOfOne, .long c_t_rows_secondOfOther]))] := hD
    refine lv_iload hx hb dX7_multipliers_6 (lv_at hl 4 rfl) ?_
    obtain ⟨xc8, hc8, h⟩ := obn_h h
    have hPc := hP.sub (ws' := []) [] rfl
    have hDc := hD.sub (ws' := []) [] (by decide) rfl
    refine hx_v (w1 := []) (wr := [(a_t, .inr (6, [.ref a_t_forms, .ref a_t_roll, .ref a_t_row, .ref a_t_rows, .ref a_t_factors, .ref a_t_found, .ref a_t_foundOtherwise, .int c_t_acts, .int c_t_refusals, .int c_t_knocks])), (a_t_forms, .inl (cyJ, 6, .inr (.inl f_t_forms))), (a_t_rows, .inr (4, [.long c_t_rows_first, .long c_t_rows_ofOne, .long c_t_rows_ofOther, .long c_t_rows_second, .long c_t_rows_secondOfOne, .long c_t_rows_secondOfOther]))]) (vx_runS (As := [.int p3]) (rest := []) hcf (c_X7_testForm l hfl D cyJ H.size p3 xc8 hc8) (va_cwS 1 hts gX7_multipliers_X7_testForm rfl rfl rfl ydX7_testForm ⟨Nat.le_of_ble_eq_true rfl, Nat.le_of_ble_eq_true rfl⟩) ⟨bl_PX, pr_PX hPc hK0 hDc hnw hE hS (va_free hD hS hA [] rfl)⟩ rfl rfl hl.1 rfl (lv_room (Nat.le_of_ble_eq_true rfl)) dX7_multipliers_8 ⟨Nat.le_of_ble_eq_true rfl, Nat.le_of_ble_eq_true rfl⟩) hP hD hS hA [] [0, 1, 2] rfl rfl (by decide) (by decide) (fun E9 ce9 q9 H locs hx9 hE9 hP hD hS hce9 hcv9 hcl9 => ?_) (fun hx9 H locs hP hD hS => ?_)
    · have h := if_ hx9 h
      have hP : va_P D vwCl [(a_t, .inr (6, [.ref a_t_forms, .ref a_t_roll, .ref a_t_row, .ref a_t_rows, .ref a_t_factors, .ref a_t_found, .ref a_t_foundOtherwise, .int c_t_acts, .int c_t_refusals, .int c_t_knocks])), (a_t_forms, .inl (cyJ, 6, .inr (.inl f_t_forms))), (a_t_rows, .inr (4, [.long c_t_rows_first, .long c_t_rows_ofOne, .long c_t_rows_ofOther, .long c_t_rows_second, .long c_t_rows_secondOfOne, .long c_t_rows_secondOfOther]))] H := hP
      have hD : va_D A [(a_t, .inr (6, [.ref a_t_forms, .ref a_t_roll, .ref a_t_row, .ref a_t_rows, .ref a_t_factors, .ref a_t_found, .ref a_t_foundOtherwise, .int c_t_acts, .int c_t_refusals, .int c_t_knocks])), (a_t_forms, .inl (cyJ, 6, .inr (.inl f_t_forms))), (a_t_rows, .inr (4, [.long c_t_rows_first, .long c_t_rows_ofOne, .long c_t_rows_ofOther, .long c_t_rows_second, .long c_t_rows_secondOfOne, .long c_t_rows_secondOfOther]))] := hD
      obtain ⟨e0, e1, e2, e3, e4, e5, e6, e7, e8, e9⟩ := tup10 h
      subst e0
      subst e1
      subst e2
      subst e3
      subst e4
      subst e5
      subst e6
      subst e7
      subst e8
      subst e9
      have hP9 : va_P D vwCl [(a_t, .inr (6, [.ref a_t_forms, .ref a_t_roll, .ref a_t_row, .ref a_t_rows, .ref a_t_factors, .ref a_t_found, .ref a_t_foundOtherwise, .int c_t_acts, .int c_t_refusals, .int c_t_knocks])), (a_t_forms, .inl (cyJ, 6, .inr (.inl f_t_forms))), (a_t_rows, .inr (4, [.long c_t_rows_first, .long c_t_rows_ofOne, .long c_t_rows_ofOther, .long c_t_rows_second, .long c_t_rows_secondOfOne, .long c_t_rows_secondOfOther]))] H := hP.sub [0, 1, 2] rfl
      have hD9 : va_D A [(a_t, .inr (6, [.ref a_t_forms, .ref a_t_roll, .ref a_t_row, .ref a_t_rows, .ref a_t_factors, .ref a_t_found, .ref a_t_foundOtherwise, .int c_t_acts, .int c_t_refusals, .int c_t_knocks])), (a_t_forms, .inl (cyJ, 6, .inr (.inl f_t_forms))), (a_t_rows, .inr (4, [.long c_t_rows_first, .long c_t_rows_ofOne, .long c_t_rows_ofOther, .long c_t_rows_second, .long c_t_rows_secondOfOne, .long c_t_rows_secondOfOther]))] := hD.sub [0, 1, 2] (by decide) rfl
      exact vx_out (fun x hx => (hxt x hx).elim) hlocks hce9 hcv9 hcl9 (fun t ht hW => ⟨(), hx9, ⟨hE9, wQA_of ht hP9 hD9⟩, hS.F ht⟩) hS.2.2 (Nat.le_of_ble_eq_true rfl) (Nat.le_of_ble_eq_true rfl)
    · have h := it_ hx9 h
      have hP : va_P D vwCl [(a_t, .inr (6, [.ref a_t_forms, .ref a_t_roll, .ref a_t_row, .ref a_t_rows, .ref a_t_factors, .ref a_t_found, .ref a_t_foundOtherwise, .int c_t_acts, .int c_t_refusals, .int c_t_knocks])), (a_t_forms, .inl (cyJ, 6, .inr (.inl f_t_forms))), (a_t_rows, .inr (4, [.long c_t_rows_first, .long c_t_rows_ofOne, .long c_t_rows_ofOther, .long c_t_rows_second, .long c_t_rows_secondOfOne, .long c_t_rows_secondOfOther]))] H := hP
      have hD : va_D A [(a_t, .inr (6, [.ref a_t_forms, .ref a_t_roll, .ref a_t_row, .ref a_t_rows, .ref a_t_factors, .ref a_t_found, .ref a_t_foundOtherwise, .int c_t_acts, .int c_t_refusals, .int c_t_knocks])), (a_t_forms, .inl (cyJ, 6, .inr (.inl f_t_forms))), (a_t_rows, .inr (4, [.long c_t_rows_first, .long c_t_rows_ofOne, .long c_t_rows_ofOther, .long c_t_rows_second, .long c_t_rows_secondOfOne, .long c_t_rows_secondOfOther]))] := hD
      refine lv_iload_n hx hb dX7_multipliers_11 rfl (lv_at hl 3 rfl) ?_
      refine lv_iload hx hb dX7_multipliers_12 (lv_at hl 4 rfl) ?_
      refine lv_icmp_ne (tgt := 27) hx hb dX7_multipliers_14 (by decide) (fun c14 => ?_) (fun c14 => ?_)
      · have h := if_ c14 h
        refine lv_aload_n hx hb dX7_multipliers_27 rfl (lv_at hl 0 rfl) ?_
        refine va_get (D := D) (ci := 6) (v := .ref a_t_rows) (C := RX7) (T := TX7) (N := 10) hx hb hts hinX7 hown hK hP 0 rfl rfl 3 (by decide) hfl30 (fun _ h9 => h9) rfl dX7_multipliers_28 ?_
        refine lv_aload_n hx hb dX7_multipliers_31 rfl (lv_at hl 0 rfl) ?_
        refine va_get (D := D) (ci := 6) (v := .ref a_t_forms) (C := RX7) (T := TX7) (N := 10) hx hb hts hinX7 hown hK hP 0 rfl rfl 0 (by decide) hfl9 (fun _ h9 => h9) rfl dX7_multipliers_32 ?_
        refine lv_iload_n hx hb dX7_multipliers_35 rfl (lv_at hl 1 rfl) ?_
        obtain ⟨hq36, h⟩ := chk_h h
        refine va_lald hx hb hK hP 1 0 rfl rfl hq36 dX7_multipliers_36 ?_
        refine lv_aload_n hx hb dX7_multipliers_37 rfl (lv_at hl 0 rfl) ?_
        refine va_get (D := D) (ci := 6) (v := .ref a_t_forms) (C := RX7) (T := TX7) (N := 10) hx hb hts hinX7 hown hK hP 0 rfl rfl 0 (by decide) hfl9 (fun _ h9 => h9) rfl dX7_multipliers_38 ?_
        refine lv_iload_n hx hb dX7_multipliers_41 rfl (lv_at hl 2 rfl) ?_
        obtain ⟨hq42, h⟩ := chk_h h
        refine va_lald hx hb hK hP 1 0 rfl rfl hq42 dX7_multipliers_42 ?_
        obtain ⟨c_t_rows_first_43, c_t_rows_ofOne_43, c_t_rows_ofOther_43, c_t_rows_second_43, c_t_rows_secondOfOne_43, c_t_rows_secondOfOther_43, hc43, h⟩ := obn6_h h
        have hPc := hP.sub (ws' := [(a_t_rows, .inr (4, [.long c_t_rows_first, .long c_t_rows_ofOne, .long c_t_rows_ofOther, .long c_t_rows_second, .long c_t_rows_secondOfOne, .long c_t_rows_secondOfOther]))]) [2] rfl
        have hDc := hD.sub (ws' := [(a_t_rows, .inr (4, [.long c_t_rows_first, .long c_t_rows_ofOne, .long c_t_rows_ofOther, .long c_t_rows_second, .long c_t_rows_secondOfOne, .long c_t_rows_secondOfOther]))]) [2] (by decide) rfl
        refine hp_v (w1 := [(a_t_rows, .inr (4, [.long c_t_rows_first_43, .long c_t_rows_ofOne_43, .long c_t_rows_ofOther_43, .long c_t_rows_second_43, .long c_t_rows_secondOfOne_43, .long c_t_rows_secondOfOther_43]))]) (wr := [(a_t, .inr (6, [.ref a_t_forms, .ref a_t_roll, .ref a_t_row, .ref a_t_rows, .ref a_t_factors, .ref a_t_found, .ref a_t_foundOtherwise, .int c_t_acts, .int c_t_refusals, .int c_t_knocks])), (a_t_forms, .inl (cyJ, 6, .inr (.inl f_t_forms)))]) (va_runV (As := [.long (f_t_forms p0.toNatClampNeg), .long (f_t_forms p1.toNatClampNeg)]) (rest := []) hcf (c_X4_workOut l D cyJ H.size a_t_rows c_t_rows_first c_t_rows_ofOne c_t_rows_ofOther c_t_rows_second c_t_rows_secondOfOne c_t_rows_secondOfOther (f_t_forms p0.toNatClampNeg) (f_t_forms p1.toNatClampNeg) c_t_rows_first_43 c_t_rows_ofOne_43 c_t_rows_ofOther_43 c_t_rows_second_43 c_t_rows_secondOfOne_43 c_t_rows_secondOfOther_43 hc43) (cwV 2 hts gX7_multipliers_X4_workOut rfl rfl rfl ydX4_workOut ⟨Nat.le_of_ble_eq_true rfl, Nat.le_of_ble_eq_true rfl⟩) ⟨bl_PD, va_recv hK hP (ci := 4) (q0 := 2) rfl rfl, pr_PD hPc hK0 hDc hnw⟩ rfl rfl hl.1 rfl (lv_room (Nat.le_of_ble_eq_true rfl)) dX7_multipliers_43 ⟨Nat.le_of_ble_eq_true rfl, Nat.le_of_ble_eq_true rfl⟩) hP hD hS hA [2] [0, 1] rfl rfl (by decide) (by decide) (fun H locs hP hD hS => ?_)
        have hP : va_P D vwCl [(a_t, .inr (6, [.ref a_t_forms, .ref a_t_roll, .ref a_t_row, .ref a_t_rows, .ref a_t_factors, .ref a_t_found, .ref a_t_foundOtherwise, .int c_t_acts, .int c_t_refusals, .int c_t_knocks])), (a_t_forms, .inl (cyJ, 6, .inr (.inl f_t_forms))), (a_t_rows, .inr (4, [.long c_t_rows_first_43, .long c_t_rows_ofOne_43, .long c_t_rows_ofOther_43, .long c_t_rows_second_43, .long c_t_rows_secondOfOne_43, .long c_t_rows_secondOfOther_43]))] H := hP
        have hD : va_D A [(a_t, .inr (6, [.ref a_t_forms, .ref a_t_roll, .ref a_t_row, .ref a_t_rows, .ref a_t_factors, .ref a_t_found, .ref a_t_foundOtherwise, .int c_t_acts, .int c_t_refusals, .int c_t_knocks])), (a_t_forms, .inl (cyJ, 6, .inr (.inl f_t_forms))), (a_t_rows, .inr (4, [.long c_t_rows_first_43, .long c_t_rows_ofOne_43, .long c_t_rows_ofOther_43, .long c_t_rows_second_43, .long c_t_rows_secondOfOne_43, .long c_t_rows_secondOfOther_43]))] := hD
        refine lv_aload_n hx hb dX7_multipliers_46 rfl (lv_at hl 0 rfl) ?_
        refine va_get (D := D) (ci := 6) (v := .ref a_t_forms) (C := RX7) (T := TX7) (N := 10) hx hb hts hinX7 hown hK hP 0 rfl rfl 0 (by decide) hfl9 (fun _ h9 => h9) rfl dX7_multipliers_47 ?_
        refine lv_iload_n hx hb dX7_multipliers_50 rfl (lv_at hl 3 rfl) ?_
        refine lv_aload_n hx hb dX7_multipliers_51 rfl (lv_at hl 0 rfl) ?_
        refine va_get (D := D) (ci := 6) (v := .ref a_t_rows) (C := RX7) (T := TX7) (N := 10) hx hb hts hinX7 hown hK hP 0 rfl rfl 3 (by decide) hfl30 (fun _ h9 => h9) rfl dX7_multipliers_52 ?_
        refine va_getN (D := D) (ci := 4) (v := .long c_t_rows_ofOne_43) (C := RX4) (T := TX4) (N := 6) hx hb hts hinX4 hown hK hP 2 rfl rfl 1 (by decide) hfl134 (fun _ h9 => h9) rfl dX7_multipliers_55 ?_
        obtain ⟨hq58, h⟩ := chk_h h
        refine va_last hx hb hK hP hD hS 1 0 rfl rfl hq58 dX7_multipliers_58 (fun H locs hP hD hS => ?_)
        obtain ⟨f_t_forms_58, e_f_t_forms_58⟩ : ∃ z, z = vp_updL f_t_forms p2.toNatClampNeg c_t_rows_ofOne_43 := ⟨_, rfl⟩
        have h := bnd_h e_f_t_forms_58 h
        have hP : va_P D vwCl [(a_t, .inr (6, [.ref a_t_forms, .ref a_t_roll, .ref a_t_row, .ref a_t_rows, .ref a_t_factors, .ref a_t_found, .ref a_t_foundOtherwise, .int c_t_acts, .int c_t_refusals, .int c_t_knocks])), (a_t_forms, .inl (cyJ, 6, .inr (.inl f_t_forms_58))), (a_t_rows, .inr (4, [.long c_t_rows_first_43, .long c_t_rows_ofOne_43, .long c_t_rows_ofOther_43, .long c_t_rows_second_43, .long c_t_rows_secondOfOne_43, .long c_t_rows_secondOfOther_43]))] H := by rw [e_f_t_forms_58]; exact hP
        have hD : va_D A [(a_t, .inr (6, [.ref a_t_forms, .ref a_t_roll, .ref a_t_row, .ref a_t_rows, .ref a_t_factors, .ref a_t_found, .ref a_t_foundOtherwise, .int c_t_acts, .int c_t_refusals, .int c_t_knocks])), (a_t_forms, .inl (cyJ, 6, .inr (.inl f_t_forms_58))), (a_t_rows, .inr (4, [.long c_t_rows_first_43, .long c_t_rows_ofOne_43, .long c_t_rows_ofOther_43, .long c_t_rows_second_43, .long c_t_rows_secondOfOne_43, .long c_t_rows_secondOfOther_43]))] := by rw [e_f_t_forms_58]; exact hD
        refine lv_aload_n hx hb dX7_multipliers_59 rfl (lv_at hl 0 rfl) ?_
        refine va_get (D := D) (ci := 6) (v := .ref a_t_forms) (C := RX7) (T := TX7) (N := 10) hx hb hts hinX7 hown hK hP 0 rfl rfl 0 (by decide) hfl9 (fun _ h9 => h9) rfl dX7_multipliers_60 ?_
        refine lv_iload hx hb dX7_multipliers_63 (lv_at hl 4 rfl) ?_
        refine lv_aload_n hx hb dX7_multipliers_65 rfl (lv_at hl 0 rfl) ?_
        refine va_get (D := D) (ci := 6) (v := .ref a_t_rows) (C := RX7) (T := TX7) (N := 10) hx hb hts hinX7 hown hK hP 0 rfl rfl 3 (by decide) hfl30 (fun _ h9 => h9) rfl dX7_multipliers_66 ?_
        refine va_getN (D := D) (ci := 4) (v := .long c_t_rows_ofOther_43) (C := RX4) (T := TX4) (N := 6) hx hb hts hinX4 hown hK hP 2 rfl rfl 2 (by decide) hfl138 (fun _ h9 => h9) rfl dX7_multipliers_69 ?_
        obtain ⟨hq72, h⟩ := chk_h h
        refine va_last hx hb hK hP hD hS 1 0 rfl rfl hq72 dX7_multipliers_72 (fun H locs hP hD hS => ?_)
        obtain ⟨f_t_forms_72, e_f_t_forms_72⟩ : ∃ z, z = vp_updL f_t_forms_58 p3.toNatClampNeg c_t_rows_ofOther_43 := ⟨_, rfl⟩
        have h := bnd_h e_f_t_forms_72 h
        have hP : va_P D vwCl [(a_t, .inr (6, [.ref a_t_forms, .ref a_t_roll, .ref a_t_row, .ref a_t_rows, .ref a_t_factors, .ref a_t_found, .ref a_t_foundOtherwise, .int c_t_acts, .int c_t_refusals, .int c_t_knocks])), (a_t_forms, .inl (cyJ, 6, .inr (.inl f_t_forms_72))), (a_t_rows, .inr (4, [.long c_t_rows_first_43, .long c_t_rows_ofOne_43, .long c_t_rows_ofOther_43, .long c_t_rows_second_43, .long c_t_rows_secondOfOne_43, .long c_t_rows_secondOfOther_43]))] H := by rw [e_f_t_forms_72]; exact hP
        have hD : va_D A [(a_t, .inr (6, [.ref a_t_forms, .ref a_t_roll, .ref a_t_row, .ref a_t_rows, .ref a_t_factors, .ref a_t_found, .ref a_t_foundOtherwise, .int c_t_acts, .int c_t_refusals, .int c_t_knocks])), (a_t_forms, .inl (cyJ, 6, .inr (.inl f_t_forms_72))), (a_t_rows, .inr (4, [.long c_t_rows_first_43, .long c_t_rows_ofOne_43, .long c_t_rows_ofOther_43, .long c_t_rows_second_43, .long c_t_rows_secondOfOne_43, .long c_t_rows_secondOfOther_43]))] := by rw [e_f_t_forms_72]; exact hD
        refine lv_aload_n hx hb dX7_multipliers_73 rfl (lv_at hl 0 rfl) ?_
        refine lv_aload_n hx hb dX7_multipliers_74 rfl (lv_at hl 0 rfl) ?_
        refine va_get (D := D) (ci := 6) (v := .ref a_t_rows) (C := RX7) (T := TX7) (N := 10) hx hb hts hinX7 hown hK hP 0 rfl rfl 3 (by decide) hfl30 (fun _ h9 => h9) rfl dX7_multipliers_75 ?_
        refine va_getN (D := D) (ci := 4) (v := .long c_t_rows_first_43) (C := RX4) (T := TX4) (N := 6) hx hb hts hinX4 hown hK hP 2 rfl rfl 0 (by decide) hfl141 (fun _ h9 => h9) rfl dX7_multipliers_78 ?_
        obtain ⟨r81, hc81, h⟩ := obn_h h
        refine pz_callS (As := [.long c_t_rows_first_43]) (rest := [.ref a_t]) hcf (c_X0_degreeOf l c_t_rows_first_43 r81 hc81) (va_cwS 1 hts gX7_multipliers_X0_degreeOf rfl rfl rfl ydX0_degreeOf ⟨Nat.le_of_ble_eq_true rfl, Nat.le_of_ble_eq_true rfl⟩) hnw rfl hl.1 rfl (Nat.le_of_ble_eq_true rfl) dX7_multipliers_81 ⟨Nat.le_of_ble_eq_true rfl, Nat.le_of_ble_eq_true rfl⟩ ?_
        obtain ⟨r84, c_t_acts_84, hc84, h⟩ := obn2_h h
        have hPc := hP.sub (ws' := [(a_t, .inr (6, [.ref a_t_forms, .ref a_t_roll, .ref a_t_row, .ref a_t_rows, .ref a_t_factors, .ref a_t_found, .ref a_t_foundOtherwise, .int c_t_acts, .int c_t_refusals, .int c_t_knocks]))]) [0] rfl
        have hDc := hD.sub (ws' := [(a_t, .inr (6, [.ref a_t_forms, .ref a_t_roll, .ref a_t_row, .ref a_t_rows, .ref a_t_factors, .ref a_t_found, .ref a_t_foundOtherwise, .int c_t_acts, .int c_t_refusals, .int c_t_knocks]))]) [0] (by decide) rfl
        refine hp_i (w1 := [(a_t, .inr (6, [.ref a_t_forms, .ref a_t_roll, .ref a_t_row, .ref a_t_rows, .ref a_t_factors, .ref a_t_found, .ref a_t_foundOtherwise, .int c_t_acts_84, .int c_t_refusals, .int c_t_knocks]))]) (wr := [(a_t_forms, .inl (cyJ, 6, .inr (.inl f_t_forms_72))), (a_t_rows, .inr (4, [.long c_t_rows_first_43, .long c_t_rows_ofOne_43, .long c_t_rows_ofOther_43, .long c_t_rows_second_43, .long c_t_rows_secondOfOne_43, .long c_t_rows_secondOfOther_43]))]) (va_runV (As := [.int r81]) (rest := []) hcf (c_X7_done l D cyJ H.size a_t a_t_forms a_t_roll a_t_row a_t_rows a_t_factors a_t_found a_t_foundOtherwise c_t_acts c_t_refusals c_t_knocks r81 r84 c_t_acts_84 hc84) (cwV 1 hts gX7_multipliers_X7_done rfl rfl rfl ydX7_done ⟨Nat.le_of_ble_eq_true rfl, Nat.le_of_ble_eq_true rfl⟩) ⟨bl_PD, va_recv hK hP (ci := 6) (q0 := 0) rfl rfl, pr_PD hPc hK0 hDc hnw⟩ rfl rfl hl.1 rfl (lv_room (Nat.le_of_ble_eq_true rfl)) dX7_multipliers_84 ⟨Nat.le_of_ble_eq_true rfl, Nat.le_of_ble_eq_true rfl⟩) hP hD hS hA [0] [1, 2] rfl rfl (by decide) (by decide) (fun H locs hP hD hS => ?_)
        have hP : va_P D vwCl [(a_t_forms, .inl (cyJ, 6, .inr (.inl f_t_forms_72))), (a_t_rows, .inr (4, [.long c_t_rows_first_43, .long c_t_rows_ofOne_43, .long c_t_rows_ofOther_43, .long c_t_rows_second_43, .long c_t_rows_secondOfOne_43, .long c_t_rows_secondOfOther_43])), (a_t, .inr (6, [.ref a_t_forms, .ref a_t_roll, .ref a_t_row, .ref a_t_rows, .ref a_t_factors, .ref a_t_found, .ref a_t_foundOtherwise, .int c_t_acts_84, .int c_t_refusals, .int c_t_knocks]))] H := hP
        have hD : va_D A [(a_t_forms, .inl (cyJ, 6, .inr (.inl f_t_forms_72))), (a_t_rows, .inr (4, [.long c_t_rows_first_43, .long c_t_rows_ofOne_43, .long c_t_rows_ofOther_43, .long c_t_rows_second_43, .long c_t_rows_secondOfOne_43, .long c_t_rows_secondOfOther_43])), (a_t, .inr (6, [.ref a_t_forms, .ref a_t_roll, .ref a_t_row, .ref a_t_rows, .ref a_t_factors, .ref a_t_found, .ref a_t_foundOtherwise, .int c_t_acts_84, .int c_t_refusals, .int c_t_knocks]))] := hD
        obtain ⟨e0, e1, e2, e3, e4, e5, e6, e7, e8, e9⟩ := tup10 h
        subst e0
        subst e1
        subst e2
        subst e3
        subst e4
        subst e5
        subst e6
        subst e7
        subst e8
        subst e9
        have hP9 : va_P D vwCl [(a_t, .inr (6, [.ref a_t_forms, .ref a_t_roll, .ref a_t_row, .ref a_t_rows, .ref a_t_factors, .ref a_t_found, .ref a_t_foundOtherwise, .int c_t_acts_84, .int c_t_refusals, .int c_t_knocks])), (a_t_forms, .inl (cyJ, 6, .inr (.inl f_t_forms_72))), (a_t_rows, .inr (4, [.long c_t_rows_first_43, .long c_t_rows_ofOne_43, .long c_t_rows_ofOther_43, .long c_t_rows_second_43, .long c_t_rows_secondOfOne_43, .long c_t_rows_secondOfOther_43]))] H := hP.sub [2, 0, 1] rfl
        have hD9 : va_D A [(a_t, .inr (6, [.ref a_t_forms, .ref a_t_roll, .ref a_t_row, .ref a_t_rows, .ref a_t_factors, .ref a_t_found, .ref a_t_foundOtherwise, .int c_t_acts_84, .int c_t_refusals, .int c_t_knocks])), (a_t_forms, .inl (cyJ, 6, .inr (.inl f_t_forms_72))), (a_t_rows, .inr (4, [.long c_t_rows_first_43, .long c_t_rows_ofOne_43, .long c_t_rows_ofOther_43, .long c_t_rows_second_43, .long c_t_rows_secondOfOne_43, .long c_t_rows_secondOfOther_43]))] := hD.sub [2, 0, 1] (by decide) rfl
        refine vx_ret ?_
        refine W.widen (k := 5) (n := 30) (Nat.le_of_ble_eq_true rfl) (Nat.le_of_ble_eq_true rfl) ?_
        exact W.iret hx hb hr (fun t ht hW => ⟨⟨_, (), rfl, ⟨rfl, rfl⟩, wQA_of ht hP9 hD9⟩, hS.F ht⟩) hS.2.2 dX7_multipliers_87
      · have h := it_ c14 h
        obtain ⟨e0, e1, e2, e3, e4, e5, e6, e7, e8, e9⟩ := tup10 h
        subst e0
        subst e1
        subst e2
        subst e3
        subst e4
        subst e5
        subst e6
        subst e7
        subst e8
        subst e9
        have hP9 : va_P D vwCl [(a_t, .inr (6, [.ref a_t_forms, .ref a_t_roll, .ref a_t_row, .ref a_t_rows, .ref a_t_factors, .ref a_t_found, .ref a_t_foundOtherwise, .int c_t_acts, .int c_t_refusals, .int c_t_knocks])), (a_t_forms, .inl (cyJ, 6, .inr (.inl f_t_forms))), (a_t_rows, .inr (4, [.long c_t_rows_first, .long c_t_rows_ofOne, .long c_t_rows_ofOther, .long c_t_rows_second, .long c_t_rows_secondOfOne, .long c_t_rows_secondOfOther]))] H := hP.sub [0, 1, 2] rfl
        have hD9 : va_D A [(a_t, .inr (6, [.ref a_t_forms, .ref a_t_roll, .ref a_t_row, .ref a_t_rows, .ref a_t_factors, .ref a_t_found, .ref a_t_foundOtherwise, .int c_t_acts, .int c_t_refusals, .int c_t_knocks])), (a_t_forms, .inl (cyJ, 6, .inr (.inl f_t_forms))), (a_t_rows, .inr (4, [.long c_t_rows_first, .long c_t_rows_ofOne, .long c_t_rows_ofOther, .long c_t_rows_second, .long c_t_rows_secondOfOne, .long c_t_rows_secondOfOther]))] := hD.sub [0, 1, 2] (by decide) rfl
        obtain ⟨sa9, hstr9⟩ := hE.2.2 _ (show (RX7, 125, "both multipliers would go into the same form") ∈ strL from by decide +kernel)
        exact vx_throwS hx hb hfl hown (cls := "java/lang/IllegalArgumentException") (names := ["java/lang/RuntimeException", "java/lang/Exception"]) (by decide +kernel) (by decide +kernel) (hts (.classLink RX7 123 "java/lang/IllegalArgumentException") (by decide +kernel)) (hts (.initialized "java/lang/IllegalArgumentException") (by decide +kernel)) hstr9 (hat_2 (fun w hw => hts w (wsat_X7_multipliers w hw)) hE.2.1) hgood_X7_multipliers hE.1.1 hE.1.2 hS (hl.1.trans hml.symm) dX7_multipliers_17 dX7_multipliers_20 dX7_multipliers_21 dX7_multipliers_23 dX7_multipliers_26 (fun x hx => (hxt x hx).elim) (Nat.le_of_ble_eq_true rfl) (Nat.le_of_ble_eq_true rfl) (Nat.le_of_ble_eq_true rfl) (Nat.le_of_ble_eq_true rfl) hlocks (fun t hW hz hk => ⟨(), by decide, ⟨rfl, wQA_kept hP9 hD9 hk⟩, va_F_kept hS hz hk⟩) hS.2.2 (Nat.le_of_ble_eq_true rfl) (Nat.le_of_ble_eq_true rfl)

noncomputable abbrev rmX0_powerRest : Room := { frames := 3, cells := 0, slots := 0, locals := 71 }
theorem ydX0_powerRest : yX0_powerRest.cls ≠ "java/lang/invoke/MethodHandle" ∧ yX0_powerRest.cls ≠ "java/lang/invoke/VarHandle" ∧ (parseMethodDescriptor yX0_powerRest.desc).map (fun d => d.parameters.length) = some 3 := by decide +kernel
noncomputable def S_X0_powerRest_18 (z2_18 : Int32) (z3_18 : Int64) (z5_18 : Int64) (k63 : Int64 → Option (Int64)) (ih18 : Int64 → Int32 → Option (Int64)) (y7_18 : Int64) (y9_18 : Int32) : Option (Int64) :=
 (if y9_18 < 0 then
 k63 y7_18
else
 obn (F_X0_squared y7_18) (fun r25 =>
 obn (F_X0_rest r25 z3_18) (fun r29 =>
 (if ((z2_18 >>> (y9_18 &&& 31)) &&& (1 : Int32)) = (1 : Int32) then
 obn (F_X0_multiplied r29 z5_18) (fun r48 =>
 obn (F_X0_rest r48 z3_18) (fun r52 =>
 bnd (y9_18 + (-1)) (fun x9_57 =>
 ih18 r52 x9_57)))
else
 bnd (y9_18 + (-1)) (fun x9_57 =>
 ih18 r29 x9_57)))))
noncomputable def F_X0_powerRest (p0 : Int64) (p1 : Int32) (p2 : Int64) : Option (Int64) :=
 obn (F_X0_rest p0 p2) (fun r2 =>
 obn (F_X0_rest (1 : Int64) p2) (fun r9 =>
 LQ2 (S_X0_powerRest_18 p1 p2 r2 (fun y7_18_63 =>
 some y7_18_63)) 20000 r9 (7 : Int32)))
set_option maxHeartbeats 4000000 in
set_option maxRecDepth 100000 in
theorem c_X0_powerRest (l : Launch) (p0 : Int64) (p1 : Int32) (p2 : Int64) (r0 : Int64) (hF : F_X0_powerRest p0 p1 p2 = some r0) : Met l yX0_powerRest wsX0_powerRest rmX0_powerRest (va_Pc [.long p0, .int p1, .long p2] NW) (k2_QcV (.long r0)) 0 0 (fun _ => False) := by
  refine Met.ofW (cc := cX0_powerRest) (maxL := 10) (ret := (some .long)) (by decide) rfl ?_
  intro p e s m args below meth c s₁ B hml hv
  obtain ⟨rfl, hnw⟩ := hv
  have hx := B.exec
  have hb := B.bytes
  have hr := B.returns
  have hts := atoms_spec (ws := wsX0_powerRest) B.pre
  have hown : s.vm.findClass RX0 = some m.cls := findClass_of_methodNamed B.named
  have hlocks := B.notSynchronized
  have hcf : CallFix _ _ _ _ _ _ _ _ _ := ⟨hx, hb, hml, hown, hts⟩
  have hl := lv_entry ([.long p0, .int p1, .long p2]) (n := 10) (Nat.le_of_ble_eq_true rfl)
  rw [lg_entry_eq]
  generalize (lg_sl ([.long p0, .int p1, .long p2]) ++ List.replicate (10 - (lg_sl ([.long p0, .int p1, .long p2])).length) Slot.unset).toArray = ls at hl ⊢
  have hl : lv_has ls 10 [(0, .long p0), (2, .int p1), (3, .long p2)] := hl
  have h := hF
  clear hF
  unfold F_X0_powerRest at h
  refine lv_lload_n hx hb dX0_powerRest_0 rfl (lv_at hl 0 rfl) ?_
  refine lv_lload_n hx hb dX0_powerRest_1 rfl (lv_at hl 2 rfl) ?_
  obtain ⟨r2, hc2, h⟩ := obn_h h
  refine pz_callS (As := [.long p0, .long p2]) (rest := []) hcf (c_X0_rest l p0 p2 r2 hc2) (va_cwS 2 hts gX0_powerRest_X0_rest rfl rfl rfl ydX0_rest ⟨Nat.le_of_ble_eq_true rfl, Nat.le_of_ble_eq_true rfl⟩) hnw rfl hl.1 rfl (Nat.le_of_ble_eq_true rfl) dX0_powerRest_2 ⟨Nat.le_of_ble_eq_true rfl, Nat.le_of_ble_eq_true rfl⟩ ?_
  refine lv_lstore (lv' := [(5, .long r2), (0, .long p0), (2, .int p1), (3, .long p2)]) hx hb dX0_powerRest_5 hl (by decide) rfl (fun ls hl => ?_)
  refine lv_lconst (v := 1) hx hb dX0_powerRest_7 (by decide) ?_
  refine lv_lload_n hx hb dX0_powerRest_8 rfl (lv_at hl 3 rfl) ?_
  obtain ⟨r9, hc9, h⟩ := obn_h h
  refine pz_callS (As := [.long (1 : Int64), .long p2]) (rest := []) hcf (c_X0_rest l (1 : Int64) p2 r9 hc9) (va_cwS 2 hts gX0_powerRest_X0_rest rfl rfl rfl ydX0_rest ⟨Nat.le_of_ble_eq_true rfl, Nat.le_of_ble_eq_true rfl⟩) hnw rfl hl.1 rfl (Nat.le_of_ble_eq_true rfl) dX0_powerRest_9 ⟨Nat.le_of_ble_eq_true rfl, Nat.le_of_ble_eq_true rfl⟩ ?_
  refine lv_lstore (lv' := [(7, .long r9), (5, .long r2), (0, .long p0), (2, .int p1), (3, .long p2)]) hx hb dX0_powerRest_12 hl (by decide) rfl (fun ls hl => ?_)
  refine lv_bipush (v := 7) hx hb dX0_powerRest_14 (by decide) ?_
  refine lv_istore (lv' := [(9, .int (7 : Int32)), (7, .long r9), (5, .long r2), (0, .long p0), (2, .int p1), (3, .long p2)]) hx hb dX0_powerRest_16 hl (by decide) rfl (fun ls hl => ?_)
  refine LQ2_k1 (M := fun (y7_18 : Int64) (y9_18 : Int32) => ∀ (ls : Array Slot), lv_has ls 10 [(2, .int p1), (3, .long p2), (5, .long r2), (7, .long y7_18), (9, .int y9_18)] → W p l e rmX0_powerRest s m ([.long p0, .int p1, .long p2] : List Value).toArray below meth c s.heap [] 0 0 (MQ below (k2_QcV (.long r0)) ([.long p0, .int p1, .long p2] : List Value).toArray s 0 0 (fun _ => False)) (F0 m 18 ls [])) ?_ _ _ _ h ls (lv_sub hl [4, 5, 2, 1, 0] rfl)
  intro k63 hk63 ih18 hih18 y7_18 y9_18 h ls hl
  unfold S_X0_powerRest_18 at h
  refine lv_iload hx hb dX0_powerRest_18 (lv_at hl 4 rfl) ?_
  refine lv_if_lt (tgt := 63) hx hb dX0_powerRest_20 (by decide) (fun c20 => ?_) (fun c20 => ?_)
  · have h := it_ c20 h
    rw [hk63] at h
    refine lv_lload hx hb dX0_powerRest_63 (lv_at hl 3 rfl) ?_
    have e1 := Option.some.inj h
    subst e1
    exact W.lret hx hb hr (fun t ht _ => ⟨rfl, ht⟩) no_q dX0_powerRest_65
  · have h := if_ c20 h
    refine lv_lload hx hb dX0_powerRest_23 (lv_at hl 3 rfl) ?_
    obtain ⟨r25, hc25, h⟩ := obn_h h
    refine pz_callS (As := [.long y7_18]) (rest := []) hcf (c_X0_squared l y7_18 r25 hc25) (va_cwS 1 hts gX0_powerRest_X0_squared rfl rfl rfl ydX0_squared ⟨Nat.le_of_ble_eq_true rfl, Nat.le_of_ble_eq_true rfl⟩) hnw rfl hl.1 rfl (Nat.le_of_ble_eq_true rfl) dX0_powerRest_25 ⟨Nat.le_of_ble_eq_true rfl, Nat.le_of_ble_eq_true rfl⟩ ?_
    refine lv_lload_n hx hb dX0_powerRest_28 rfl (lv_at hl 1 rfl) ?_
    obtain ⟨r29, hc29, h⟩ := obn_h h
    refine pz_callS (As := [.long r25, .long p2]) (rest := []) hcf (c_X0_rest l r25 p2 r29 hc29) (va_cwS 2 hts gX0_powerRest_X0_rest rfl rfl rfl ydX0_rest ⟨Nat.le_of_ble_eq_true rfl, Nat.le_of_ble_eq_true rfl⟩) hnw rfl hl.1 rfl (Nat.le_of_ble_eq_true rfl) dX0_powerRest_29 ⟨Nat.le_of_ble_eq_true rfl, Nat.le_of_ble_eq_true rfl⟩ ?_
    refine lv_lstore (lv' := [(7, .long r29), (2, .int p1), (3, .long p2), (5, .long r2), (9, .int y9_18)]) hx hb dX0_powerRest_32 hl (by decide) rfl (fun ls hl => ?_)
    refine lv_iload_n hx hb dX0_powerRest_34 rfl (lv_at hl 1 rfl) ?_
    refine lv_iload hx hb dX0_powerRest_35 (lv_at hl 4 rfl) ?_
    refine lv_ishr hx hb dX0_powerRest_37 ?_
    refine lv_iconst (v := 1) hx hb dX0_powerRest_38 (by decide) ?_
    refine lv_iand hx hb dX0_powerRest_39 ?_
    refine lv_iconst (v := 1) hx hb dX0_powerRest_40 (by decide) ?_
    refine lv_icmp_ne (tgt := 57) hx hb dX0_powerRest_41 (by decide) (fun c41 => ?_) (fun c41 => ?_)
    · have h := if_ c41 h
      obtain ⟨x9_57, e_x9_57⟩ : ∃ z : Int32, z = y9_18 + (-1) := ⟨_, rfl⟩
      have h := bnd_h e_x9_57 h
      refine lv_iinc (v := x9_57) (lv' := [(9, .int x9_57), (7, .long r29), (2, .int p1), (3, .long p2), (5, .long r2)]) hx hb dX0_powerRest_57 hl (k := 4) rfl (by rw [e_x9_57]; rfl) (by decide) rfl (fun ls hl => ?_)
      refine lv_goto (tgt := 18) hx hb dX0_powerRest_60 (by decide) ?_
      exact hih18 r29 x9_57 h ls (lv_sub hl [2, 3, 4, 1, 0] rfl)
    · have h := it_ c41 h
      refine lv_lload hx hb dX0_powerRest_44 (lv_at hl 0 rfl) ?_
      refine lv_lload hx hb dX0_powerRest_46 (lv_at hl 3 rfl) ?_
      obtain ⟨r48, hc48, h⟩ := obn_h h
      refine pz_callS (As := [.long r29, .long r2]) (rest := []) hcf (c_X0_multiplied l r29 r2 r48 hc48) (va_cwS 2 hts gX0_powerRest_X0_multiplied rfl rfl rfl ydX0_multiplied ⟨Nat.le_of_ble_eq_true rfl, Nat.le_of_ble_eq_true rfl⟩) hnw rfl hl.1 rfl (Nat.le_of_ble_eq_true rfl) dX0_powerRest_48 ⟨Nat.le_of_ble_eq_true rfl, Nat.le_of_ble_eq_true rfl⟩ ?_
      refine lv_lload_n hx hb dX0_powerRest_51 rfl (lv_at hl 2 rfl) ?_
      obtain ⟨r52, hc52, h⟩ := obn_h h
      refine pz_callS (As := [.long r48, .long p2]) (rest := []) hcf (c_X0_rest l r48 p2 r52 hc52) (va_cwS 2 hts gX0_powerRest_X0_rest rfl rfl rfl ydX0_rest ⟨Nat.le_of_ble_eq_true rfl, Nat.le_of_ble_eq_true rfl⟩) hnw rfl hl.1 rfl (Nat.le_of_ble_eq_true rfl) dX0_powerRest_52 ⟨Nat.le_of_ble_eq_true rfl, Nat.le_of_ble_eq_true rfl⟩ ?_
      refine lv_lstore (lv' := [(7, .long r52), (2, .int p1), (3, .long p2), (5, .long r2), (9, .int y9_18)]) hx hb dX0_powerRest_55 hl (by decide) rfl (fun ls hl => ?_)
      obtain ⟨x9_57, e_x9_57⟩ : ∃ z : Int32, z = y9_18 + (-1) := ⟨_, rfl⟩
      have h := bnd_h e_x9_57 h
      refine lv_iinc (v := x9_57) (lv' := [(9, .int x9_57), (7, .long r52), (2, .int p1), (3, .long p2), (5, .long r2)]) hx hb dX0_powerRest_57 hl (k := 4) rfl (by rw [e_x9_57]; rfl) (by decide) rfl (fun ls hl => ?_)
      refine lv_goto (tgt := 18) hx hb dX0_powerRest_60 (by decide) ?_
      exact hih18 r52 x9_57 h ls (lv_sub hl [2, 3, 4, 1, 0] rfl)

noncomputable abbrev rmX7_power : Room := { frames := 10, cells := 4, slots := 24, locals := 142 }
theorem ydX7_power : yX7_power.cls = RX7 ∧ yX7_power.cls ≠ "java/lang/invoke/MethodHandle" ∧ yX7_power.cls ≠ "java/lang/invoke/VarHandle" ∧ (parseMethodDescriptor yX7_power.desc).map (fun d => d.parameters.length) = some 4 := by decide +kernel
noncomputable def F_X7_power (c_t_acts : Int32) (c_t_refusals : Int32) (f_t_forms : Nat → Int64) (p0 : Int32) (p1 : Int32) (p2 : Int32) (p3 : Int32) : Option (Nat × Int32 × Int32 × Int32 × (Nat → Int64)) :=
 obn (F_X7_testForms p0 p2 p3) (fun xc4 =>
 if xc4 = 0 then
 obn (F_X7_testRange p1 (0 : Int32) (255 : Int32)) (fun xc12 =>
 if xc12 = 0 then
 chk (¬ (p2 < 0 ∨ 6 ≤ p2.toNatClampNeg)) (
 (if (f_t_forms p2.toNatClampNeg) = (0 : Int64) then
 obn2 (F_X7_refuse c_t_refusals) (fun r41 c_t_refusals_41 =>
 some (0, r41, c_t_acts, c_t_refusals_41, f_t_forms))
else
 chk (¬ (p2 < 0 ∨ 6 ≤ p2.toNatClampNeg)) (
 obn (F_X0_degreeOf (f_t_forms p2.toNatClampNeg)) (fun r32 =>
 (if r32 ≤ (20 : Int32) then
 chk (¬ (p0 < 0 ∨ 6 ≤ p0.toNatClampNeg)) (
 chk (¬ (p2 < 0 ∨ 6 ≤ p2.toNatClampNeg)) (
 obn (F_X0_powerRest (f_t_forms p0.toNatClampNeg) p1 (f_t_forms p2.toNatClampNeg)) (fun r61 =>
 obn3 (F_X7_become c_t_acts f_t_forms p3 r61) (fun r64 c_t_acts_64 f_t_forms_64 =>
 some (0, r64, c_t_acts_64, c_t_refusals, f_t_forms_64)))))
else
 obn2 (F_X7_refuse c_t_refusals) (fun r41 c_t_refusals_41 =>
 some (0, r41, c_t_acts, c_t_refusals_41, f_t_forms)))))))
else
 some (xc12, 0, c_t_acts, c_t_refusals, f_t_forms))
else
 some (xc4, 0, c_t_acts, c_t_refusals, f_t_forms))
set_option maxHeartbeats 4000000 in
set_option maxRecDepth 100000 in
theorem c_X7_power (l : Launch) (hfl : l.stackTraces = false) (D : va_G) (cyJ : ClassId) (sz : Nat) (a_t : Nat) (a_t_forms : Nat) (a_t_roll : Nat) (a_t_row : Nat) (a_t_rows : Nat) (a_t_factors : Nat) (a_t_found : Nat) (a_t_foundOtherwise : Nat) (c_t_acts : Int32) (c_t_refusals : Int32) (c_t_knocks : Int32) (f_t_forms : Nat → Int64) (p0 : Int32) (p1 : Int32) (p2 : Int32) (p3 : Int32) (xc : Nat) (r0 : Int32) (o_c_t_acts : Int32) (o_c_t_refusals : Int32) (o_f_t_forms : Nat → Int64) (hF : F_X7_power c_t_acts c_t_refusals f_t_forms p0 p1 p2 p3 = some (xc, r0, o_c_t_acts, o_c_t_refusals, o_f_t_forms)) : vx_Met l yX7_power wsX7_power rmX7_power (va_Pc [.ref a_t, .int p0, .int p1, .int p2, .int p3] (wPX D [(cyJ, .long)] [(a_t, .inr (6, [.ref a_t_forms, .ref a_t_roll, .ref a_t_row, .ref a_t_rows, .ref a_t_factors, .ref a_t_found, .ref a_t_foundOtherwise, .int c_t_acts, .int c_t_refusals, .int c_t_knocks])), (a_t_forms, .inl (cyJ, 6, .inr (.inl f_t_forms)))] sz)) (va_Qi (fun (r : Int32) (_ : Unit) => xc = 0 ∧ r = r0) (fun _ t => wQA D [(a_t, .inr (6, [.ref a_t_forms, .ref a_t_roll, .ref a_t_row, .ref a_t_rows, .ref a_t_factors, .ref a_t_found, .ref a_t_foundOtherwise, .int o_c_t_acts, .int o_c_t_refusals, .int c_t_knocks])), (a_t_forms, .inl (cyJ, 6, .inr (.inl o_f_t_forms)))] (va_A [(a_t, .inr (6, [.ref a_t_forms, .ref a_t_roll, .ref a_t_row, .ref a_t_rows, .ref a_t_factors, .ref a_t_found, .ref a_t_foundOtherwise, .int c_t_acts, .int c_t_refusals, .int c_t_knocks])), (a_t_forms, .inl (cyJ, 6, .inr (.inl f_t_forms)))] sz) t) (va_A [(a_t, .inr (6, [.ref a_t_forms, .ref a_t_roll, .ref a_t_row, .ref a_t_rows, .ref a_t_factors, .ref a_t_found, .ref a_t_foundOtherwise, .int c_t_acts, .int c_t_refusals, .int c_t_knocks])), (a_t_forms, .inl (cyJ, 6, .inr (.inl f_t_forms)))] sz)) (vx_X (fun (_ : Unit) => ¬ xc = 0) (fun E _ t => E = xcls xc ∧ wQA D [(a_t, .inr (6, [.ref a_t_forms, .ref a_t_roll, .ref a_t_row, .ref a_t_rows, .ref a_t_factors, .ref a_t_found, .ref a_t_foundOtherwise, .int o_c_t_acts, .int o_c_t_refusals, .int c_t_knocks])), (a_t_forms, .inl (cyJ, 6, .inr (.inl o_f_t_forms)))] (va_A [(a_t, .inr (6, [.ref a_t_forms, .ref a_t_roll, .ref a_t_row, .ref a_t_rows, .ref a_t_factors, .ref a_t_found, .ref a_t_foundOtherwise, .int c_t_acts, .int c_t_refusals, .int c_t_knocks])), (a_t_forms, .inl (cyJ, 6, .inr (.inl f_t_forms)))] sz) t) (va_A [(a_t, .inr (6, [.ref a_t_forms, .ref a_t_roll, .ref a_t_row, .ref a_t_rows, .ref a_t_factors, .ref a_t_found, .ref a_t_foundOtherwise, .int c_t_acts, .int c_t_refusals, .int c_t_knocks])), (a_t_forms, .inl (cyJ, 6, .inr (.inl f_t_forms)))] sz)) 4 24 (va_A [(a_t, .inr (6, [.ref a_t_forms, .ref a_t_roll, .ref a_t_row, .ref a_t_rows, .ref a_t_factors, .ref a_t_found, .ref a_t_foundOtherwise, .int c_t_acts, .int c_t_refusals, .int c_t_knocks])), (a_t_forms, .inl (cyJ, 6, .inr (.inl f_t_forms)))] sz) := by
  refine vx_ofW (cc := cX7_power) (maxL := 5) (ret := (some .int)) (by decide) rfl ?_
  intro p e s m args below meth c s₁ B hml hxt hv
  obtain ⟨rfl, ⟨⟨hsz, hP, hK, hD0, hnw⟩, hE⟩⟩ := hv
  have hx := B.exec
  have hb := B.bytes
  have hr := B.returns
  have hts := atoms_spec (ws := wsX7_power) B.pre
  have hown : s.vm.findClass RX7 = some m.cls := findClass_of_methodNamed B.named
  have hlocks := B.notSynchronized
  have hcf : CallFix _ _ _ _ _ _ _ _ _ := ⟨hx, hb, hml, hown, hts⟩
  have hinX7 : ∀ w ∈ u_ws RX7 TX7 10, w ∈ wsX7_power := by decide +kernel
  have hfl9 := hts (.fieldLink RX7 9 "Formwheel" "forms" "[J") (by decide +kernel)
  subst hsz
  have hD := hD0.self (sz := s.heap.size)
  generalize hAe : va_A [(a_t, .inr (6, [.ref a_t_forms, .ref a_t_roll, .ref a_t_row, .ref a_t_rows, .ref a_t_factors, .ref a_t_found, .ref a_t_foundOtherwise, .int c_t_acts, .int c_t_refusals, .int c_t_knocks])), (a_t_forms, .inl (cyJ, 6, .inr (.inl f_t_forms)))] s.heap.size = A at hD hE ⊢
  have hA : ∀ q : Nat, s.heap.size ≤ q → A q := fun q h => by rw [← hAe]; exact Or.inr h
  have hS : va_S A s.heap s.heap [] := va_S.rf
  have hP : va_P D vwCl [(a_t, .inr (6, [.ref a_t_forms, .ref a_t_roll, .ref a_t_row, .ref a_t_rows, .ref a_t_factors, .ref a_t_found, .ref a_t_foundOtherwise, .int c_t_acts, .int c_t_refusals, .int c_t_knocks])), (a_t_forms, .inl (cyJ, 6, .inr (.inl f_t_forms)))] s.heap := hP
  have hK0 := hK
  have hl := lv_entry ([.ref a_t, .int p0, .int p1, .int p2, .int p3]) (n := 5) (Nat.le_of_ble_eq_true rfl)
  rw [lg_entry_eq]
  generalize (lg_sl ([.ref a_t, .int p0, .int p1, .int p2, .int p3]) ++ List.replicate (5 - (lg_sl ([.ref a_t, .int p0, .int p1, .int p2, .int p3])).length) Slot.unset).toArray = ls at hl ⊢
  have hl : lv_has ls 5 [(0, .ref a_t), (1, .int p0), (2, .int p1), (3, .int p2), (4, .int p3)] := hl
  have h := hF
  clear hF
  unfold F_X7_power at h
  refine lv_iload_n hx hb dX7_power_0 rfl (lv_at hl 1 rfl) ?_
  refine lv_iload_n hx hb dX7_power_1 rfl (lv_at hl 3 rfl) ?_
  refine lv_iload hx hb dX7_power_2 (lv_at hl 4 rfl) ?_
  obtain ⟨xc4, hc4, h⟩ := obn_h h
  have hPc := hP.sub (ws' := []) [] rfl
  have hDc := hD.sub (ws' := []) [] (by decide) rfl
  refine hx_v (w1 := []) (wr := [(a_t, .inr (6, [.ref a_t_forms, .ref a_t_roll, .ref a_t_row, .ref a_t_rows, .ref a_t_factors, .ref a_t_found, .ref a_t_foundOtherwise, .int c_t_acts, .int c_t_refusals, .int c_t_knocks])), (a_t_forms, .inl (cyJ, 6, .inr (.inl f_t_forms)))]) (vx_runS (As := [.int p0, .int p2, .int p3]) (rest := []) hcf (c_X7_testForms l hfl D cyJ s.heap.size p0 p2 p3 xc4 hc4) (va_cwS 3 hts gX7_power_X7_testForms rfl rfl rfl ydX7_testForms ⟨Nat.le_of_ble_eq_true rfl, Nat.le_of_ble_eq_true rfl⟩) ⟨bl_PX, pr_PX hPc hK0 hDc hnw hE hS (va_free hD hS hA [] rfl)⟩ rfl rfl hl.1 rfl (lv_room (Nat.le_of_ble_eq_true rfl)) dX7_power_4 ⟨Nat.le_of_ble_eq_true rfl, Nat.le_of_ble_eq_true rfl⟩) hP hD hS hA [] [0, 1] rfl rfl (by decide) (by decide) (fun E9 ce9 q9 H locs hx9 hE9 hP hD hS hce9 hcv9 hcl9 => ?_) (fun hx9 H locs hP hD hS => ?_)
  · have h := if_ hx9 h
    have hP : va_P D vwCl [(a_t, .inr (6, [.ref a_t_forms, .ref a_t_roll, .ref a_t_row, .ref a_t_rows, .ref a_t_factors, .ref a_t_found, .ref a_t_foundOtherwise, .int c_t_acts, .int c_t_refusals, .int c_t_knocks])), (a_t_forms, .inl (cyJ, 6, .inr (.inl f_t_forms)))] H := hP
    have hD : va_D A [(a_t, .inr (6, [.ref a_t_forms, .ref a_t_roll, .ref a_t_row, .ref a_t_rows, .ref a_t_factors, .ref a_t_found, .ref a_t_foundOtherwise, .int c_t_acts, .int c_t_refusals, .int c_t_knocks])), (a_t_forms, .inl (cyJ, 6, .inr (.inl f_t_forms)))] := hD
    obtain ⟨e0, e1, e2, e3, e4⟩ := tup5 h
    subst e0
    subst e1
    subst e2
    subst e3
    subst e4
    have hP9 : va_P D vwCl [(a_t, .inr (6, [.ref a_t_forms, .ref a_t_roll, .ref a_t_row, .ref a_t_rows, .ref a_t_factors, .ref a_t_found, .ref a_t_foundOtherwise, .int c_t_acts, .int c_t_refusals, .int c_t_knocks])), (a_t_forms, .inl (cyJ, 6, .inr (.inl f_t_forms)))] H := hP.sub [0, 1] rfl
    have hD9 : va_D A [(a_t, .inr (6, [.ref a_t_forms, .ref a_t_roll, .ref a_t_row, .ref a_t_rows, .ref a_t_factors, .ref a_t_found, .ref a_t_foundOtherwise, .int c_t_acts, .int c_t_refusals, .int c_t_knocks])), (a_t_forms, .inl (cyJ, 6, .inr (.inl f_t_forms)))] := hD.sub [0, 1] (by decide) rfl
    exact vx_out (fun x hx => (hxt x hx).elim) hlocks hce9 hcv9 hcl9 (fun t ht hW => ⟨(), hx9, ⟨hE9, wQA_of ht hP9 hD9⟩, hS.F ht⟩) hS.2.2 (Nat.le_of_ble_eq_true rfl) (Nat.le_of_ble_eq_true rfl)
  · have h := it_ hx9 h
    have hP : va_P D vwCl [(a_t, .inr (6, [.ref a_t_forms, .ref a_t_roll, .ref a_t_row, .ref a_t_rows, .ref a_t_factors, .ref a_t_found, .ref a_t_foundOtherwise, .int c_t_acts, .int c_t_refusals, .int c_t_knocks])), (a_t_forms, .inl (cyJ, 6, .inr (.inl f_t_forms)))] H := hP
    have hD : va_D A [(a_t, .inr (6, [.ref a_t_forms, .ref a_t_roll, .ref a_t_row, .ref a_t_rows, .ref a_t_factors, .ref a_t_found, .ref a_t_foundOtherwise, .int c_t_acts, .int c_t_refusals, .int c_t_knocks])), (a_t_forms, .inl (cyJ, 6, .inr (.inl f_t_forms)))] := hD
    refine lv_iload_n hx hb dX7_power_7 rfl (lv_at hl 2 rfl) ?_
    refine lv_iconst (v := 0) hx hb dX7_power_8 (by decide) ?_
    refine lv_sipush (v := 255) hx hb dX7_power_9 (by decide) ?_
    obtain ⟨xc12, hc12, h⟩ := obn_h h
    have hPc := hP.sub (ws' := []) [] rfl
    have hDc := hD.sub (ws' := []) [] (by decide) rfl
    refine hx_v (w1 := []) (wr := [(a_t, .inr (6, [.ref a_t_forms, .ref a_t_roll, .ref a_t_row, .ref a_t_rows, .ref a_t_factors, .ref a_t_found, .ref a_t_foundOtherwise, .int c_t_acts, .int c_t_refusals, .int c_t_knocks])), (a_t_forms, .inl (cyJ, 6, .inr (.inl f_t_forms)))]) (vx_runS (As := [.int p1, .int (0 : Int32), .int (255 : Int32)]) (rest := []) hcf (c_X7_testRange l hfl D cyJ H.size p1 (0 : Int32) (255 : Int32) xc12 hc12) (va_cwS 3 hts gX7_power_X7_testRange rfl rfl rfl ydX7_testRange ⟨Nat.le_of_ble_eq_true rfl, Nat.le_of_ble_eq_true rfl⟩) ⟨bl_PX, pr_PX hPc hK0 hDc hnw hE hS (va_free hD hS hA [] rfl)⟩ rfl rfl hl.1 rfl (lv_room (Nat.le_of_ble_eq_true rfl)) dX7_power_12 ⟨Nat.le_of_ble_eq_true rfl, Nat.le_of_ble_eq_true rfl⟩) hP hD hS hA [] [0, 1] rfl rfl (by decide) (by decide) (fun E9 ce9 q9 H locs hx9 hE9 hP hD hS hce9 hcv9 hcl9 => ?_) (fun hx9 H locs hP hD hS => ?_)
    · have h := if_ hx9 h
      have hP : va_P D vwCl [(a_t, .inr (6, [.ref a_t_forms, .ref a_t_roll, .ref a_t_row, .ref a_t_rows, .ref a_t_factors, .ref a_t_found, .ref a_t_foundOtherwise, .int c_t_acts, .int c_t_refusals, .int c_t_knocks])), (a_t_forms, .inl (cyJ, 6, .inr (.inl f_t_forms)))] H := hP
      have hD : va_D A [(a_t, .inr (6, [.ref a_t_forms, .ref a_t_roll, .ref a_t_row, .ref a_t_rows, .ref a_t_factors, .ref a_t_found, .ref a_t_foundOtherwise, .int c_t_acts, .int c_t_refusals, .int c_t_knocks])), (a_t_forms, .inl (cyJ, 6, .inr (.inl f_t_forms)))] := hD
      obtain ⟨e0, e1, e2, e3, e4⟩ := tup5 h
      subst e0
      subst e1
      subst e2
      subst e3
      subst e4
      have hP9 : va_P D vwCl [(a_t, .inr (6, [.ref a_t_forms, .ref a_t_roll, .ref a_t_row, .ref a_t_rows, .ref a_t_factors, .ref a_t_found, .ref a_t_foundOtherwise, .int c_t_acts, .int c_t_refusals, .int c_t_knocks])), (a_t_forms, .inl (cyJ, 6, .inr (.inl f_t_forms)))] H := hP.sub [0, 1] rfl
      have hD9 : va_D A [(a_t, .inr (6, [.ref a_t_forms, .ref a_t_roll, .ref a_t_row, .ref a_t_rows, .ref a_t_factors, .ref a_t_found, .ref a_t_foundOtherwise, .int c_t_acts, .int c_t_refusals, .int c_t_knocks])), (a_t_forms, .inl (cyJ, 6, .inr (.inl f_t_forms)))] := hD.sub [0, 1] (by decide) rfl
      exact vx_out (fun x hx => (hxt x hx).elim) hlocks hce9 hcv9 hcl9 (fun t ht hW => ⟨(), hx9, ⟨hE9, wQA_of ht hP9 hD9⟩, hS.F ht⟩) hS.2.2 (Nat.le_of_ble_eq_true rfl) (Nat.le_of_ble_eq_true rfl)
    · have h := it_ hx9 h
      have hP : va_P D vwCl [(a_t, .inr (6, [.ref a_t_forms, .ref a_t_roll, .ref a_t_row, .ref a_t_rows, .ref a_t_factors, .ref a_t_found, .ref a_t_foundOtherwise, .int c_t_acts, .int c_t_refusals, .int c_t_knocks])), (a_t_forms, .inl (cyJ, 6, .inr (.inl f_t_forms)))] H := hP
      have hD : va_D A [(a_t, .inr (6, [.ref a_t_forms, .ref a_t_roll, .ref a_t_row, .ref a_t_rows, .ref a_t_factors, .ref a_t_found, .ref a_t_foundOtherwise, .int c_t_acts, .int c_t_refusals, .int c_t_knocks])), (a_t_forms, .inl (cyJ, 6, .inr (.inl f_t_forms)))] := hD
      refine lv_aload_n hx hb dX7_power_15 rfl (lv_at hl 0 rfl) ?_
      refine va_get (D := D) (ci := 6) (v := .ref a_t_forms) (C := RX7) (T := TX7) (N := 10) hx hb hts hinX7 hown hK hP 0 rfl rfl 0 (by decide) hfl9 (fun _ h9 => h9) rfl dX7_power_16 ?_
      refine lv_iload_n hx hb dX7_power_19 rfl (lv_at hl 3 rfl) ?_
      obtain ⟨hq20, h⟩ := chk_h h
      refine va_lald hx hb hK hP 1 0 rfl rfl hq20 dX7_power_20 ?_
      refine lv_lconst (v := 0) hx hb dX7_power_21 (by decide) ?_
      refine W.lcmp hx hb dX7_power_22 ?_
      refine lv_if_eq (tgt := 40) hx hb dX7_power_23 (by decide) (fun c23 => ?_) (fun c23 => ?_)
      · have c23 := (lg_cmp_eq _ _).mp c23
        have h := it_ c23 h
        refine lv_aload_n hx hb dX7_power_40 rfl (lv_at hl 0 rfl) ?_
        obtain ⟨r41, c_t_refusals_41, hc41, h⟩ := obn2_h h
        have hPc := hP.sub (ws' := [(a_t, .inr (6, [.ref a_t_forms, .ref a_t_roll, .ref a_t_row, .ref a_t_rows, .ref a_t_factors, .ref a_t_found, .ref a_t_foundOtherwise, .int c_t_acts, .int c_t_refusals, .int c_t_knocks]))]) [0] rfl
        have hDc := hD.sub (ws' := [(a_t, .inr (6, [.ref a_t_forms, .ref a_t_roll, .ref a_t_row, .ref a_t_rows, .ref a_t_factors, .ref a_t_found, .ref a_t_foundOtherwise, .int c_t_acts, .int c_t_refusals, .int c_t_knocks]))]) [0] (by decide) rfl
        refine hp_i (w1 := [(a_t, .inr (6, [.ref a_t_forms, .ref a_t_roll, .ref a_t_row, .ref a_t_rows, .ref a_t_factors, .ref a_t_found, .ref a_t_foundOtherwise, .int c_t_acts, .int c_t_refusals_41, .int c_t_knocks]))]) (wr := [(a_t_forms, .inl (cyJ, 6, .inr (.inl f_t_forms)))]) (va_runV (As := []) (rest := []) hcf (c_X7_refuse l D cyJ H.size a_t a_t_forms a_t_roll a_t_row a_t_rows a_t_factors a_t_found a_t_foundOtherwise c_t_acts c_t_refusals c_t_knocks r41 c_t_refusals_41 hc41) (cwV 0 hts gX7_power_X7_refuse rfl rfl rfl ydX7_refuse ⟨Nat.le_of_ble_eq_true rfl, Nat.le_of_ble_eq_true rfl⟩) ⟨bl_PD, va_recv hK hP (ci := 6) (q0 := 0) rfl rfl, pr_PD hPc hK0 hDc hnw⟩ rfl rfl hl.1 rfl (lv_room (Nat.le_of_ble_eq_true rfl)) dX7_power_41 ⟨Nat.le_of_ble_eq_true rfl, Nat.le_of_ble_eq_true rfl⟩) hP hD hS hA [0] [1] rfl rfl (by decide) (by decide) (fun H locs hP hD hS => ?_)
        have hP : va_P D vwCl [(a_t_forms, .inl (cyJ, 6, .inr (.inl f_t_forms))), (a_t, .inr (6, [.ref a_t_forms, .ref a_t_roll, .ref a_t_row, .ref a_t_rows, .ref a_t_factors, .ref a_t_found, .ref a_t_foundOtherwise, .int c_t_acts, .int c_t_refusals_41, .int c_t_knocks]))] H := hP
        have hD : va_D A [(a_t_forms, .inl (cyJ, 6, .inr (.inl f_t_forms))), (a_t, .inr (6, [.ref a_t_forms, .ref a_t_roll, .ref a_t_row, .ref a_t_rows, .ref a_t_factors, .ref a_t_found, .ref a_t_foundOtherwise, .int c_t_acts, .int c_t_refusals_41, .int c_t_knocks]))] := hD
        obtain ⟨e0, e1, e2, e3, e4⟩ := tup5 h
        subst e0
        subst e1
        subst e2
        subst e3
        subst e4
        have hP9 : va_P D vwCl [(a_t, .inr (6, [.ref a_t_forms, .ref a_t_roll, .ref a_t_row, .ref a_t_rows, .ref a_t_factors, .ref a_t_found, .ref a_t_foundOtherwise, .int c_t_acts, .int c_t_refusals_41, .int c_t_knocks])), (a_t_forms, .inl (cyJ, 6, .inr (.inl f_t_forms)))] H := hP.sub [1, 0] rfl
        have hD9 : va_D A [(a_t, .inr (6, [.ref a_t_forms, .ref a_t_roll, .ref a_t_row, .ref a_t_rows, .ref a_t_factors, .ref a_t_found, .ref a_t_foundOtherwise, .int c_t_acts, .int c_t_refusals_41, .int c_t_knocks])), (a_t_forms, .inl (cyJ, 6, .inr (.inl f_t_forms)))] := hD.sub [1, 0] (by decide) rfl
        refine vx_ret ?_
        exact W.iret hx hb hr (fun t ht hW => ⟨⟨_, (), rfl, ⟨rfl, rfl⟩, wQA_of ht hP9 hD9⟩, hS.F ht⟩) hS.2.2 dX7_power_44
      · have c23 := fun z => c23 ((lg_cmp_eq _ _).mpr z)
        have h := if_ c23 h
        refine lv_aload_n hx hb dX7_power_26 rfl (lv_at hl 0 rfl) ?_
        refine va_get (D := D) (ci := 6) (v := .ref a_t_forms) (C := RX7) (T := TX7) (N := 10) hx hb hts hinX7 hown hK hP 0 rfl rfl 0 (by decide) hfl9 (fun _ h9 => h9) rfl dX7_power_27 ?_
        refine lv_iload_n hx hb dX7_power_30 rfl (lv_at hl 3 rfl) ?_
        obtain ⟨hq31, h⟩ := chk_h h
        refine va_lald hx hb hK hP 1 0 rfl rfl hq31 dX7_power_31 ?_
        obtain ⟨r32, hc32, h⟩ := obn_h h
        refine pz_callS (As := [.long (f_t_forms p2.toNatClampNeg)]) (rest := []) hcf (c_X0_degreeOf l (f_t_forms p2.toNatClampNeg) r32 hc32) (va_cwS 1 hts gX7_power_X0_degreeOf rfl rfl rfl ydX0_degreeOf ⟨Nat.le_of_ble_eq_true rfl, Nat.le_of_ble_eq_true rfl⟩) hnw rfl hl.1 rfl (Nat.le_of_ble_eq_true rfl) dX7_power_32 ⟨Nat.le_of_ble_eq_true rfl, Nat.le_of_ble_eq_true rfl⟩ ?_
        refine lv_bipush (v := 20) hx hb dX7_power_35 (by decide) ?_
        refine lv_icmp_le (tgt := 45) hx hb dX7_power_37 (by decide) (fun c37 => ?_) (fun c37 => ?_)
        · have h := it_ c37 h
          refine lv_aload_n hx hb dX7_power_45 rfl (lv_at hl 0 rfl) ?_
          refine lv_iload hx hb dX7_power_46 (lv_at hl 4 rfl) ?_
          refine lv_aload_n hx hb dX7_power_48 rfl (lv_at hl 0 rfl) ?_
          refine va_get (D := D) (ci := 6) (v := .ref a_t_forms) (C := RX7) (T := TX7) (N := 10) hx hb hts hinX7 hown hK hP 0 rfl rfl 0 (by decide) hfl9 (fun _ h9 => h9) rfl dX7_power_49 ?_
          refine lv_iload_n hx hb dX7_power_52 rfl (lv_at hl 1 rfl) ?_
          obtain ⟨hq53, h⟩ := chk_h h
          refine va_lald hx hb hK hP 1 0 rfl rfl hq53 dX7_power_53 ?_
          refine lv_iload_n hx hb dX7_power_54 rfl (lv_at hl 2 rfl) ?_
          refine lv_aload_n hx hb dX7_power_55 rfl (lv_at hl 0 rfl) ?_
          refine va_get (D := D) (ci := 6) (v := .ref a_t_forms) (C := RX7) (T := TX7) (N := 10) hx hb hts hinX7 hown hK hP 0 rfl rfl 0 (by decide) hfl9 (fun _ h9 => h9) rfl dX7_power_56 ?_
          refine lv_iload_n hx hb dX7_power_59 rfl (lv_at hl 3 rfl) ?_
          obtain ⟨hq60, h⟩ := chk_h h
          refine va_lald hx hb hK hP 1 0 rfl rfl hq60 dX7_power_60 ?_
          obtain ⟨r61, hc61, h⟩ := obn_h h
          refine pz_callS (As := [.long (f_t_forms p0.toNatClampNeg), .int p1, .long (f_t_forms p2.toNatClampNeg)]) (rest := [.int p3, .ref a_t]) hcf (c_X0_powerRest l (f_t_forms p0.toNatClampNeg) p1 (f_t_forms p2.toNatClampNeg) r61 hc61) (va_cwS 3 hts gX7_power_X0_powerRest rfl rfl rfl ydX0_powerRest ⟨Nat.le_of_ble_eq_true rfl, Nat.le_of_ble_eq_true rfl⟩) hnw rfl hl.1 rfl (Nat.le_of_ble_eq_true rfl) dX7_power_61 ⟨Nat.le_of_ble_eq_true rfl, Nat.le_of_ble_eq_true rfl⟩ ?_
          obtain ⟨r64, c_t_acts_64, f_t_forms_64, hc64, h⟩ := obn3_h h
          have hPc := hP.sub (ws' := [(a_t, .inr (6, [.ref a_t_forms, .ref a_t_roll, .ref a_t_row, .ref a_t_rows, .ref a_t_factors, .ref a_t_found, .ref a_t_foundOtherwise, .int c_t_acts, .int c_t_refusals, .int c_t_knocks])), (a_t_forms, .inl (cyJ, 6, .inr (.inl f_t_forms)))]) [0, 1] rfl
          have hDc := hD.sub (ws' := [(a_t, .inr (6, [.ref a_t_forms, .ref a_t_roll, .ref a_t_row, .ref a_t_rows, .ref a_t_factors, .ref a_t_found, .ref a_t_foundOtherwise, .int c_t_acts, .int c_t_refusals, .int c_t_knocks])), (a_t_forms, .inl (cyJ, 6, .inr (.inl f_t_forms)))]) [0, 1] (by decide) rfl
          refine hp_i (w1 := [(a_t, .inr (6, [.ref a_t_forms, .ref a_t_roll, .ref a_t_row, .ref a_t_rows, .ref a_t_factors, .ref a_t_found, .ref a_t_foundOtherwise, .int c_t_acts_64, .int c_t_refusals, .int c_t_knocks])), (a_t_forms, .inl (cyJ, 6, .inr (.inl f_t_forms_64)))]) (wr := []) (va_runV (As := [.int p3, .long r61]) (rest := []) hcf (c_X7_become l D cyJ H.size a_t a_t_forms a_t_roll a_t_row a_t_rows a_t_factors a_t_found a_t_foundOtherwise c_t_acts c_t_refusals c_t_knocks f_t_forms p3 r61 r64 c_t_acts_64 f_t_forms_64 hc64) (cwV 2 hts gX7_power_X7_become rfl rfl rfl ydX7_become ⟨Nat.le_of_ble_eq_true rfl, Nat.le_of_ble_eq_true rfl⟩) ⟨bl_PD, va_recv hK hP (ci := 6) (q0 := 0) rfl rfl, pr_PD hPc hK0 hDc hnw⟩ rfl rfl hl.1 rfl (lv_room (Nat.le_of_ble_eq_true rfl)) dX7_power_64 ⟨Nat.le_of_ble_eq_true rfl, Nat.le_of_ble_eq_true rfl⟩) hP hD hS hA [0, 1] [] rfl rfl (by decide) (by decide) (fun H locs hP hD hS => ?_)
          have hP : va_P D vwCl [(a_t, .inr (6, [.ref a_t_forms, .ref a_t_roll, .ref a_t_row, .ref a_t_rows, .ref a_t_factors, .ref a_t_found, .ref a_t_foundOtherwise, .int c_t_acts_64, .int c_t_refusals, .int c_t_knocks])), (a_t_forms, .inl (cyJ, 6, .inr (.inl f_t_forms_64)))] H := hP
          have hD : va_D A [(a_t, .inr (6, [.ref a_t_forms, .ref a_t_roll, .ref a_t_row, .ref a_t_rows, .ref a_t_factors, .ref a_t_found, .ref a_t_foundOtherwise, .int c_t_acts_64, .int c_t_refusals, .int c_t_knocks])), (a_t_forms, .inl (cyJ, 6, .inr (.inl f_t_forms_64)))] := hD
          obtain ⟨e0, e1, e2, e3, e4⟩ := tup5 h
          subst e0
          subst e1
          subst e2
          subst e3
          subst e4
          have hP9 : va_P D vwCl [(a_t, .inr (6, [.ref a_t_forms, .ref a_t_roll, .ref a_t_row, .ref a_t_rows, .ref a_t_factors, .ref a_t_found, .ref a_t_foundOtherwise, .int c_t_acts_64, .int c_t_refusals, .int c_t_knocks])), (a_t_forms, .inl (cyJ, 6, .inr (.inl f_t_forms_64)))] H := hP.sub [0, 1] rfl
          have hD9 : va_D A [(a_t, .inr (6, [.ref a_t_forms, .ref a_t_roll, .ref a_t_row, .ref a_t_rows, .ref a_t_factors, .ref a_t_found, .ref a_t_foundOtherwise, .int c_t_acts_64, .int c_t_refusals, .int c_t_knocks])), (a_t_forms, .inl (cyJ, 6, .inr (.inl f_t_forms_64)))] := hD.sub [0, 1] (by decide) rfl
          refine vx_ret ?_
          exact W.iret hx hb hr (fun t ht hW => ⟨⟨_, (), rfl, ⟨rfl, rfl⟩, wQA_of ht hP9 hD9⟩, hS.F ht⟩) hS.2.2 dX7_power_67
        · have h := if_ c37 h
          refine lv_aload_n hx hb dX7_power_40 rfl (lv_at hl 0 rfl) ?_
          obtain ⟨r41, c_t_refusals_41, hc41, h⟩ := obn2_h h
          have hPc := hP.sub (ws' := [(a_t, .inr (6, [.ref a_t_forms, .ref a_t_roll, .ref a_t_row, .ref a_t_rows, .ref a_t_factors, .ref a_t_found, .ref a_t_foundOtherwise, .int c_t_acts, .int c_t_refusals, .int c_t_knocks]))]) [0] rfl
          have hDc := hD.sub (ws' := [(a_t, .inr (6, [.ref a_t_forms, .ref a_t_roll, .ref a_t_row, .ref a_t_rows, .ref a_t_factors, .ref a_t_found, .ref a_t_foundOtherwise, .int c_t_acts, .int c_t_refusals, .int c_t_knocks]))]) [0] (by decide) rfl
          refine hp_i (w1 := [(a_t, .inr (6, [.ref a_t_forms, .ref a_t_roll, .ref a_t_row, .ref a_t_rows, .ref a_t_factors, .ref a_t_found, .ref a_t_foundOtherwise, .int c_t_acts, .int c_t_refusals_41, .int c_t_knocks]))]) (wr := [(a_t_forms, .inl (cyJ, 6, .inr (.inl f_t_forms)))]) (va_runV (As := []) (rest := []) hcf (c_X7_refuse l D cyJ H.size a_t a_t_forms a_t_roll a_t_row a_t_rows a_t_factors a_t_found a_t_foundOtherwise c_t_acts c_t_refusals c_t_knocks r41 c_t_refusals_41 hc41) (cwV 0 hts gX7_power_X7_refuse rfl rfl rfl ydX7_refuse ⟨Nat.le_of_ble_eq_true rfl, Nat.le_of_ble_eq_true rfl⟩) ⟨bl_PD, va_recv hK hP (ci := 6) (q0 := 0) rfl rfl, pr_PD hPc hK0 hDc hnw⟩ rfl rfl hl.1 rfl (lv_room (Nat.le_of_ble_eq_true rfl)) dX7_power_41 ⟨Nat.le_of_ble_eq_true rfl, Nat.le_of_ble_eq_true rfl⟩) hP hD hS hA [0] [1] rfl rfl (by decide) (by decide) (fun H locs hP hD hS => ?_)
          have hP : va_P D vwCl [(a_t_forms, .inl (cyJ, 6, .inr (.inl f_t_forms))), (a_t, .inr (6, [.ref a_t_forms, .ref a_t_roll, .ref a_t_row, .ref a_t_rows, .ref a_t_factors, .ref a_t_found, .ref a_t_foundOtherwise, .int c_t_acts, .int c_t_refusals_41, .int c_t_knocks]))] H := hP
          have hD : va_D A [(a_t_forms, .inl (cyJ, 6, .inr (.inl f_t_forms))), (a_t, .inr (6, [.ref a_t_forms, .ref a_t_roll, .ref a_t_row, .ref a_t_rows, .ref a_t_factors, .ref a_t_found, .ref a_t_foundOtherwise, .int c_t_acts, .int c_t_refusals_41, .int c_t_knocks]))] := hD
          obtain ⟨e0, e1, e2, e3, e4⟩ := tup5 h
          subst e0
          subst e1
          subst e2
          subst e3
          subst e4
          have hP9 : va_P D vwCl [(a_t, .inr (6, [.ref a_t_forms, .ref a_t_roll, .ref a_t_row, .ref a_t_rows, .ref a_t_factors, .ref a_t_found, .ref a_t_foundOtherwise, .int c_t_acts, .int c_t_refusals_41, .int c_t_knocks])), (a_t_forms, .inl (cyJ, 6, .inr (.inl f_t_forms)))] H := hP.sub [1, 0] rfl
          have hD9 : va_D A [(a_t, .inr (6, [.ref a_t_forms, .ref a_t_roll, .ref a_t_row, .ref a_t_rows, .ref a_t_factors, .ref a_t_found, .ref a_t_foundOtherwise, .int c_t_acts, .int c_t_refusals_41, .int c_t_knocks])), (a_t_forms, .inl (cyJ, 6, .inr (.inl f_t_forms)))] := hD.sub [1, 0] (by decide) rfl
          refine vx_ret ?_
          exact W.iret hx hb hr (fun t ht hW => ⟨⟨_, (), rfl, ⟨rfl, rfl⟩, wQA_of ht hP9 hD9⟩, hS.F ht⟩) hS.2.2 dX7_power_44

noncomputable abbrev rmX0_goesInto : Room := { frames := 3, cells := 0, slots := 0, locals := 71 }
theorem ydX0_goesInto : yX0_goesInto.cls ≠ "java/lang/invoke/MethodHandle" ∧ yX0_goesInto.cls ≠ "java/lang/invoke/VarHandle" ∧ (parseMethodDescriptor yX0_goesInto.desc).map (fun d => d.parameters.length) = some 2 := by decide +kernel
noncomputable def F_X0_goesInto (p0 : Int64) (p1 : Int64) : Option (Int32) :=
 obn (F_X0_rest p1 p0) (fun r2 =>
 (if r2 = (0 : Int64) then
 some (1 : Int32)
else
 some (0 : Int32)))
set_option maxHeartbeats 4000000 in
set_option maxRecDepth 100000 in
theorem c_X0_goesInto (l : Launch) (p0 : Int64) (p1 : Int64) (r0 : Int32) (hF : F_X0_goesInto p0 p1 = some r0) : Met l yX0_goesInto wsX0_goesInto rmX0_goesInto (va_Pc [.long p0, .long p1] NW) (k2_QcV (.int r0)) 0 0 (fun _ => False) := by
  refine Met.ofW (cc := cX0_goesInto) (maxL := 4) (ret := (some .boolean)) (by decide) rfl ?_
  intro p e s m args below meth c s₁ B hml hv
  obtain ⟨rfl, hnw⟩ := hv
  have hx := B.exec
  have hb := B.bytes
  have hr := B.returns
  have hts := atoms_spec (ws := wsX0_goesInto) B.pre
  have hown : s.vm.findClass RX0 = some m.cls := findClass_of_methodNamed B.named
  have hlocks := B.notSynchronized
  have hcf : CallFix _ _ _ _ _ _ _ _ _ := ⟨hx, hb, hml, hown, hts⟩
  have hl := lv_entry ([.long p0, .long p1]) (n := 4) (Nat.le_of_ble_eq_true rfl)
  rw [lg_entry_eq]
  generalize (lg_sl ([.long p0, .long p1]) ++ List.replicate (4 - (lg_sl ([.long p0, .long p1])).length) Slot.unset).toArray = ls at hl ⊢
  have hl : lv_has ls 4 [(0, .long p0), (2, .long p1)] := hl
  have h := hF
  clear hF
  unfold F_X0_goesInto at h
  refine lv_lload_n hx hb dX0_goesInto_0 rfl (lv_at hl 1 rfl) ?_
  refine lv_lload_n hx hb dX0_goesInto_1 rfl (lv_at hl 0 rfl) ?_
  obtain ⟨r2, hc2, h⟩ := obn_h h
  refine pz_callS (As := [.long p1, .long p0]) (rest := []) hcf (c_X0_rest l p1 p0 r2 hc2) (va_cwS 2 hts gX0_goesInto_X0_rest rfl rfl rfl ydX0_rest ⟨Nat.le_of_ble_eq_true rfl, Nat.le_of_ble_eq_true rfl⟩) hnw rfl hl.1 rfl (Nat.le_of_ble_eq_true rfl) dX0_goesInto_2 ⟨Nat.le_of_ble_eq_true rfl, Nat.le_of_ble_eq_true rfl⟩ ?_
  refine lv_lconst (v := 0) hx hb dX0_goesInto_5 (by decide) ?_
  refine W.lcmp hx hb dX0_goesInto_6 ?_
  refine lv_if_ne (tgt := 14) hx hb dX0_goesInto_7 (by decide) (fun c7 => ?_) (fun c7 => ?_)
  · have c7 := fun z => c7 ((lg_cmp_eq _ _).mpr z)
    have h := if_ c7 h
    refine lv_iconst (v := 0) hx hb dX0_goesInto_14 (by decide) ?_
    have e1 := Option.some.inj h
    subst e1
    exact W.zret hx hb hr narrow_b0 (fun t ht _ => ⟨rfl, ht⟩) no_q dX0_goesInto_15
  · have c7 := (lg_cmp_eq _ _).mp c7
    have h := it_ c7 h
    refine lv_iconst (v := 1) hx hb dX0_goesInto_10 (by decide) ?_
    refine lv_goto (tgt := 15) hx hb dX0_goesInto_11 (by decide) ?_
    have e1 := Option.some.inj h
    subst e1
    exact W.zret hx hb hr narrow_b1 (fun t ht _ => ⟨rfl, ht⟩) no_q dX0_goesInto_15

noncomputable abbrev rmX2_isByTrying : Room := { frames := 4, cells := 0, slots := 0, locals := 94 }
theorem ydX2_isByTrying : yX2_isByTrying.cls ≠ "java/lang/invoke/MethodHandle" ∧ yX2_isByTrying.cls ≠ "java/lang/invoke/VarHandle" ∧ (parseMethodDescriptor yX2_isByTrying.desc).map (fun d => d.parameters.length) = some 1 := by decide +kernel
noncomputable def S_X2_isByTrying_25 (z0_25 : Int64) (z3_25 : Int64) (k41 : Unit → Option (Int32)) (k52 : Unit → Option (Int32)) (ih25 : Int64 → Option (Int32)) (y5_25 : Int64) : Option (Int32) :=
 (if z3_25 ≤ y5_25 then
 k52 ()
else
 obn (F_X0_goesInto y5_25 z0_25) (fun r35 =>
 (if r35 = 0 then
 bnd (y5_25 + (1 : Int64)) (fun x5_47 =>
 ih25 x5_47)
else
 k41 ())))
noncomputable def F_X2_isByTrying (p0 : Int64) : Option (Int32) :=
 obn (F_X0_degreeOf p0) (fun r1 =>
 (if (1 : Int32) ≤ r1 then
 bnd ((2 : Int64) <<< ((r1 / (2 : Int32)).toInt64 &&& 63)) (fun x3_19 =>
 LQ1 (S_X2_isByTrying_25 p0 x3_19 (fun _ =>
 some (0 : Int32)) (fun _ =>
 some (1 : Int32))) 20000 (2 : Int64))
else
 some (0 : Int32)))
set_option maxHeartbeats 4000000 in
set_option maxRecDepth 100000 in
theorem c_X2_isByTrying (l : Launch) (p0 : Int64) (r0 : Int32) (hF : F_X2_isByTrying p0 = some r0) : Met l yX2_isByTrying wsX2_isByTrying rmX2_isByTrying (va_Pc [.long p0] NW) (k2_QcV (.int r0)) 0 0 (fun _ => False) := by
  refine Met.ofW (cc := cX2_isByTrying) (maxL := 7) (ret := (some .boolean)) (by decide) rfl ?_
  intro p e s m args below meth c s₁ B hml hv
  obtain ⟨rfl, hnw⟩ := hv
  have hx := B.exec
  have hb := B.bytes
  have hr := B.returns
  have hts := atoms_spec (ws := wsX2_isByTrying) B.pre
  have hown : s.vm.findClass RX2 = some m.cls := findClass_of_methodNamed B.named
  have hlocks := B.notSynchronized
  have hcf : CallFix _ _ _ _ _ _ _ _ _ := ⟨hx, hb, hml, hown, hts⟩
  have hl := lv_entry ([.long p0]) (n := 7) (Nat.le_of_ble_eq_true rfl)
  rw [lg_entry_eq]
  generalize (lg_sl ([.long p0]) ++ List.replicate (7 - (lg_sl ([.long p0])).length) Slot.unset).toArray = ls at hl ⊢
  have hl : lv_has ls 7 [(0, .long p0)] := hl
  have h := hF
  clear hF
  unfold F_X2_isByTrying at h
  refine lv_lload_n hx hb dX2_isByTrying_0 rfl (lv_at hl 0 rfl) ?_
  obtain ⟨r1, hc1, h⟩ := obn_h h
  refine pz_callS (As := [.long p0]) (rest := []) hcf (c_X0_degreeOf l p0 r1 hc1) (va_cwS 1 hts gX2_isByTrying_X0_degreeOf rfl rfl rfl ydX0_degreeOf ⟨Nat.le_of_ble_eq_true rfl, Nat.le_of_ble_eq_true rfl⟩) hnw rfl hl.1 rfl (Nat.le_of_ble_eq_true rfl) dX2_isByTrying_1 ⟨Nat.le_of_ble_eq_true rfl, Nat.le_of_ble_eq_true rfl⟩ ?_
  refine lv_istore_n (lv' := [(2, .int r1), (0, .long p0)]) hx hb dX2_isByTrying_4 rfl hl (by decide) rfl (fun ls hl => ?_)
  refine lv_iload_n hx hb dX2_isByTrying_5 rfl (lv_at hl 0 rfl) ?_
  refine lv_iconst (v := 1) hx hb dX2_isByTrying_6 (by decide) ?_
  refine lv_icmp_ge (tgt := 12) hx hb dX2_isByTrying_7 (by decide) (fun c7 => ?_) (fun c7 => ?_)
  · have h := it_ c7 h
    refine lv_ldc2 hx hb hown (hts (.constantLong RX2 15 (2)) (by decide +kernel)) dX2_isByTrying_12 ?_
    refine lv_iload_n hx hb dX2_isByTrying_15 rfl (lv_at hl 0 rfl) ?_
    refine lv_iconst (v := 2) hx hb dX2_isByTrying_16 (by decide) ?_
    refine lv_idiv hx hb dX2_isByTrying_17 (by decide) ?_
    refine lv_lshl (v := (2 : Int64) <<< ((r1 / (2 : Int32)).toInt64 &&& 63)) hx hb dX2_isByTrying_18 rfl ?_
    refine lv_topl (fun x3_19 e_x3_19 => ?_)
    have h := bnd_h e_x3_19 h
    refine lv_lstore_n (lv' := [(3, .long x3_19), (2, .int r1), (0, .long p0)]) hx hb dX2_isByTrying_19 rfl hl (by decide) rfl (fun ls hl => ?_)
    refine lv_ldc2 hx hb hown (hts (.constantLong RX2 15 (2)) (by decide +kernel)) dX2_isByTrying_20 ?_
    refine lv_lstore (lv' := [(5, .long (2 : Int64)), (3, .long x3_19), (2, .int r1), (0, .long p0)]) hx hb dX2_isByTrying_23 hl (by decide) rfl (fun ls hl => ?_)
    refine LQ1_k2 (M := fun (y5_25 : Int64) => ∀ (ls : Array Slot), lv_has ls 7 [(0, .long p0), (3, .long x3_19), (5, .long y5_25)] → W p l e rmX2_isByTrying s m ([.long p0] : List Value).toArray below meth c s.heap [] 0 0 (MQ below (k2_QcV (.int r0)) ([.long p0] : List Value).toArray s 0 0 (fun _ => False)) (F0 m 25 ls [])) ?_ _ _ h ls (lv_sub hl [3, 1, 0] rfl)
    intro k41 hk41 k52 hk52 ih25 hih25 y5_25 h ls hl
    unfold S_X2_isByTrying_25 at h
    refine lv_lload hx hb dX2_isByTrying_25 (lv_at hl 2 rfl) ?_
    refine lv_lload_n hx hb dX2_isByTrying_27 rfl (lv_at hl 1 rfl) ?_
    refine W.lcmp hx hb dX2_isByTrying_28 ?_
    refine lv_if_ge (tgt := 52) hx hb dX2_isByTrying_29 (by decide) (fun c29 => ?_) (fun c29 => ?_)
    · have c29 := (lg_cmp_ge _ _).mp c29
      have h := it_ c29 h
      rw [hk52] at h
      refine lv_iconst (v := 1) hx hb dX2_isByTrying_52 (by decide) ?_
      have e1 := Option.some.inj h
      subst e1
      exact W.zret hx hb hr narrow_b1 (fun t ht _ => ⟨rfl, ht⟩) no_q dX2_isByTrying_53
    · have c29 := fun z => c29 ((lg_cmp_ge _ _).mpr z)
      have h := if_ c29 h
      refine lv_lload hx hb dX2_isByTrying_32 (lv_at hl 2 rfl) ?_
      refine lv_lload_n hx hb dX2_isByTrying_34 rfl (lv_at hl 0 rfl) ?_
      obtain ⟨r35, hc35, h⟩ := obn_h h
      refine pz_callS (As := [.long y5_25, .long p0]) (rest := []) hcf (c_X0_goesInto l y5_25 p0 r35 hc35) (va_cwS 2 hts gX2_isByTrying_X0_goesInto rfl rfl rfl ydX0_goesInto ⟨Nat.le_of_ble_eq_true rfl, Nat.le_of_ble_eq_true rfl⟩) hnw rfl hl.1 rfl (Nat.le_of_ble_eq_true rfl) dX2_isByTrying_35 ⟨Nat.le_of_ble_eq_true rfl, Nat.le_of_ble_eq_true rfl⟩ ?_
      refine lv_if_eq (tgt := 43) hx hb dX2_isByTrying_38 (by decide) (fun c38 => ?_) (fun c38 => ?_)
      · have h := it_ c38 h
        refine lv_lload hx hb dX2_isByTrying_43 (lv_at hl 2 rfl) ?_
        refine lv_lconst (v := 1) hx hb dX2_isByTrying_45 (by decide) ?_
        refine lv_ladd hx hb dX2_isByTrying_46 ?_
        refine lv_topl (fun x5_47 e_x5_47 => ?_)
        have h := bnd_h e_x5_47 h
        refine lv_lstore (lv' := [(5, .long x5_47), (0, .long p0), (3, .long x3_19)]) hx hb dX2_isByTrying_47 hl (by decide) rfl (fun ls hl => ?_)
        refine lv_goto (tgt := 25) hx hb dX2_isByTrying_49 (by decide) ?_
        exact hih25 x5_47 h ls (lv_sub hl [1, 2, 0] rfl)
      · have h := if_ c38 h
        rw [hk41] at h
        refine lv_iconst (v := 0) hx hb dX2_isByTrying_41 (by decide) ?_
        have e1 := Option.some.inj h
        subst e1
        exact W.zret hx hb hr narrow_b0 (fun t ht _ => ⟨rfl, ht⟩) no_q dX2_isByTrying_42
  · have h := if_ c7 h
    refine lv_iconst (v := 0) hx hb dX2_isByTrying_10 (by decide) ?_
    have e1 := Option.some.inj h
    subst e1
    exact W.zret hx hb hr narrow_b0 (fun t ht _ => ⟨rfl, ht⟩) no_q dX2_isByTrying_11

noncomputable abbrev rmX2_productOfDegree : Room := { frames := 5, cells := 0, slots := 0, locals := 120 }
theorem ydX2_productOfDegree : yX2_productOfDegree.cls ≠ "java/lang/invoke/MethodHandle" ∧ yX2_productOfDegree.cls ≠ "java/lang/invoke/VarHandle" ∧ (parseMethodDescriptor yX2_productOfDegree.desc).map (fun d => d.parameters.length) = some 1 := by decide +kernel
noncomputable def S_X2_productOfDegree_6 (z0_6 : Int32) (k36 : Int64 → Option (Int64)) (ih6 : Int64 → Int64 → Option (Int64)) (y1_6 : Int64) (y3_6 : Int64) : Option (Int64) :=
 (if ((2 : Int64) <<< (z0_6.toInt64 &&& 63)) ≤ y3_6 then
 k36 y1_6
else
 obn (F_X2_isByTrying y3_6) (fun r17 =>
 (if r17 = 0 then
 bnd (y3_6 + (1 : Int64)) (fun x3_32 =>
 ih6 y1_6 x3_32)
else
 obn (F_X0_multiplied y1_6 y3_6) (fun r25 =>
 bnd (y3_6 + (1 : Int64)) (fun x3_32 =>
 ih6 r25 x3_32)))))
noncomputable def F_X2_productOfDegree (p0 : Int32) : Option (Int64) :=
 bnd ((1 : Int64) <<< (p0.toInt64 &&& 63)) (fun x3_5 =>
 LQ2 (S_X2_productOfDegree_6 p0 (fun y1_6_36 =>
 some y1_6_36)) 20000 (1 : Int64) x3_5)
set_option maxHeartbeats 4000000 in
set_option maxRecDepth 100000 in
theorem c_X2_productOfDegree (l : Launch) (p0 : Int32) (r0 : Int64) (hF : F_X2_productOfDegree p0 = some r0) : Met l yX2_productOfDegree wsX2_productOfDegree rmX2_productOfDegree (va_Pc [.int p0] NW) (k2_QcV (.long r0)) 0 0 (fun _ => False) := by
  refine Met.ofW (cc := cX2_productOfDegree) (maxL := 5) (ret := (some .long)) (by decide) rfl ?_
  intro p e s m args below meth c s₁ B hml hv
  obtain ⟨rfl, hnw⟩ := hv
  have hx := B.exec
  have hb := B.bytes
  have hr := B.returns
  have hts := atoms_spec (ws := wsX2_productOfDegree) B.pre
  have hown : s.vm.findClass RX2 = some m.cls := findClass_of_methodNamed B.named
  have hlocks := B.notSynchronized
  have hcf : CallFix _ _ _ _ _ _ _ _ _ := ⟨hx, hb, hml, hown, hts⟩
  have hl := lv_entry ([.int p0]) (n := 5) (Nat.le_of_ble_eq_true rfl)
  rw [lg_entry_eq]
  generalize (lg_sl ([.int p0]) ++ List.replicate (5 - (lg_sl ([.int p0])).length) Slot.unset).toArray = ls at hl ⊢
  have hl : lv_has ls 5 [(0, .int p0)] := hl
  have h := hF
  clear hF
  unfold F_X2_productOfDegree at h
  refine lv_lconst (v := 1) hx hb dX2_productOfDegree_0 (by decide) ?_
  refine lv_lstore_n (lv' := [(1, .long (1 : Int64)), (0, .int p0)]) hx hb dX2_productOfDegree_1 rfl hl (by decide) rfl (fun ls hl => ?_)
  refine lv_lconst (v := 1) hx hb dX2_productOfDegree_2 (by decide) ?_
  refine lv_iload_n hx hb dX2_productOfDegree_3 rfl (lv_at hl 1 rfl) ?_
  refine lv_lshl (v := (1 : Int64) <<< (p0.toInt64 &&& 63)) hx hb dX2_productOfDegree_4 rfl ?_
  refine lv_topl (fun x3_5 e_x3_5 => ?_)
  have h := bnd_h e_x3_5 h
  refine lv_lstore_n (lv' := [(3, .long x3_5), (1, .long (1 : Int64)), (0, .int p0)]) hx hb dX2_productOfDegree_5 rfl hl (by decide) rfl (fun ls hl => ?_)
  refine LQ2_k1 (M := fun (y1_6 : Int64) (y3_6 : Int64) => ∀ (ls : Array Slot), lv_has ls 5 [(0, .int p0), (1, .long y1_6), (3, .long y3_6)] → W p l e rmX2_productOfDegree s m ([.int p0] : List Value).toArray below meth c s.heap [] 0 0 (MQ below (k2_QcV (.long r0)) ([.int p0] : List Value).toArray s 0 0 (fun _ => False)) (F0 m 6 ls [])) ?_ _ _ _ h ls (lv_sub hl [2, 1, 0] rfl)
  intro k36 hk36 ih6 hih6 y1_6 y3_6 h ls hl
  unfold S_X2_productOfDegree_6 at h
  refine lv_lload_n hx hb dX2_productOfDegree_6 rfl (lv_at hl 2 rfl) ?_
  refine lv_ldc2 hx hb hown (hts (.constantLong RX2 15 (2)) (by decide +kernel)) dX2_productOfDegree_7 ?_
  refine lv_iload_n hx hb dX2_productOfDegree_10 rfl (lv_at hl 0 rfl) ?_
  refine lv_lshl (v := (2 : Int64) <<< (p0.toInt64 &&& 63)) hx hb dX2_productOfDegree_11 rfl ?_
  refine W.lcmp hx hb dX2_productOfDegree_12 ?_
  refine lv_if_ge (tgt := 36) hx hb dX2_productOfDegree_13 (by decide) (fun c13 => ?_) (fun c13 => ?_)
  · have c13 := (lg_cmp_ge _ _).mp c13
    have h := it_ c13 h
    rw [hk36] at h
    refine lv_lload_n hx hb dX2_productOfDegree_36 rfl (lv_at hl 1 rfl) ?_
    have e1 := Option.some.inj h
    subst e1
    exact W.lret hx hb hr (fun t ht _ => ⟨rfl, ht⟩) no_q dX2_productOfDegree_37
  · have c13 := fun z => c13 ((lg_cmp_ge _ _).mpr z)
    have h := if_ c13 h
    refine lv_lload_n hx hb dX2_productOfDegree_16 rfl (lv_at hl 2 rfl) ?_
    obtain ⟨r17, hc17, h⟩ := obn_h h
    refine pz_callS (As := [.long y3_6]) (rest := []) hcf (c_X2_isByTrying l y3_6 r17 hc17) (va_cwS 1 hts gX2_productOfDegree_X2_isByTrying rfl rfl rfl ydX2_isByTrying ⟨Nat.le_of_ble_eq_true rfl, Nat.le_of_ble_eq_true rfl⟩) hnw rfl hl.1 rfl (Nat.le_of_ble_eq_true rfl) dX2_productOfDegree_17 ⟨Nat.le_of_ble_eq_true rfl, Nat.le_of_ble_eq_true rfl⟩ ?_
    refine lv_if_eq (tgt := 29) hx hb dX2_productOfDegree_20 (by decide) (fun c20 => ?_) (fun c20 => ?_)
    · have h := it_ c20 h
      refine lv_lload_n hx hb dX2_productOfDegree_29 rfl (lv_at hl 2 rfl) ?_
      refine lv_lconst (v := 1) hx hb dX2_productOfDegree_30 (by decide) ?_
      refine lv_ladd hx hb dX2_productOfDegree_31 ?_
      refine lv_topl (fun x3_32 e_x3_32 => ?_)
      have h := bnd_h e_x3_32 h
      refine lv_lstore_n (lv' := [(3, .long x3_32), (0, .int p0), (1, .long y1_6)]) hx hb dX2_productOfDegree_32 rfl hl (by decide) rfl (fun ls hl => ?_)
      refine lv_goto (tgt := 6) hx hb dX2_productOfDegree_33 (by decide) ?_
      exact hih6 y1_6 x3_32 h ls (lv_sub hl [1, 2, 0] rfl)
    · have h := if_ c20 h
      refine lv_lload_n hx hb dX2_productOfDegree_23 rfl (lv_at hl 1 rfl) ?_
      refine lv_lload_n hx hb dX2_productOfDegree_24 rfl (lv_at hl 2 rfl) ?_
      obtain ⟨r25, hc25, h⟩ := obn_h h
      refine pz_callS (As := [.long y1_6, .long y3_6]) (rest := []) hcf (c_X0_multiplied l y1_6 y3_6 r25 hc25) (va_cwS 2 hts gX2_productOfDegree_X0_multiplied rfl rfl rfl ydX0_multiplied ⟨Nat.le_of_ble_eq_true rfl, Nat.le_of_ble_eq_true rfl⟩) hnw rfl hl.1 rfl (Nat.le_of_ble_eq_true rfl) dX2_productOfDegree_25 ⟨Nat.le_of_ble_eq_true rfl, Nat.le_of_ble_eq_true rfl⟩ ?_
      refine lv_lstore_n (lv' := [(1, .long r25), (0, .int p0), (3, .long y3_6)]) hx hb dX2_productOfDegree_28 rfl hl (by decide) rfl (fun ls hl => ?_)
      refine lv_lload_n hx hb dX2_productOfDegree_29 rfl (lv_at hl 2 rfl) ?_
      refine lv_lconst (v := 1) hx hb dX2_productOfDegree_30 (by decide) ?_
      refine lv_ladd hx hb dX2_productOfDegree_31 ?_
      refine lv_topl (fun x3_32 e_x3_32 => ?_)
      have h := bnd_h e_x3_32 h
      refine lv_lstore_n (lv' := [(3, .long x3_32), (1, .long r25), (0, .int p0)]) hx hb dX2_productOfDegree_32 rfl hl (by decide) rfl (fun ls hl => ?_)
      refine lv_goto (tgt := 6) hx hb dX2_productOfDegree_33 (by decide) ?_
      exact hih6 r25 x3_32 h ls (lv_sub hl [2, 1, 0] rfl)

noncomputable abbrev rmX2_productOfAll : Room := { frames := 6, cells := 0, slots := 0, locals := 144 }
theorem ydX2_productOfAll : yX2_productOfAll.cls ≠ "java/lang/invoke/MethodHandle" ∧ yX2_productOfAll.cls ≠ "java/lang/invoke/VarHandle" ∧ (parseMethodDescriptor yX2_productOfAll.desc).map (fun d => d.parameters.length) = some 1 := by decide +kernel
noncomputable def S_X2_productOfAll_4 (z0_4 : Int32) (k30 : Int64 → Option (Int64)) (ih4 : Int64 → Int32 → Option (Int64)) (y1_4 : Int64) (y3_4 : Int32) : Option (Int64) :=
 (if z0_4 < y3_4 then
 k30 y1_4
else
 chk (¬ y3_4 = 0) (
 (if (z0_4 - z0_4 / y3_4 * y3_4) = 0 then
 obn (F_X2_productOfDegree y3_4) (fun r17 =>
 obn (F_X0_multiplied y1_4 r17) (fun r20 =>
 bnd (y3_4 + 1) (fun x3_24 =>
 ih4 r20 x3_24)))
else
 bnd (y3_4 + 1) (fun x3_24 =>
 ih4 y1_4 x3_24))))
noncomputable def F_X2_productOfAll (p0 : Int32) : Option (Int64) :=
 LQ2 (S_X2_productOfAll_4 p0 (fun y1_4_30 =>
 some y1_4_30)) 20000 (1 : Int64) (1 : Int32)
set_option maxHeartbeats 4000000 in
set_option maxRecDepth 100000 in
theorem c_X2_productOfAll (l : Launch) (p0 : Int32) (r0 : Int64) (hF : F_X2_productOfAll p0 = some r0) : Met l yX2_productOfAll wsX2_productOfAll rmX2_productOfAll (va_Pc [.int p0] NW) (k2_QcV (.long r0)) 0 0 (fun _ => False) := by
  refine Met.ofW (cc := cX2_productOfAll) (maxL := 4) (ret := (some .long)) (by decide) rfl ?_
  intro p e s m args below meth c s₁ B hml hv
  obtain ⟨rfl, hnw⟩ := hv
  have hx := B.exec
  have hb := B.bytes
  have hr := B.returns
  have hts := atoms_spec (ws := wsX2_productOfAll) B.pre
  have hown : s.vm.findClass RX2 = some m.cls := findClass_of_methodNamed B.named
  have hlocks := B.notSynchronized
  have hcf : CallFix _ _ _ _ _ _ _ _ _ := ⟨hx, hb, hml, hown, hts⟩
  have hl := lv_entry ([.int p0]) (n := 4) (Nat.le_of_ble_eq_true rfl)
  rw [lg_entry_eq]
  generalize (lg_sl ([.int p0]) ++ List.replicate (4 - (lg_sl ([.int p0])).length) Slot.unset).toArray = ls at hl ⊢
  have hl : lv_has ls 4 [(0, .int p0)] := hl
  have h := hF
  clear hF
  unfold F_X2_productOfAll at h
  refine lv_lconst (v := 1) hx hb dX2_productOfAll_0 (by decide) ?_
  refine lv_lstore_n (lv' := [(1, .long (1 : Int64)), (0, .int p0)]) hx hb dX2_productOfAll_1 rfl hl (by decide) rfl (fun ls hl => ?_)
  refine lv_iconst (v := 1) hx hb dX2_productOfAll_2 (by decide) ?_
  refine lv_istore_n (lv' := [(3, .int (1 : Int32)), (1, .long (1 : Int64)), (0, .int p0)]) hx hb dX2_productOfAll_3 rfl hl (by decide) rfl (fun ls hl => ?_)
  refine LQ2_k1 (M := fun (y1_4 : Int64) (y3_4 : Int32) => ∀ (ls : Array Slot), lv_has ls 4 [(0, .int p0), (1, .long y1_4), (3, .int y3_4)] → W p l e rmX2_productOfAll s m ([.int p0] : List Value).toArray below meth c s.heap [] 0 0 (MQ below (k2_QcV (.long r0)) ([.int p0] : List Value).toArray s 0 0 (fun _ => False)) (F0 m 4 ls [])) ?_ _ _ _ h ls (lv_sub hl [2, 1, 0] rfl)
  intro k30 hk30 ih4 hih4 y1_4 y3_4 h ls hl
  unfold S_X2_productOfAll_4 at h
  refine lv_iload_n hx hb dX2_productOfAll_4 rfl (lv_at hl 2 rfl) ?_
  refine lv_iload_n hx hb dX2_productOfAll_5 rfl (lv_at hl 0 rfl) ?_
  refine lv_icmp_gt (tgt := 30) hx hb dX2_productOfAll_6 (by decide) (fun c6 => ?_) (fun c6 => ?_)
  · have h := it_ c6 h
    rw [hk30] at h
    refine lv_lload_n hx hb dX2_productOfAll_30 rfl (lv_at hl 1 rfl) ?_
    have e1 := Option.some.inj h
    subst e1
    exact W.lret hx hb hr (fun t ht _ => ⟨rfl, ht⟩) no_q dX2_productOfAll_31
  · have h := if_ c6 h
    refine lv_iload_n hx hb dX2_productOfAll_9 rfl (lv_at hl 0 rfl) ?_
    refine lv_iload_n hx hb dX2_productOfAll_10 rfl (lv_at hl 2 rfl) ?_
    obtain ⟨hq11, h⟩ := chk_h h
    refine lv_irem hx hb dX2_productOfAll_11 hq11 ?_
    refine lv_if_ne (tgt := 24) hx hb dX2_productOfAll_12 (by decide) (fun c12 => ?_) (fun c12 => ?_)
    · have h := if_ c12 h
      obtain ⟨x3_24, e_x3_24⟩ : ∃ z : Int32, z = y3_4 + 1 := ⟨_, rfl⟩
      have h := bnd_h e_x3_24 h
      refine lv_iinc (v := x3_24) (lv' := [(3, .int x3_24), (0, .int p0), (1, .long y1_4)]) hx hb dX2_productOfAll_24 hl (k := 2) rfl (by rw [e_x3_24]; rfl) (by decide) rfl (fun ls hl => ?_)
      refine lv_goto (tgt := 4) hx hb dX2_productOfAll_27 (by decide) ?_
      exact hih4 y1_4 x3_24 h ls (lv_sub hl [1, 2, 0] rfl)
    · have h := it_ c12 h
      refine lv_lload_n hx hb dX2_productOfAll_15 rfl (lv_at hl 1 rfl) ?_
      refine lv_iload_n hx hb dX2_productOfAll_16 rfl (lv_at hl 2 rfl) ?_
      obtain ⟨r17, hc17, h⟩ := obn_h h
      refine pz_callS (As := [.int y3_4]) (rest := [.long y1_4]) hcf (c_X2_productOfDegree l y3_4 r17 hc17) (va_cwS 1 hts gX2_productOfAll_X2_productOfDegree rfl rfl rfl ydX2_productOfDegree ⟨Nat.le_of_ble_eq_true rfl, Nat.le_of_ble_eq_true rfl⟩) hnw rfl hl.1 rfl (Nat.le_of_ble_eq_true rfl) dX2_productOfAll_17 ⟨Nat.le_of_ble_eq_true rfl, Nat.le_of_ble_eq_true rfl⟩ ?_
      obtain ⟨r20, hc20, h⟩ := obn_h h
      refine pz_callS (As := [.long y1_4, .long r17]) (rest := []) hcf (c_X0_multiplied l y1_4 r17 r20 hc20) (va_cwS 2 hts gX2_productOfAll_X0_multiplied rfl rfl rfl ydX0_multiplied ⟨Nat.le_of_ble_eq_true rfl, Nat.le_of_ble_eq_true rfl⟩) hnw rfl hl.1 rfl (Nat.le_of_ble_eq_true rfl) dX2_productOfAll_20 ⟨Nat.le_of_ble_eq_true rfl, Nat.le_of_ble_eq_true rfl⟩ ?_
      refine lv_lstore_n (lv' := [(1, .long r20), (0, .int p0), (3, .int y3_4)]) hx hb dX2_productOfAll_23 rfl hl (by decide) rfl (fun ls hl => ?_)
      obtain ⟨x3_24, e_x3_24⟩ : ∃ z : Int32, z = y3_4 + 1 := ⟨_, rfl⟩
      have h := bnd_h e_x3_24 h
      refine lv_iinc (v := x3_24) (lv' := [(3, .int x3_24), (1, .long r20), (0, .int p0)]) hx hb dX2_productOfAll_24 hl (k := 2) rfl (by rw [e_x3_24]; rfl) (by decide) rfl (fun ls hl => ?_)
      refine lv_goto (tgt := 4) hx hb dX2_productOfAll_27 (by decide) ?_
      exact hih4 r20 x3_24 h ls (lv_sub hl [2, 1, 0] rfl)
