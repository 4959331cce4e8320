noncomputable abbrev rmX7_enroll : Room := { frames := 9, cells := 1, slots := 6, locals := 120 }
theorem ydX7_enroll : yX7_enroll.cls = RX7 ∧ yX7_enroll.cls ≠ "java/lang/invoke/MethodHandle" ∧ yX7_enroll.cls ≠ "java/lang/invoke/VarHandle" ∧ (parseMethodDescriptor yX7_enroll.desc).map (fun d => d.parameters.length) = some 1 := by decide +kernel
noncomputable def F_X7_enroll (c_t_acts : Int32) (c_t_refusals : Int32) (f_t_forms : Nat → Int64) (c_t_roll_size : Int32) (f_t_roll_held : Nat → Int64) (p0 : Int32) : Option (Nat × Int32 × Int32 × Int32 × Int32 × (Nat → Int64)) :=
 obn (F_X7_testForm p0) (fun xc1 =>
 if xc1 = 0 then
 (if c_t_roll_size < (12 : Int32) then
 chk (¬ (p0 < 0 ∨ 6 ≤ p0.toNatClampNeg)) (
 obn2 (F_X3_append c_t_roll_size f_t_roll_held (f_t_forms p0.toNatClampNeg)) (fun c_t_roll_size_31 f_t_roll_held_31 =>
 obn2 (F_X7_done c_t_acts c_t_roll_size_31) (fun r42 c_t_acts_42 =>
 some (0, r42, c_t_acts_42, c_t_refusals, c_t_roll_size_31, f_t_roll_held_31))))
else
 obn2 (F_X7_refuse c_t_refusals) (fun r17 c_t_refusals_17 =>
 some (0, r17, c_t_acts, c_t_refusals_17, c_t_roll_size, f_t_roll_held)))
else
 some (xc1, 0, c_t_acts, c_t_refusals, c_t_roll_size, f_t_roll_held))
set_option maxHeartbeats 4000000 in
set_option maxRecDepth 100000 in
theorem c_X7_enroll (l : Launch) (hfl : l.stackTraces = false) (D : va_G) (cyJ : ClassId) (sz : Nat) (a_t : Nat) (a_t_forms : Nat) (a_t_roll : Nat) (a_t_row : Nat) (a_t_rows : Nat) (a_t_factors : Nat) (a_t_found : Nat) (a_t_foundOtherwise : Nat) (a_t_roll_held : Nat) (a_t_roll_before : Nat) (c_t_acts : Int32) (c_t_refusals : Int32) (c_t_knocks : Int32) (f_t_forms : Nat → Int64) (c_t_roll_size : Int32) (f_t_roll_held : Nat → Int64) (p0 : Int32) (xc : Nat) (r0 : Int32) (o_c_t_acts : Int32) (o_c_t_refusals : Int32) (o_c_t_roll_size : Int32) (o_f_t_roll_held : Nat → Int64) (hF : F_X7_enroll c_t_acts c_t_refusals f_t_forms c_t_roll_size f_t_roll_held p0 = some (xc, r0, o_c_t_acts, o_c_t_refusals, o_c_t_roll_size, o_f_t_roll_held)) : vx_Met l yX7_enroll wsX7_enroll rmX7_enroll (va_Pc [.ref a_t, .int p0] (wPX D [(cyJ, .long)] [(a_t, .inr (6, [.ref a_t_forms, .ref a_t_roll, .ref a_t_row, .ref a_t_rows, .ref a_t_factors, .ref a_t_found, .ref a_t_foundOtherwise, .int c_t_acts, .int c_t_refusals, .int c_t_knocks])), (a_t_forms, .inl (cyJ, 6, .inr (.inl f_t_forms))), (a_t_roll, .inr (3, [.ref a_t_roll_held, .ref a_t_roll_before, .int c_t_roll_size])), (a_t_roll_held, .inl (cyJ, 12, .inr (.inl f_t_roll_held)))] sz)) (va_Qi (fun (r : Int32) (_ : Unit) => xc = 0 ∧ r = r0) (fun _ t => wQA D [(a_t, .inr (6, [.ref a_t_forms, .ref a_t_roll, .ref a_t_row, .ref a_t_rows, .ref a_t_factors, .ref a_t_found, .ref a_t_foundOtherwise, .int o_c_t_acts, .int o_c_t_refusals, .int c_t_knocks])), (a_t_forms, .inl (cyJ, 6, .inr (.inl f_t_forms))), (a_t_roll, .inr (3, [.ref a_t_roll_held, .ref a_t_roll_before, .int o_c_t_roll_size])), (a_t_roll_held, .inl (cyJ, 12, .inr (.inl o_f_t_roll_held)))] (va_A [(a_t, .inr (6, [.ref a_t_forms, .ref a_t_roll, .ref a_t_row, .ref a_t_rows, .ref a_t_factors, .ref a_t_found, .ref a_t_foundOtherwise, .int c_t_acts, .int c_t_refusals, .int c_t_knocks])), (a_t_forms, .inl (cyJ, 6, .inr (.inl f_t_forms))), (a_t_roll, .inr (3, [.ref a_t_roll_held, .ref a_t_roll_before, .int c_t_roll_size])), (a_t_roll_held, .inl (cyJ, 12, .inr (.inl f_t_roll_held)))] sz) t) (va_A [(a_t, .inr (6, [.ref a_t_forms, .ref a_t_roll, .ref a_t_row, .ref a_t_rows, .ref a_t_factors, .ref a_t_found, .ref a_t_foundOtherwise, .int c_t_acts, .int c_t_refusals, .int c_t_knocks])), (a_t_forms, .inl (cyJ, 6, .inr (.inl f_t_forms))), (a_t_roll, .inr (3, [.ref a_t_roll_held, .ref a_t_roll_before, .int c_t_roll_size])), (a_t_roll_held, .inl (cyJ, 12, .inr (.inl f_t_roll_held)))] sz)) (vx_X (fun (_ : Unit) => ¬ xc = 0) (fun E _ t => E = xcls xc ∧ wQA D [(a_t, .inr (6, [.ref a_t_forms, .ref a_t_roll, .ref a_t_row, .ref a_t_rows, .ref a_t_factors, .ref a_t_found, .ref a_t_foundOtherwise, .int o_c_t_acts, .int o_c_t_refusals, .int c_t_knocks])), (a_t_forms, .inl (cyJ, 6, .inr (.inl f_t_forms))), (a_t_roll, .inr (3, [.ref a_t_roll_held, .ref a_t_roll_before, .int o_c_t_roll_size])), (a_t_roll_held, .inl (cyJ, 12, .inr (.inl o_f_t_roll_held)))] (va_A [(a_t, .inr (6, [.ref a_t_forms, .ref a_t_roll, .ref a_t_row, .ref a_t_rows, .ref a_t_factors, .ref a_t_found, .ref a_t_foundOtherwise, .int c_t_acts, .int c_t_refusals, .int c_t_knocks])), (a_t_forms, .inl (cyJ, 6, .inr (.inl f_t_forms))), (a_t_roll, .inr (3, [.ref a_t_roll_held, .ref a_t_roll_before, .int c_t_roll_size])), (a_t_roll_held, .inl (cyJ, 12, .inr (.inl f_t_roll_held)))] sz) t) (va_A [(a_t, .inr (6, [.ref a_t_forms, .ref a_t_roll, .ref a_t_row, .ref a_t_rows, .ref a_t_factors, .ref a_t_found, .ref a_t_foundOtherwise, .int c_t_acts, .int c_t_refusals, .int c_t_knocks])), (a_t_forms, .inl (cyJ, 6, .inr (.inl f_t_forms))), (a_t_roll, .inr (3, [.ref a_t_roll_held, .ref a_t_roll_before, .int c_t_roll_size])), (a_t_roll_held, .inl (cyJ, 12, .inr (.inl f_t_roll_held)))] sz)) 1 6 (va_A [(a_t, .inr (6, [.ref a_t_forms, .ref a_t_roll, .ref a_t_row, .ref a_t_rows, .ref a_t_factors, .ref a_t_found, .ref a_t_foundOtherwise, .int c_t_acts, .int c_t_refusals, .int c_t_knocks])), (a_t_forms, .inl (cyJ, 6, .inr (.inl f_t_forms))), (a_t_roll, .inr (3, [.ref a_t_roll_held, .ref a_t_roll_before, .int c_t_roll_size])), (a_t_roll_held, .inl (cyJ, 12, .inr (.inl f_t_roll_held)))] sz) := by
  refine vx_ofW (cc := cX7_enroll) (maxL := 2) (ret := (some .int)) (by decide) rfl ?_
  intro p e s m args below meth c s₁ B hml hxt hv
  obtain ⟨rfl, ⟨⟨hsz, hP, hK, hD0, hnw⟩, hE⟩⟩ := hv
  have hx := B.exec
  have hb := B.bytes
  have hr := B.returns
  have hts := atoms_spec (ws := wsX7_enroll) B.pre
  have hown : s.vm.findClass RX7 = some m.cls := findClass_of_methodNamed B.named
  have hlocks := B.notSynchronized
  have hcf : CallFix _ _ _ _ _ _ _ _ _ := ⟨hx, hb, hml, hown, hts⟩
  have hinX7 : ∀ w ∈ u_ws RX7 TX7 10, w ∈ wsX7_enroll := by decide +kernel
  have hfl16 := hts (.fieldLink RX7 16 "Formwheel" "roll" "LFormwheel$Roll;") (by decide +kernel)
  have hinX3 : ∀ w ∈ u_ws RX3 TX3 3, w ∈ wsX7_enroll := by decide +kernel
  have hfl176 := hnw.use (A := ([.ref a_t, .int p0] : List Value).toArray) (w := .fieldLinkNest RX7 176 "Formwheel$Roll" "size" "I" "Formwheel") (by decide +kernel)
  have hfl9 := hts (.fieldLink RX7 9 "Formwheel" "forms" "[J") (by decide +kernel)
  subst hsz
  have hD := hD0.self (sz := s.heap.size)
  generalize hAe : va_A [(a_t, .inr (6, [.ref a_t_forms, .ref a_t_roll, .ref a_t_row, .ref a_t_rows, .ref a_t_factors, .ref a_t_found, .ref a_t_foundOtherwise, .int c_t_acts, .int c_t_refusals, .int c_t_knocks])), (a_t_forms, .inl (cyJ, 6, .inr (.inl f_t_forms))), (a_t_roll, .inr (3, [.ref a_t_roll_held, .ref a_t_roll_before, .int c_t_roll_size])), (a_t_roll_held, .inl (cyJ, 12, .inr (.inl f_t_roll_held)))] s.heap.size = A at hD hE ⊢
  have hA : ∀ q : Nat, s.heap.size ≤ q → A q := fun q h => by rw [← hAe]; exact Or.inr h
  have hS : va_S A s.heap s.heap [] := va_S.rf
  have hP : va_P D vwCl [(a_t, .inr (6, [.ref a_t_forms, .ref a_t_roll, .ref a_t_row, .ref a_t_rows, .ref a_t_factors, .ref a_t_found, .ref a_t_foundOtherwise, .int c_t_acts, .int c_t_refusals, .int c_t_knocks])), (a_t_forms, .inl (cyJ, 6, .inr (.inl f_t_forms))), (a_t_roll, .inr (3, [.ref a_t_roll_held, .ref a_t_roll_before, .int c_t_roll_size])), (a_t_roll_held, .inl (cyJ, 12, .inr (.inl f_t_roll_held)))] s.heap := hP
  have hK0 := hK
  have hl := lv_entry ([.ref a_t, .int p0]) (n := 2) (Nat.le_of_ble_eq_true rfl)
  rw [lg_entry_eq]
  generalize (lg_sl ([.ref a_t, .int p0]) ++ List.replicate (2 - (lg_sl ([.ref a_t, .int p0])).length) Slot.unset).toArray = ls at hl ⊢
  have hl : lv_has ls 2 [(0, .ref a_t), (1, .int p0)] := hl
  have h := hF
  clear hF
  unfold F_X7_enroll at h
  refine lv_iload_n hx hb dX7_enroll_0 rfl (lv_at hl 1 rfl) ?_
  obtain ⟨xc1, hc1, h⟩ := obn_h h
  have hPc := hP.sub (ws' := []) [] rfl
  have hDc := hD.sub (ws' := []) [] (by decide) rfl
  refine hx_v (w1 := []) (wr := [(a_t, .inr (6, [.ref a_t_forms, .ref a_t_roll, .ref a_t_row, .ref a_t_rows, .ref a_t_factors, .ref a_t_found, .ref a_t_foundOtherwise, .int c_t_acts, .int c_t_refusals, .int c_t_knocks])), (a_t_forms, .inl (cyJ, 6, .inr (.inl f_t_forms))), (a_t_roll, .inr (3, [.ref a_t_roll_held, .ref a_t_roll_before, .int c_t_roll_size])), (a_t_roll_held, .inl (cyJ, 12, .inr (.inl f_t_roll_held)))]) (vx_runS (As := [.int p0]) (rest := []) hcf (c_X7_testForm l hfl D cyJ s.heap.size p0 xc1 hc1) (va_cwS 1 hts gX7_enroll_X7_testForm rfl rfl rfl ydX7_testForm ⟨Nat.le_of_ble_eq_true rfl, Nat.le_of_ble_eq_true rfl⟩) ⟨bl_PX, pr_PX hPc hK0 hDc hnw hE hS (va_free hD hS hA [] rfl)⟩ rfl rfl hl.1 rfl (lv_room (Nat.le_of_ble_eq_true rfl)) dX7_enroll_1 ⟨Nat.le_of_ble_eq_true rfl, Nat.le_of_ble_eq_true rfl⟩) hP hD hS hA [] [0, 1, 2, 3] rfl rfl (by decide) (by decide) (fun E9 ce9 q9 H locs hx9 hE9 hP hD hS hce9 hcv9 hcl9 => ?_) (fun hx9 H locs hP hD hS => ?_)
  · have h := if_ hx9 h
    have hP : va_P D vwCl [(a_t, .inr (6, [.ref a_t_forms, .ref a_t_roll, .ref a_t_row, .ref a_t_rows, .ref a_t_factors, .ref a_t_found, .ref a_t_foundOtherwise, .int c_t_acts, .int c_t_refusals, .int c_t_knocks])), (a_t_forms, .inl (cyJ, 6, .inr (.inl f_t_forms))), (a_t_roll, .inr (3, [.ref a_t_roll_held, .ref a_t_roll_before, .int c_t_roll_size])), (a_t_roll_held, .inl (cyJ, 12, .inr (.inl f_t_roll_held)))] H := hP
    have hD : va_D A [(a_t, .inr (6, [.ref a_t_forms, .ref a_t_roll, .ref a_t_row, .ref a_t_rows, .ref a_t_factors, .ref a_t_found, .ref a_t_foundOtherwise, .int c_t_acts, .int c_t_refusals, .int c_t_knocks])), (a_t_forms, .inl (cyJ, 6, .inr (.inl f_t_forms))), (a_t_roll, .inr (3, [.ref a_t_roll_held, .ref a_t_roll_before, .int c_t_roll_size])), (a_t_roll_held, .inl (cyJ, 12, .inr (.inl f_t_roll_held)))] := hD
    obtain ⟨e0, e1, e2, e3, e4, e5⟩ := tup6 h
    subst e0
    subst e1
    subst e2
    subst e3
    subst e4
    subst e5
    have hP9 : va_P D vwCl [(a_t, .inr (6, [.ref a_t_forms, .ref a_t_roll, .ref a_t_row, .ref a_t_rows, .ref a_t_factors, .ref a_t_found, .ref a_t_foundOtherwise, .int c_t_acts, .int c_t_refusals, .int c_t_knocks])), (a_t_forms, .inl (cyJ, 6, .inr (.inl f_t_forms))), (a_t_roll, .inr (3, [.ref a_t_roll_held, .ref a_t_roll_before, .int c_t_roll_size])), (a_t_roll_held, .inl (cyJ, 12, .inr (.inl f_t_roll_held)))] H := hP.sub [0, 1, 2, 3] rfl
    have hD9 : va_D A [(a_t, .inr (6, [.ref a_t_forms, .ref a_t_roll, .ref a_t_row, .ref a_t_rows, .ref a_t_factors, .ref a_t_found, .ref a_t_foundOtherwise, .int c_t_acts, .int c_t_refusals, .int c_t_knocks])), (a_t_forms, .inl (cyJ, 6, .inr (.inl f_t_forms))), (a_t_roll, .inr (3, [.ref a_t_roll_held, .ref a_t_roll_before, .int c_t_roll_size])), (a_t_roll_held, .inl (cyJ, 12, .inr (.inl f_t_roll_held)))] := hD.sub [0, 1, 2, 3] (by decide) rfl
    exact vx_out (fun x hx => (hxt x hx).elim) hlocks hce9 hcv9 hcl9 (fun t ht hW => ⟨(), hx9, ⟨hE9, wQA_of ht hP9 hD9⟩, hS.F ht⟩) hS.2.2 (Nat.le_of_ble_eq_true rfl) (Nat.le_of_ble_eq_true rfl)
  · have h := it_ hx9 h
    have hP : va_P D vwCl [(a_t, .inr (6, [.ref a_t_forms, .ref a_t_roll, .ref a_t_row, .ref a_t_rows, .ref a_t_factors, .ref a_t_found, .ref a_t_foundOtherwise, .int c_t_acts, .int c_t_refusals, .int c_t_knocks])), (a_t_forms, .inl (cyJ, 6, .inr (.inl f_t_forms))), (a_t_roll, .inr (3, [.ref a_t_roll_held, .ref a_t_roll_before, .int c_t_roll_size])), (a_t_roll_held, .inl (cyJ, 12, .inr (.inl f_t_roll_held)))] H := hP
    have hD : va_D A [(a_t, .inr (6, [.ref a_t_forms, .ref a_t_roll, .ref a_t_row, .ref a_t_rows, .ref a_t_factors, .ref a_t_found, .ref a_t_foundOtherwise, .int c_t_acts, .int c_t_refusals, .int c_t_knocks])), (a_t_forms, .inl (cyJ, 6, .inr (.inl f_t_forms))), (a_t_roll, .inr (3, [.ref a_t_roll_held, .ref a_t_roll_before, .int c_t_roll_size])), (a_t_roll_held, .inl (cyJ, 12, .inr (.inl f_t_roll_held)))] := hD
    refine lv_aload_n hx hb dX7_enroll_4 rfl (lv_at hl 0 rfl) ?_
    refine va_get (D := D) (ci := 6) (v := .ref a_t_roll) (C := RX7) (T := TX7) (N := 10) hx hb hts hinX7 hown hK hP 0 rfl rfl 1 (by decide) hfl16 (fun _ h9 => h9) rfl dX7_enroll_5 ?_
    refine va_getN (D := D) (ci := 3) (v := .int c_t_roll_size) (C := RX3) (T := TX3) (N := 3) hx hb hts hinX3 hown hK hP 2 rfl rfl 2 (by decide) hfl176 (fun _ h9 => h9) rfl dX7_enroll_8 ?_
    refine lv_bipush (v := 12) hx hb dX7_enroll_11 (by decide) ?_
    refine lv_icmp_lt (tgt := 21) hx hb dX7_enroll_13 (by decide) (fun c13 => ?_) (fun c13 => ?_)
    · have h := it_ c13 h
      refine lv_aload_n hx hb dX7_enroll_21 rfl (lv_at hl 0 rfl) ?_
      refine va_get (D := D) (ci := 6) (v := .ref a_t_roll) (C := RX7) (T := TX7) (N := 10) hx hb hts hinX7 hown hK hP 0 rfl rfl 1 (by decide) hfl16 (fun _ h9 => h9) rfl dX7_enroll_22 ?_
      refine lv_aload_n hx hb dX7_enroll_25 rfl (lv_at hl 0 rfl) ?_
      refine va_get (D := D) (ci := 6) (v := .ref a_t_forms) (C := RX7) (T := TX7) (N := 10) hx hb hts hinX7 hown hK hP 0 rfl rfl 0 (by decide) hfl9 (fun _ h9 => h9) rfl dX7_enroll_26 ?_
      refine lv_iload_n hx hb dX7_enroll_29 rfl (lv_at hl 1 rfl) ?_
      obtain ⟨hq30, h⟩ := chk_h h
      refine va_lald hx hb hK hP 1 0 rfl rfl hq30 dX7_enroll_30 ?_
      obtain ⟨c_t_roll_size_31, f_t_roll_held_31, hc31, h⟩ := obn2_h h
      have hPc := hP.sub (ws' := [(a_t_roll, .inr (3, [.ref a_t_roll_held, .ref a_t_roll_before, .int c_t_roll_size])), (a_t_roll_held, .inl (cyJ, 12, .inr (.inl f_t_roll_held)))]) [2, 3] rfl
      have hDc := hD.sub (ws' := [(a_t_roll, .inr (3, [.ref a_t_roll_held, .ref a_t_roll_before, .int c_t_roll_size])), (a_t_roll_held, .inl (cyJ, 12, .inr (.inl f_t_roll_held)))]) [2, 3] (by decide) rfl
      refine hp_v (w1 := [(a_t_roll, .inr (3, [.ref a_t_roll_held, .ref a_t_roll_before, .int c_t_roll_size_31])), (a_t_roll_held, .inl (cyJ, 12, .inr (.inl f_t_roll_held_31)))]) (wr := [(a_t, .inr (6, [.ref a_t_forms, .ref a_t_roll, .ref a_t_row, .ref a_t_rows, .ref a_t_factors, .ref a_t_found, .ref a_t_foundOtherwise, .int c_t_acts, .int c_t_refusals, .int c_t_knocks])), (a_t_forms, .inl (cyJ, 6, .inr (.inl f_t_forms)))]) (va_runV (As := [.long (f_t_forms p0.toNatClampNeg)]) (rest := []) hcf (c_X3_append l D cyJ H.size a_t_roll a_t_roll_held a_t_roll_before c_t_roll_size f_t_roll_held (f_t_forms p0.toNatClampNeg) c_t_roll_size_31 f_t_roll_held_31 hc31) (cwV 1 hts gX7_enroll_X3_append rfl rfl rfl ydX3_append ⟨Nat.le_of_ble_eq_true rfl, Nat.le_of_ble_eq_true rfl⟩) ⟨bl_PD, va_recv hK hP (ci := 3) (q0 := 2) rfl rfl, pr_PD hPc hK0 hDc hnw⟩ rfl rfl hl.1 rfl (lv_room (Nat.le_of_ble_eq_true rfl)) dX7_enroll_31 ⟨Nat.le_of_ble_eq_true rfl, Nat.le_of_ble_eq_true rfl⟩) hP hD hS hA [2, 3] [0, 1] rfl rfl (by decide) (by decide) (fun H locs hP hD hS => ?_)
      have hP : va_P D vwCl [(a_t, .inr (6, [.ref a_t_forms, .ref a_t_roll, .ref a_t_row, .ref a_t_rows, .ref a_t_factors, .ref a_t_found, .ref a_t_foundOtherwise, .int c_t_acts, .int c_t_refusals, .int c_t_knocks])), (a_t_forms, .inl (cyJ, 6, .inr (.inl f_t_forms))), (a_t_roll, .inr (3, [.ref a_t_roll_held, .ref a_t_roll_before, .int c_t_roll_size_31])), (a_t_roll_held, .inl (cyJ, 12, .inr (.inl f_t_roll_held_31)))] H := hP
      have hD : va_D A [(a_t, .inr (6, [.ref a_t_forms, .ref a_t_roll, .ref a_t_row, .ref a_t_rows, .ref a_t_factors, .ref a_t_found, .ref a_t_foundOtherwise, .int c_t_acts, .int c_t_refusals, .int c_t_knocks])), (a_t_forms, .inl (cyJ, 6, .inr (.inl f_t_forms))), (a_t_roll, .inr (3, [.ref a_t_roll_held, .ref a_t_roll_before, .int c_t_roll_size_31])), (a_t_roll_held, .inl (cyJ, 12, .inr (.inl f_t_roll_held_31)))] := hD
      refine lv_aload_n hx hb dX7_enroll_34 rfl (lv_at hl 0 rfl) ?_
      refine lv_aload_n hx hb dX7_enroll_35 rfl (lv_at hl 0 rfl) ?_
      refine va_get (D := D) (ci := 6) (v := .ref a_t_roll) (C := RX7) (T := TX7) (N := 10) hx hb hts hinX7 hown hK hP 0 rfl rfl 1 (by decide) hfl16 (fun _ h9 => h9) rfl dX7_enroll_36 ?_
      refine va_getN (D := D) (ci := 3) (v := .int c_t_roll_size_31) (C := RX3) (T := TX3) (N := 3) hx hb hts hinX3 hown hK hP 2 rfl rfl 2 (by decide) hfl176 (fun _ h9 => h9) rfl dX7_enroll_39 ?_
      obtain ⟨r42, c_t_acts_42, hc42, h⟩ := obn2_h h
      have hPc := hP.sub (ws' := [(a_t, .inr (6, [.ref a_t_forms, .ref a_t_roll, .ref a_t_row, .ref a_t_rows, .ref a_t_factors, .ref a_t_found, .ref a_t_foundOtherwise, .int c_t_acts, .int c_t_refusals, .int c_t_knocks]))]) [0] rfl
      have hDc := hD.sub (ws' := [(a_t, .inr (6, [.ref a_t_forms, .ref a_t_roll, .ref a_t_row, .ref a_t_rows, .ref a_t_factors, .ref a_t_found, .ref a_t_foundOtherwise, .int c_t_acts, .int c_t_refusals, .int c_t_knocks]))]) [0] (by decide) rfl
      refine hp_i (w1 := [(a_t, .inr (6, [.ref a_t_forms, .ref a_t_roll, .ref a_t_row, .ref a_t_rows, .ref a_t_factors, .ref a_t_found, .ref a_t_foundOtherwise, .int c_t_acts_42, .int c_t_refusals, .int c_t_knocks]))]) (wr := [(a_t_forms, .inl (cyJ, 6, .inr (.inl f_t_forms))), (a_t_roll, .inr (3, [.ref a_t_roll_held, .ref a_t_roll_before, .int c_t_roll_size_31])), (a_t_roll_held, .inl (cyJ, 12, .inr (.inl f_t_roll_held_31)))]) (va_runV (As := [.int c_t_roll_size_31]) (rest := []) hcf (c_X7_done l D cyJ H.size a_t a_t_forms a_t_roll a_t_row a_t_rows a_t_factors a_t_found a_t_foundOtherwise c_t_acts c_t_refusals c_t_knocks c_t_roll_size_31 r42 c_t_acts_42 hc42) (cwV 1 hts gX7_enroll_X7_done rfl rfl rfl ydX7_done ⟨Nat.le_of_ble_eq_true rfl, Nat.le_of_ble_eq_true rfl⟩) ⟨bl_PD, va_recv hK hP (ci := 6) (q0 := 0) rfl rfl, pr_PD hPc hK0 hDc hnw⟩ rfl rfl hl.1 rfl (lv_room (Nat.le_of_ble_eq_true rfl)) dX7_enroll_42 ⟨Nat.le_of_ble_eq_true rfl, Nat.le_of_ble_eq_true rfl⟩) hP hD hS hA [0] [1, 2, 3] rfl rfl (by decide) (by decide) (fun H locs hP hD hS => ?_)
      have hP : va_P D vwCl [(a_t_forms, .inl (cyJ, 6, .inr (.inl f_t_forms))), (a_t_roll, .inr (3, [.ref a_t_roll_held, .ref a_t_roll_before, .int c_t_roll_size_31])), (a_t_roll_held, .inl (cyJ, 12, .inr (.inl f_t_roll_held_31))), (a_t, .inr (6, [.ref a_t_forms, .ref a_t_roll, .ref a_t_row, .ref a_t_rows, .ref a_t_factors, .ref a_t_found, .ref a_t_foundOtherwise, .int c_t_acts_42, .int c_t_refusals, .int c_t_knocks]))] H := hP
      have hD : va_D A [(a_t_forms, .inl (cyJ, 6, .inr (.inl f_t_forms))), (a_t_roll, .inr (3, [.ref a_t_roll_held, .ref a_t_roll_before, .int c_t_roll_size_31])), (a_t_roll_held, .inl (cyJ, 12, .inr (.inl f_t_roll_held_31))), (a_t, .inr (6, [.ref a_t_forms, .ref a_t_roll, .ref a_t_row, .ref a_t_rows, .ref a_t_factors, .ref a_t_found, .ref a_t_foundOtherwise, .int c_t_acts_42, .int c_t_refusals, .int c_t_knocks]))] := hD
      obtain ⟨e0, e1, e2, e3, e4, e5⟩ := tup6 h
      subst e0
      subst e1
      subst e2
      subst e3
      subst e4
      subst e5
      have hP9 : va_P D vwCl [(a_t, .inr (6, [.ref a_t_forms, .ref a_t_roll, .ref a_t_row, .ref a_t_rows, .ref a_t_factors, .ref a_t_found, .ref a_t_foundOtherwise, .int c_t_acts_42, .int c_t_refusals, .int c_t_knocks])), (a_t_forms, .inl (cyJ, 6, .inr (.inl f_t_forms))), (a_t_roll, .inr (3, [.ref a_t_roll_held, .ref a_t_roll_before, .int c_t_roll_size_31])), (a_t_roll_held, .inl (cyJ, 12, .inr (.inl f_t_roll_held_31)))] H := hP.sub [3, 0, 1, 2] rfl
      have hD9 : va_D A [(a_t, .inr (6, [.ref a_t_forms, .ref a_t_roll, .ref a_t_row, .ref a_t_rows, .ref a_t_factors, .ref a_t_found, .ref a_t_foundOtherwise, .int c_t_acts_42, .int c_t_refusals, .int c_t_knocks])), (a_t_forms, .inl (cyJ, 6, .inr (.inl f_t_forms))), (a_t_roll, .inr (3, [.ref a_t_roll_held, .ref a_t_roll_before, .int c_t_roll_size_31])), (a_t_roll_held, .inl (cyJ, 12, .inr (.inl f_t_roll_held_31)))] := hD.sub [3, 0, 1, 2] (by decide) rfl
      refine vx_ret ?_
      exact W.iret hx hb hr (fun t ht hW => ⟨⟨_, (), rfl, ⟨rfl, rfl⟩, wQA_of ht hP9 hD9⟩, hS.F ht⟩) hS.2.2 dX7_enroll_45
    · have h := if_ c13 h
      refine lv_aload_n hx hb dX7_enroll_16 rfl (lv_at hl 0 rfl) ?_
      obtain ⟨r17, c_t_refusals_17, hc17, h⟩ := obn2_h h
      have hPc := hP.sub (ws' := [(a_t, .inr (6, [.ref a_t_forms, .ref a_t_roll, .ref a_t_row, .ref a_t_rows, .ref a_t_factors, .ref a_t_found, .ref a_t_foundOtherwise, .int c_t_acts, .int c_t_refusals, .int c_t_knocks]))]) [0] rfl
      have hDc := hD.sub (ws' := [(a_t, .inr (6, [.ref a_t_forms, .ref a_t_roll, .ref a_t_row, .ref a_t_rows, .ref a_t_factors, .ref a_t_found, .ref a_t_foundOtherwise, .int c_t_acts, .int c_t_refusals, .int c_t_knocks]))]) [0] (by decide) rfl
      refine hp_i (w1 := [(a_t, .inr (6, [.ref a_t_forms, .ref a_t_roll, .ref a_t_row, .ref a_t_rows, .ref a_t_factors, .ref a_t_found, .ref a_t_foundOtherwise, .int c_t_acts, .int c_t_refusals_17, .int c_t_knocks]))]) (wr := [(a_t_forms, .inl (cyJ, 6, .inr (.inl f_t_forms))), (a_t_roll, .inr (3, [.ref a_t_roll_held, .ref a_t_roll_before, .int c_t_roll_size])), (a_t_roll_held, .inl (cyJ, 12, .inr (.inl f_t_roll_held)))]) (va_runV (As := []) (rest := []) hcf (c_X7_refuse l D cyJ H.size a_t a_t_forms a_t_roll a_t_row a_t_rows a_t_factors a_t_found a_t_foundOtherwise c_t_acts c_t_refusals c_t_knocks r17 c_t_refusals_17 hc17) (cwV 0 hts gX7_enroll_X7_refuse rfl rfl rfl ydX7_refuse ⟨Nat.le_of_ble_eq_true rfl, Nat.le_of_ble_eq_true rfl⟩) ⟨bl_PD, va_recv hK hP (ci := 6) (q0 := 0) rfl rfl, pr_PD hPc hK0 hDc hnw⟩ rfl rfl hl.1 rfl (lv_room (Nat.le_of_ble_eq_true rfl)) dX7_enroll_17 ⟨Nat.le_of_ble_eq_true rfl, Nat.le_of_ble_eq_true rfl⟩) hP hD hS hA [0] [1, 2, 3] rfl rfl (by decide) (by decide) (fun H locs hP hD hS => ?_)
      have hP : va_P D vwCl [(a_t_forms, .inl (cyJ, 6, .inr (.inl f_t_forms))), (a_t_roll, .inr (3, [.ref a_t_roll_held, .ref a_t_roll_before, .int c_t_roll_size])), (a_t_roll_held, .inl (cyJ, 12, .inr (.inl f_t_roll_held))), (a_t, .inr (6, [.ref a_t_forms, .ref a_t_roll, .ref a_t_row, .ref a_t_rows, .ref a_t_factors, .ref a_t_found, .ref a_t_foundOtherwise, .int c_t_acts, .int c_t_refusals_17, .int c_t_knocks]))] H := hP
      have hD : va_D A [(a_t_forms, .inl (cyJ, 6, .inr (.inl f_t_forms))), (a_t_roll, .inr (3, [.ref a_t_roll_held, .ref a_t_roll_before, .int c_t_roll_size])), (a_t_roll_held, .inl (cyJ, 12, .inr (.inl f_t_roll_held))), (a_t, .inr (6, [.ref a_t_forms, .ref a_t_roll, .ref a_t_row, .ref a_t_rows, .ref a_t_factors, .ref a_t_found, .ref a_t_foundOtherwise, .int c_t_acts, .int c_t_refusals_17, .int c_t_knocks]))] := hD
      obtain ⟨e0, e1, e2, e3, e4, e5⟩ := tup6 h
      subst e0
      subst e1
      subst e2
      subst e3
      subst e4
      subst e5
      have hP9 : va_P D vwCl [(a_t, .inr (6, [.ref a_t_forms, .ref a_t_roll, .ref a_t_row, .ref a_t_rows, .ref a_t_factors, .ref a_t_found, .ref a_t_foundOtherwise, .int c_t_acts, .int c_t_refusals_17, .int c_t_knocks])), (a_t_forms, .inl (cyJ, 6, .inr (.inl f_t_forms))), (a_t_roll, .inr (3, [.ref a_t_roll_held, .ref a_t_roll_before, .int c_t_roll_size])), (a_t_roll_held, .inl (cyJ, 12, .inr (.inl f_t_roll_held)))] H := hP.sub [3, 0, 1, 2] rfl
      have hD9 : va_D A [(a_t, .inr (6, [.ref a_t_forms, .ref a_t_roll, .ref a_t_row, .ref a_t_rows, .ref a_t_factors, .ref a_t_found, .ref a_t_foundOtherwise, .int c_t_acts, .int c_t_refusals_17, .int c_t_knocks])), (a_t_forms, .inl (cyJ, 6, .inr (.inl f_t_forms))), (a_t_roll, .inr (3, [.ref a_t_roll_held, .ref a_t_roll_before, .int c_t_roll_size])), (a_t_roll_held, .inl (cyJ, 12, .inr (.inl f_t_roll_held)))] := hD.sub [3, 0, 1, 2] (by decide) rfl
      refine vx_ret ?_
      exact W.iret hx hb hr (fun t ht hW => ⟨⟨_, (), rfl, ⟨rfl, rfl⟩, wQA_of ht hP9 hD9⟩, hS.F ht⟩) hS.2.2 dX7_enroll_20

noncomputable abbrev rmX7_testRolled : Room := { frames := 8, cells := 1, slots := 6, locals := 100 }
theorem ydX7_testRolled : yX7_testRolled.cls = RX7 ∧ yX7_testRolled.cls ≠ "java/lang/invoke/MethodHandle" ∧ yX7_testRolled.cls ≠ "java/lang/invoke/VarHandle" ∧ (parseMethodDescriptor yX7_testRolled.desc).map (fun d => d.parameters.length) = some 1 := by decide +kernel
noncomputable def F_X7_testRolled (c_t_roll_size : Int32) (p0 : Int32) : Option (Nat) :=
 obn (F_X7_isBetween p0 (0 : Int32) (c_t_roll_size - (1 : Int32))) (fun r11 =>
 (if r11 = 0 then
 some 1
else
 some 0))
theorem wsat_X7_testRolled : ∀ w ∈ (vx_atS RX7 303 "java/lang/IndexOutOfBoundsException" ["java/lang/RuntimeException", "java/lang/Exception"]).filter goodWord, w ∈ wsX7_testRolled := fun w h => List.mem_cons_of_mem _ (by first | exact List.mem_append_right _ h | exact List.mem_append_left _ (List.mem_append_right _ h) | exact List.mem_append_left _ (List.mem_append_left _ (List.mem_append_right _ h)))
theorem hgood_X7_testRolled : ∀ w ∈ Cond.classLink RX7 299 "java/lang/IndexOutOfBoundsException" :: Cond.initialized "java/lang/IndexOutOfBoundsException" :: vx_atS RX7 303 "java/lang/IndexOutOfBoundsException" ["java/lang/RuntimeException", "java/lang/Exception"], vx_ot w = true := by decide +kernel
set_option maxHeartbeats 4000000 in
set_option maxRecDepth 100000 in
theorem c_X7_testRolled (l : Launch) (hfl : l.stackTraces = false) (D : va_G) (cyJ : ClassId) (sz : Nat) (a_t : Nat) (a_t_forms : Nat) (a_t_roll : Nat) (a_t_row : Nat) (a_t_rows : Nat) (a_t_factors : Nat) (a_t_found : Nat) (a_t_foundOtherwise : Nat) (a_t_roll_held : Nat) (a_t_roll_before : Nat) (c_t_acts : Int32) (c_t_refusals : Int32) (c_t_knocks : Int32) (c_t_roll_size : Int32) (p0 : Int32) (xc : Nat) (hF : F_X7_testRolled c_t_roll_size p0 = some xc) : vx_Met l yX7_testRolled wsX7_testRolled rmX7_testRolled (va_Pc [.ref a_t, .int p0] (wPX D [(cyJ, .long)] [(a_t, .inr (6, [.ref a_t_forms, .ref a_t_roll, .ref a_t_row, .ref a_t_rows, .ref a_t_factors, .ref a_t_found, .ref a_t_foundOtherwise, .int c_t_acts, .int c_t_refusals, .int c_t_knocks])), (a_t_roll, .inr (3, [.ref a_t_roll_held, .ref a_t_roll_before, .int c_t_roll_size]))] sz)) (va_Qv (fun (_ : Unit) => xc = 0) (fun _ t => wQA D [(a_t, .inr (6, [.ref a_t_forms, .ref a_t_roll, .ref a_t_row, .ref a_t_rows, .ref a_t_factors, .ref a_t_found, .ref a_t_foundOtherwise, .int c_t_acts, .int c_t_refusals, .int c_t_knocks])), (a_t_roll, .inr (3, [.ref a_t_roll_held, .ref a_t_roll_before, .int c_t_roll_size]))] (va_A [(a_t, .inr (6, [.ref a_t_forms, .ref a_t_roll, .ref a_t_row, .ref a_t_rows, .ref a_t_factors, .ref a_t_found, .ref a_t_foundOtherwise, .int c_t_acts, .int c_t_refusals, .int c_t_knocks])), (a_t_roll, .inr (3, [.ref a_t_roll_held, .ref a_t_roll_before, .int c_t_roll_size]))] sz) t) (va_A [(a_t, .inr (6, [.ref a_t_forms, .ref a_t_roll, .ref a_t_row, .ref a_t_rows, .ref a_t_factors, .ref a_t_found, .ref a_t_foundOtherwise, .int c_t_acts, .int c_t_refusals, .int c_t_knocks])), (a_t_roll, .inr (3, [.ref a_t_roll_held, .ref a_t_roll_before, .int c_t_roll_size]))] sz)) (vx_X (fun (_ : Unit) => ¬ xc = 0) (fun E _ t => E = xcls xc ∧ wQA D [(a_t, .inr (6, [.ref a_t_forms, .ref a_t_roll, .ref a_t_row, .ref a_t_rows, .ref a_t_factors, .ref a_t_found, .ref a_t_foundOtherwise, .int c_t_acts, .int c_t_refusals, .int c_t_knocks])), (a_t_roll, .inr (3, [.ref a_t_roll_held, .ref a_t_roll_before, .int c_t_roll_size]))] (va_A [(a_t, .inr (6, [.ref a_t_forms, .ref a_t_roll, .ref a_t_row, .ref a_t_rows, .ref a_t_factors, .ref a_t_found, .ref a_t_foundOtherwise, .int c_t_acts, .int c_t_refusals, .int c_t_knocks])), (a_t_roll, .inr (3, [.ref a_t_roll_held, .ref a_t_roll_before, .int c_t_roll_size]))] sz) t) (va_A [(a_t, .inr (6, [.ref a_t_forms, .ref a_t_roll, .ref a_t_row, .ref a_t_rows, .ref a_t_factors, .ref a_t_found, .ref a_t_foundOtherwise, .int c_t_acts, .int c_t_refusals, .int c_t_knocks])), (a_t_roll, .inr (3, [.ref a_t_roll_held, .ref a_t_roll_before, .int c_t_roll_size]))] sz)) 1 6 (va_A [(a_t, .inr (6, [.ref a_t_forms, .ref a_t_roll, .ref a_t_row, .ref a_t_rows, .ref a_t_factors, .ref a_t_found, .ref a_t_foundOtherwise, .int c_t_acts, .int c_t_refusals, .int c_t_knocks])), (a_t_roll, .inr (3, [.ref a_t_roll_held, .ref a_t_roll_before, .int c_t_roll_size]))] sz) := by
  refine vx_ofW (cc := cX7_testRolled) (maxL := 2) (ret := none) (by decide) rfl ?_
  intro p e s m args below meth c s₁ B hml hxt hv
  obtain ⟨rfl, ⟨⟨hsz, hP, hK, hD0, hnw⟩, hE⟩⟩ := hv
  have hx := B.exec
  have hb := B.bytes
  have hr := B.returns
  have hts := atoms_spec (ws := wsX7_testRolled) B.pre
  have hown : s.vm.findClass RX7 = some m.cls := findClass_of_methodNamed B.named
  have hlocks := B.notSynchronized
  have hcf : CallFix _ _ _ _ _ _ _ _ _ := ⟨hx, hb, hml, hown, hts⟩
  have hinX7 : ∀ w ∈ u_ws RX7 TX7 10, w ∈ wsX7_testRolled := by decide +kernel
  have hfl16 := hts (.fieldLink RX7 16 "Formwheel" "roll" "LFormwheel$Roll;") (by decide +kernel)
  have hinX3 : ∀ w ∈ u_ws RX3 TX3 3, w ∈ wsX7_testRolled := by decide +kernel
  have hfl176 := hnw.use (A := ([.ref a_t, .int p0] : List Value).toArray) (w := .fieldLinkNest RX7 176 "Formwheel$Roll" "size" "I" "Formwheel") (by decide +kernel)
  subst hsz
  have hD := hD0.self (sz := s.heap.size)
  generalize hAe : va_A [(a_t, .inr (6, [.ref a_t_forms, .ref a_t_roll, .ref a_t_row, .ref a_t_rows, .ref a_t_factors, .ref a_t_found, .ref a_t_foundOtherwise, .int c_t_acts, .int c_t_refusals, .int c_t_knocks])), (a_t_roll, .inr (3, [.ref a_t_roll_held, .ref a_t_roll_before, .int c_t_roll_size]))] s.heap.size = A at hD hE ⊢
  have hA : ∀ q : Nat, s.heap.size ≤ q → A q := fun q h => by rw [← hAe]; exact Or.inr h
  have hS : va_S A s.heap s.heap [] := va_S.rf
  have hP : va_P D vwCl [(a_t, .inr (6, [.ref a_t_forms, .ref a_t_roll, .ref a_t_row, .ref a_t_rows, .ref a_t_factors, .ref a_t_found, .ref a_t_foundOtherwise, .int c_t_acts, .int c_t_refusals, .int c_t_knocks])), (a_t_roll, .inr (3, [.ref a_t_roll_held, .ref a_t_roll_before, .int c_t_roll_size]))] s.heap := hP
  have hK0 := hK
  have hl := lv_entry ([.ref a_t, .int p0]) (n := 2) (Nat.le_of_ble_eq_true rfl)
  rw [lg_entry_eq]
  generalize (lg_sl ([.ref a_t, .int p0]) ++ List.replicate (2 - (lg_sl ([.ref a_t, .int p0])).length) Slot.unset).toArray = ls at hl ⊢
  have hl : lv_has ls 2 [(0, .ref a_t), (1, .int p0)] := hl
  have h := hF
  clear hF
  unfold F_X7_testRolled at h
  refine lv_iload_n hx hb dX7_testRolled_0 rfl (lv_at hl 1 rfl) ?_
  refine lv_iconst (v := 0) hx hb dX7_testRolled_1 (by decide) ?_
  refine lv_aload_n hx hb dX7_testRolled_2 rfl (lv_at hl 0 rfl) ?_
  refine va_get (D := D) (ci := 6) (v := .ref a_t_roll) (C := RX7) (T := TX7) (N := 10) hx hb hts hinX7 hown hK hP 0 rfl rfl 1 (by decide) hfl16 (fun _ h9 => h9) rfl dX7_testRolled_3 ?_
  refine va_getN (D := D) (ci := 3) (v := .int c_t_roll_size) (C := RX3) (T := TX3) (N := 3) hx hb hts hinX3 hown hK hP 1 rfl rfl 2 (by decide) hfl176 (fun _ h9 => h9) rfl dX7_testRolled_6 ?_
  refine lv_iconst (v := 1) hx hb dX7_testRolled_9 (by decide) ?_
  refine lv_isub hx hb dX7_testRolled_10 ?_
  obtain ⟨r11, hc11, h⟩ := obn_h h
  refine pz_callS (As := [.int p0, .int (0 : Int32), .int (c_t_roll_size - (1 : Int32))]) (rest := []) hcf (c_X7_isBetween l p0 (0 : Int32) (c_t_roll_size - (1 : Int32)) r11 hc11) (va_cwS 3 hts gX7_testRolled_X7_isBetween rfl rfl rfl ydX7_isBetween ⟨Nat.le_of_ble_eq_true rfl, Nat.le_of_ble_eq_true rfl⟩) hnw rfl hl.1 rfl (Nat.le_of_ble_eq_true rfl) dX7_testRolled_11 ⟨Nat.le_of_ble_eq_true rfl, Nat.le_of_ble_eq_true rfl⟩ ?_
  refine lv_if_ne (tgt := 28) hx hb dX7_testRolled_14 (by decide) (fun c14 => ?_) (fun c14 => ?_)
  · have h := if_ c14 h
    have e1 := Option.some.inj h
    subst e1
    have hP9 : va_P D vwCl [(a_t, .inr (6, [.ref a_t_forms, .ref a_t_roll, .ref a_t_row, .ref a_t_rows, .ref a_t_factors, .ref a_t_found, .ref a_t_foundOtherwise, .int c_t_acts, .int c_t_refusals, .int c_t_knocks])), (a_t_roll, .inr (3, [.ref a_t_roll_held, .ref a_t_roll_before, .int c_t_roll_size]))] s.heap := hP.sub [0, 1] rfl
    have hD9 : va_D A [(a_t, .inr (6, [.ref a_t_forms, .ref a_t_roll, .ref a_t_row, .ref a_t_rows, .ref a_t_factors, .ref a_t_found, .ref a_t_foundOtherwise, .int c_t_acts, .int c_t_refusals, .int c_t_knocks])), (a_t_roll, .inr (3, [.ref a_t_roll_held, .ref a_t_roll_before, .int c_t_roll_size]))] := hD.sub [0, 1] (by decide) rfl
    refine vx_ret ?_
    refine W.widen (k := 1) (n := 6) (Nat.le_of_ble_eq_true rfl) (Nat.le_of_ble_eq_true rfl) ?_
    exact W.vret hx hb hr (fun t ht hW => ⟨⟨(), rfl, rfl, wQA_of ht hP9 hD9⟩, hS.F ht⟩) hS.2.2 dX7_testRolled_28
  · have h := it_ c14 h
    have e1 := Option.some.inj h
    subst e1
    have hP9 : va_P D vwCl [(a_t, .inr (6, [.ref a_t_forms, .ref a_t_roll, .ref a_t_row, .ref a_t_rows, .ref a_t_factors, .ref a_t_found, .ref a_t_foundOtherwise, .int c_t_acts, .int c_t_refusals, .int c_t_knocks])), (a_t_roll, .inr (3, [.ref a_t_roll_held, .ref a_t_roll_before, .int c_t_roll_size]))] s.heap := hP.sub [0, 1] rfl
    have hD9 : va_D A [(a_t, .inr (6, [.ref a_t_forms, .ref a_t_roll, .ref a_t_row, .ref a_t_rows, .ref a_t_factors, .ref a_t_found, .ref a_t_foundOtherwise, .int c_t_acts, .int c_t_refusals, .int c_t_knocks])), (a_t_roll, .inr (3, [.ref a_t_roll_held, .ref a_t_roll_before, .int c_t_roll_size]))] := hD.sub [0, 1] (by decide) rfl
    obtain ⟨sa9, hstr9⟩ := hE.2.2 _ (show (RX7, 306, "the roll has none with that number") ∈ strL from by decide +kernel)
    exact vx_throwSW hx hb hfl hown (cls := "java/lang/IndexOutOfBoundsException") (names := ["java/lang/RuntimeException", "java/lang/Exception"]) (by decide +kernel) (by decide +kernel) (hts (.classLink RX7 299 "java/lang/IndexOutOfBoundsException") (by decide +kernel)) (hts (.initialized "java/lang/IndexOutOfBoundsException") (by decide +kernel)) hstr9 (hat_1 (fun w hw => hts w (wsat_X7_testRolled w hw)) hE.2.1) hgood_X7_testRolled hE.1.1 hE.1.2 hS (hl.1.trans hml.symm) dX7_testRolled_17 dX7_testRolled_20 dX7_testRolled_21 dX7_testRolled_24 dX7_testRolled_27 (fun x hx => (hxt x hx).elim) (Nat.le_of_ble_eq_true rfl) (Nat.le_of_ble_eq_true rfl) (Nat.le_of_ble_eq_true rfl) (Nat.le_of_ble_eq_true rfl) hlocks (fun t hW hz hk => ⟨(), by decide, ⟨rfl, wQA_kept hP9 hD9 hk⟩, va_F_kept hS hz hk⟩) hS.2.2 (Nat.le_of_ble_eq_true rfl) (Nat.le_of_ble_eq_true rfl)

noncomputable abbrev rmX3_removeAt : Room := { frames := 0, cells := 0, slots := 0, locals := 0 }
theorem ydX3_removeAt : yX3_removeAt.cls = RX3 ∧ yX3_removeAt.cls ≠ "java/lang/invoke/MethodHandle" ∧ yX3_removeAt.cls ≠ "java/lang/invoke/VarHandle" ∧ (parseMethodDescriptor yX3_removeAt.desc).map (fun d => d.parameters.length) = some 1 := by decide +kernel
noncomputable def S_X3_removeAt_17 (c_t_size_z17 : Int32) (k45 : (Nat → Int64) → Option (Int32 × (Nat → Int64))) (ih17 : Int32 → (Nat → Int64) → Option (Int32 × (Nat → Int64))) (y2_17 : Int32) (f_t_held_17 : Nat → Int64) : Option (Int32 × (Nat → Int64)) :=
 (if c_t_size_z17 ≤ y2_17 then
 k45 f_t_held_17
else
 chk (¬ (y2_17 < 0 ∨ 12 ≤ y2_17.toNatClampNeg)) (
 chk (¬ ((y2_17 - (1 : Int32)) < 0 ∨ 12 ≤ (y2_17 - (1 : Int32)).toNatClampNeg)) (
 bnd (vp_updL f_t_held_17 (y2_17 - (1 : Int32)).toNatClampNeg (f_t_held_17 y2_17.toNatClampNeg)) (fun f_t_held_38 =>
 bnd (y2_17 + 1) (fun x2_39 =>
 ih17 x2_39 f_t_held_38)))))
noncomputable def F_X3_removeAt (c_t_size : Int32) (f_t_held : Nat → Int64) (p0 : Int32) : Option (Int32 × (Nat → Int64)) :=
 (if p0 < 0 then
 some (c_t_size, f_t_held)
else
 (if p0 < c_t_size then
 bnd (p0 + (1 : Int32)) (fun x2_16 =>
 LQ2 (S_X3_removeAt_17 c_t_size (fun f_t_held_17_45 =>
 bnd (c_t_size - (1 : Int32)) (fun c_t_size_52 =>
 some (c_t_size_52, f_t_held_17_45)))) 20000 x2_16 f_t_held)
else
 some (c_t_size, f_t_held)))
set_option maxHeartbeats 4000000 in
set_option maxRecDepth 100000 in
theorem c_X3_removeAt (l : Launch) (D : va_G) (cyJ : ClassId) (sz : Nat) (a_t : Nat) (a_t_held : Nat) (a_t_before : Nat) (c_t_size : Int32) (f_t_held : Nat → Int64) (p0 : Int32) (o_c_t_size : Int32) (o_f_t_held : Nat → Int64) (hF : F_X3_removeAt c_t_size f_t_held p0 = some (o_c_t_size, o_f_t_held)) : Met l yX3_removeAt wsX3_removeAt rmX3_removeAt (va_Pc [.ref a_t, .int p0] (wPD D [(cyJ, .long)] [(a_t, .inr (3, [.ref a_t_held, .ref a_t_before, .int c_t_size])), (a_t_held, .inl (cyJ, 12, .inr (.inl f_t_held)))] sz)) (va_Qv (fun (_ : Unit) => True) (fun _ t => wQA D [(a_t, .inr (3, [.ref a_t_held, .ref a_t_before, .int o_c_t_size])), (a_t_held, .inl (cyJ, 12, .inr (.inl o_f_t_held)))] (va_A [(a_t, .inr (3, [.ref a_t_held, .ref a_t_before, .int c_t_size])), (a_t_held, .inl (cyJ, 12, .inr (.inl f_t_held)))] sz) t) (va_A [(a_t, .inr (3, [.ref a_t_held, .ref a_t_before, .int c_t_size])), (a_t_held, .inl (cyJ, 12, .inr (.inl f_t_held)))] sz)) 0 0 (va_A [(a_t, .inr (3, [.ref a_t_held, .ref a_t_before, .int c_t_size])), (a_t_held, .inl (cyJ, 12, .inr (.inl f_t_held)))] sz) := by
  refine Met.ofW (cc := cX3_removeAt) (maxL := 3) (ret := none) (by decide) rfl ?_
  intro p e s m args below meth c s₁ B hml hv
  obtain ⟨rfl, hsz, hP, hK, hD0, hnw⟩ := hv
  have hx := B.exec
  have hb := B.bytes
  have hr := B.returns
  have hts := atoms_spec (ws := wsX3_removeAt) B.pre
  have hown : s.vm.findClass RX3 = some m.cls := findClass_of_methodNamed B.named
  have hlocks := B.notSynchronized
  have hcf : CallFix _ _ _ _ _ _ _ _ _ := ⟨hx, hb, hml, hown, hts⟩
  have hinX3 : ∀ w ∈ u_ws RX3 TX3 3, w ∈ wsX3_removeAt := by decide +kernel
  have hfl18 := hts (.fieldLink RX3 18 "Formwheel$Roll" "size" "I") (by decide +kernel)
  have hfl9 := hts (.fieldLink RX3 9 "Formwheel$Roll" "held" "[J") (by decide +kernel)
  subst hsz
  have hD := hD0.self (sz := s.heap.size)
  generalize hAe : va_A [(a_t, .inr (3, [.ref a_t_held, .ref a_t_before, .int c_t_size])), (a_t_held, .inl (cyJ, 12, .inr (.inl f_t_held)))] s.heap.size = A at hD ⊢
  have hA : ∀ q : Nat, s.heap.size ≤ q → A q := fun q h => by rw [← hAe]; exact Or.inr h
  have hS : va_S A s.heap s.heap [] := va_S.rf
  have hP : va_P D vwCl [(a_t, .inr (3, [.ref a_t_held, .ref a_t_before, .int c_t_size])), (a_t_held, .inl (cyJ, 12, .inr (.inl f_t_held)))] s.heap := hP
  have hK0 := hK
  have hl := lv_entry ([.ref a_t, .int p0]) (n := 3) (Nat.le_of_ble_eq_true rfl)
  rw [lg_entry_eq]
  generalize (lg_sl ([.ref a_t, .int p0]) ++ List.replicate (3 - (lg_sl ([.ref a_t, .int p0])).length) Slot.unset).toArray = ls at hl ⊢
  have hl : lv_has ls 3 [(0, .ref a_t), (1, .int p0)] := hl
  have h := hF
  clear hF
  unfold F_X3_removeAt at h
  refine lv_iload_n hx hb dX3_removeAt_0 rfl (lv_at hl 1 rfl) ?_
  refine lv_if_lt (tgt := 12) hx hb dX3_removeAt_1 (by decide) (fun c1 => ?_) (fun c1 => ?_)
  · have h := it_ c1 h
    obtain ⟨e0, e1⟩ := tup2 h
    subst e0
    subst e1
    have hP9 : va_P D vwCl [(a_t, .inr (3, [.ref a_t_held, .ref a_t_before, .int c_t_size])), (a_t_held, .inl (cyJ, 12, .inr (.inl f_t_held)))] s.heap := hP.sub [0, 1] rfl
    have hD9 : va_D A [(a_t, .inr (3, [.ref a_t_held, .ref a_t_before, .int c_t_size])), (a_t_held, .inl (cyJ, 12, .inr (.inl f_t_held)))] := hD.sub [0, 1] (by decide) rfl
    exact W.vret hx hb hr (fun t ht hW => ⟨⟨(), rfl, trivial, wQA_of ht hP9 hD9⟩, hS.F ht⟩) hS.2.2 dX3_removeAt_12
  · have h := if_ c1 h
    refine lv_iload_n hx hb dX3_removeAt_4 rfl (lv_at hl 1 rfl) ?_
    refine lv_aload_n hx hb dX3_removeAt_5 rfl (lv_at hl 0 rfl) ?_
    refine va_get (D := D) (ci := 3) (v := .int c_t_size) (C := RX3) (T := TX3) (N := 3) hx hb hts hinX3 hown hK hP 0 rfl rfl 2 (by decide) hfl18 (fun _ h9 => h9) rfl dX3_removeAt_6 ?_
    refine lv_icmp_lt (tgt := 13) hx hb dX3_removeAt_9 (by decide) (fun c9 => ?_) (fun c9 => ?_)
    · have h := it_ c9 h
      refine lv_iload_n hx hb dX3_removeAt_13 rfl (lv_at hl 1 rfl) ?_
      refine lv_iconst (v := 1) hx hb dX3_removeAt_14 (by decide) ?_
      refine lv_iadd hx hb dX3_removeAt_15 ?_
      refine lv_topi (fun x2_16 e_x2_16 => ?_)
      have h := bnd_h e_x2_16 h
      refine lv_istore_n (lv' := [(2, .int x2_16), (0, .ref a_t), (1, .int p0)]) hx hb dX3_removeAt_16 rfl hl (by decide) rfl (fun ls hl => ?_)
      refine LQ2_k1 (M := fun (y2_17 : Int32) (f_t_held_17 : Nat → Int64) => ∀ (H : Heap) (locs : List Loc), va_P D vwCl [(a_t, .inr (3, [.ref a_t_held, .ref a_t_before, .int c_t_size])), (a_t_held, .inl (cyJ, 12, .inr (.inl f_t_held_17)))] H → va_D A [(a_t, .inr (3, [.ref a_t_held, .ref a_t_before, .int c_t_size])), (a_t_held, .inl (cyJ, 12, .inr (.inl f_t_held_17)))] → va_S A s.heap H locs → ∀ (ls : Array Slot), lv_has ls 3 [(0, .ref a_t), (2, .int y2_17)] → W p l e rmX3_removeAt s m ([.ref a_t, .int p0] : List Value).toArray below meth c H locs 0 0 (MQ below (va_Qv (fun (_ : Unit) => True) (fun _ t => wQA D [(a_t, .inr (3, [.ref a_t_held, .ref a_t_before, .int o_c_t_size])), (a_t_held, .inl (cyJ, 12, .inr (.inl o_f_t_held)))] A t) A) ([.ref a_t, .int p0] : List Value).toArray s 0 0 A) (F0 m 17 ls [])) ?_ _ _ _ h _ _ hP hD hS ls (lv_sub hl [1, 0] rfl)
      intro k45 hk45 ih17 hih17 y2_17 f_t_held_17 h H locs hP hD hS ls hl
      unfold S_X3_removeAt_17 at h
      refine lv_iload_n hx hb dX3_removeAt_17 rfl (lv_at hl 1 rfl) ?_
      refine lv_aload_n hx hb dX3_removeAt_18 rfl (lv_at hl 0 rfl) ?_
      refine va_get (D := D) (ci := 3) (v := .int c_t_size) (C := RX3) (T := TX3) (N := 3) hx hb hts hinX3 hown hK hP 0 rfl rfl 2 (by decide) hfl18 (fun _ h9 => h9) rfl dX3_removeAt_19 ?_
      refine lv_icmp_ge (tgt := 45) hx hb dX3_removeAt_22 (by decide) (fun c22 => ?_) (fun c22 => ?_)
      · have h := it_ c22 h
        rw [hk45] at h
        refine lv_aload_n hx hb dX3_removeAt_45 rfl (lv_at hl 0 rfl) ?_
        refine lv_dup hx hb dX3_removeAt_46 rfl ?_
        refine va_get (D := D) (ci := 3) (v := .int c_t_size) (C := RX3) (T := TX3) (N := 3) hx hb hts hinX3 hown hK hP 0 rfl rfl 2 (by decide) hfl18 (fun _ h9 => h9) rfl dX3_removeAt_47 ?_
        refine lv_iconst (v := 1) hx hb dX3_removeAt_50 (by decide) ?_
        refine lv_isub hx hb dX3_removeAt_51 ?_
        refine lv_topi (fun c_t_size_52 e_c_t_size_52 => ?_)
        have h := bnd_h e_c_t_size_52 h
        refine va_put (D := D) (ci := 3) (v := .int c_t_size_52) (ty := .int) (C := RX3) (T := TX3) (N := 3) hx hb hts hinX3 tyX3 tyX3_ok nmX3 hown hK hP hD hS 0 rfl rfl 2 (by decide) hfl18 (fun _ h9 => h9) rfl (by decide +kernel) rfl rfl (Nat.le_of_ble_eq_true rfl) dX3_removeAt_52 (fun H locs hP hD hS => ?_)
        have hP : va_P D vwCl [(a_t, .inr (3, [.ref a_t_held, .ref a_t_before, .int c_t_size_52])), (a_t_held, .inl (cyJ, 12, .inr (.inl f_t_held_17)))] H := hP
        have hD : va_D A [(a_t, .inr (3, [.ref a_t_held, .ref a_t_before, .int c_t_size_52])), (a_t_held, .inl (cyJ, 12, .inr (.inl f_t_held_17)))] := hD
        obtain ⟨e0, e1⟩ := tup2 h
        subst e0
        subst e1
        have hP9 : va_P D vwCl [(a_t, .inr (3, [.ref a_t_held, .ref a_t_before, .int c_t_size_52])), (a_t_held, .inl (cyJ, 12, .inr (.inl f_t_held_17)))] H := hP.sub [0, 1] rfl
        have hD9 : va_D A [(a_t, .inr (3, [.ref a_t_held, .ref a_t_before, .int c_t_size_52])), (a_t_held, .inl (cyJ, 12, .inr (.inl f_t_held_17)))] := hD.sub [0, 1] (by decide) rfl
        exact W.vret hx hb hr (fun t ht hW => ⟨⟨(), rfl, trivial, wQA_of ht hP9 hD9⟩, hS.F ht⟩) hS.2.2 dX3_removeAt_55
      · have h := if_ c22 h
        refine lv_aload_n hx hb dX3_removeAt_25 rfl (lv_at hl 0 rfl) ?_
        refine va_get (D := D) (ci := 3) (v := .ref a_t_held) (C := RX3) (T := TX3) (N := 3) hx hb hts hinX3 hown hK hP 0 rfl rfl 0 (by decide) hfl9 (fun _ h9 => h9) rfl dX3_removeAt_26 ?_
        refine lv_iload_n hx hb dX3_removeAt_29 rfl (lv_at hl 1 rfl) ?_
        refine lv_iconst (v := 1) hx hb dX3_removeAt_30 (by decide) ?_
        refine lv_isub hx hb dX3_removeAt_31 ?_
        refine lv_aload_n hx hb dX3_removeAt_32 rfl (lv_at hl 0 rfl) ?_
        refine va_get (D := D) (ci := 3) (v := .ref a_t_held) (C := RX3) (T := TX3) (N := 3) hx hb hts hinX3 hown hK hP 0 rfl rfl 0 (by decide) hfl9 (fun _ h9 => h9) rfl dX3_removeAt_33 ?_
        refine lv_iload_n hx hb dX3_removeAt_36 rfl (lv_at hl 1 rfl) ?_
        obtain ⟨hq37, h⟩ := chk_h h
        refine va_lald hx hb hK hP 1 0 rfl rfl hq37 dX3_removeAt_37 ?_
        obtain ⟨hq38, h⟩ := chk_h h
        refine va_last hx hb hK hP hD hS 1 0 rfl rfl hq38 dX3_removeAt_38 (fun H locs hP hD hS => ?_)
        obtain ⟨f_t_held_38, e_f_t_held_38⟩ : ∃ z, z = vp_updL f_t_held_17 (y2_17 - (1 : Int32)).toNatClampNeg (f_t_held_17 y2_17.toNatClampNeg) := ⟨_, rfl⟩
        have h := bnd_h e_f_t_held_38 h
        have hP : va_P D vwCl [(a_t, .inr (3, [.ref a_t_held, .ref a_t_before, .int c_t_size])), (a_t_held, .inl (cyJ, 12, .inr (.inl f_t_held_38)))] H := by rw [e_f_t_held_38]; exact hP
        have hD : va_D A [(a_t, .inr (3, [.ref a_t_held, .ref a_t_before, .int c_t_size])), (a_t_held, .inl (cyJ, 12, .inr (.inl f_t_held_38)))] := by rw [e_f_t_held_38]; exact hD
        obtain ⟨x2_39, e_x2_39⟩ : ∃ z : Int32, z = y2_17 + 1 := ⟨_, rfl⟩
        have h := bnd_h e_x2_39 h
        refine lv_iinc (v := x2_39) (lv' := [(2, .int x2_39), (0, .ref a_t)]) hx hb dX3_removeAt_39 hl (k := 1) rfl (by rw [e_x2_39]; rfl) (by decide) rfl (fun ls hl => ?_)
        refine lv_goto (tgt := 17) hx hb dX3_removeAt_42 (by decide) ?_
        exact hih17 x2_39 f_t_held_38 h _ _ (hP.sub [0, 1] rfl) (hD.sub [0, 1] (by decide) rfl) hS ls (lv_sub hl [1, 0] rfl)
    · have h := if_ c9 h
      obtain ⟨e0, e1⟩ := tup2 h
      subst e0
      subst e1
      have hP9 : va_P D vwCl [(a_t, .inr (3, [.ref a_t_held, .ref a_t_before, .int c_t_size])), (a_t_held, .inl (cyJ, 12, .inr (.inl f_t_held)))] s.heap := hP.sub [0, 1] rfl
      have hD9 : va_D A [(a_t, .inr (3, [.ref a_t_held, .ref a_t_before, .int c_t_size])), (a_t_held, .inl (cyJ, 12, .inr (.inl f_t_held)))] := hD.sub [0, 1] (by decide) rfl
      exact W.vret hx hb hr (fun t ht hW => ⟨⟨(), rfl, trivial, wQA_of ht hP9 hD9⟩, hS.F ht⟩) hS.2.2 dX3_removeAt_12

noncomputable abbrev rmX7_strike : Room := { frames := 9, cells := 1, slots := 6, locals := 121 }
theorem ydX7_strike : yX7_strike.cls = RX7 ∧ yX7_strike.cls ≠ "java/lang/invoke/MethodHandle" ∧ yX7_strike.cls ≠ "java/lang/invoke/VarHandle" ∧ (parseMethodDescriptor yX7_strike.desc).map (fun d => d.parameters.length) = some 1 := by decide +kernel
noncomputable def F_X7_strike (c_t_acts : Int32) (c_t_roll_size : Int32) (f_t_roll_held : Nat → Int64) (p0 : Int32) : Option (Nat × Int32 × Int32 × Int32 × (Nat → Int64)) :=
 obn (F_X7_testRolled c_t_roll_size p0) (fun xc2 =>
 if xc2 = 0 then
 obn (F_X3_at c_t_roll_size f_t_roll_held p0) (fun r10 =>
 obn2 (F_X3_removeAt c_t_roll_size f_t_roll_held p0) (fun c_t_roll_size_19 f_t_roll_held_19 =>
 obn (F_X0_degreeOf r10) (fun r24 =>
 obn2 (F_X7_done c_t_acts r24) (fun r27 c_t_acts_27 =>
 some (0, r27, c_t_acts_27, c_t_roll_size_19, f_t_roll_held_19)))))
else
 some (xc2, 0, c_t_acts, c_t_roll_size, f_t_roll_held))
set_option maxHeartbeats 4000000 in
set_option maxRecDepth 100000 in
theorem c_X7_strike (l : Launch) (hfl : l.stackTraces = false) (D : va_G) (cyJ : ClassId) (sz : Nat) (a_t : Nat) (a_t_forms : Nat) (a_t_roll : Nat) (a_t_row : Nat) (a_t_rows : Nat) (a_t_factors : Nat) (a_t_found : Nat) (a_t_foundOtherwise : Nat) (a_t_roll_held : Nat) (a_t_roll_before : Nat) (c_t_acts : Int32) (c_t_refusals : Int32) (c_t_knocks : Int32) (c_t_roll_size : Int32) (f_t_roll_held : Nat → Int64) (p0 : Int32) (xc : Nat) (r0 : Int32) (o_c_t_acts : Int32) (o_c_t_roll_size : Int32) (o_f_t_roll_held : Nat → Int64) (hF : F_X7_strike c_t_acts c_t_roll_size f_t_roll_held p0 = some (xc, r0, o_c_t_acts, o_c_t_roll_size, o_f_t_roll_held)) : vx_Met l yX7_strike wsX7_strike rmX7_strike (va_Pc [.ref a_t, .int p0] (wPX D [(cyJ, .long)] [(a_t, .inr (6, [.ref a_t_forms, .ref a_t_roll, .ref a_t_row, .ref a_t_rows, .ref a_t_factors, .ref a_t_found, .ref a_t_foundOtherwise, .int c_t_acts, .int c_t_refusals, .int c_t_knocks])), (a_t_roll, .inr (3, [.ref a_t_roll_held, .ref a_t_roll_before, .int c_t_roll_size])), (a_t_roll_held, .inl (cyJ, 12, .inr (.inl f_t_roll_held)))] sz)) (va_Qi (fun (r : Int32) (_ : Unit) => xc = 0 ∧ r = r0) (fun _ t => wQA D [(a_t, .inr (6, [.ref a_t_forms, .ref a_t_roll, .ref a_t_row, .ref a_t_rows, .ref a_t_factors, .ref a_t_found, .ref a_t_foundOtherwise, .int o_c_t_acts, .int c_t_refusals, .int c_t_knocks])), (a_t_roll, .inr (3, [.ref a_t_roll_held, .ref a_t_roll_before, .int o_c_t_roll_size])), (a_t_roll_held, .inl (cyJ, 12, .inr (.inl o_f_t_roll_held)))] (va_A [(a_t, .inr (6, [.ref a_t_forms, .ref a_t_roll, .ref a_t_row, .ref a_t_rows, .ref a_t_factors, .ref a_t_found, .ref a_t_foundOtherwise, .int c_t_acts, .int c_t_refusals, .int c_t_knocks])), (a_t_roll, .inr (3, [.ref a_t_roll_held, .ref a_t_roll_before, .int c_t_roll_size])), (a_t_roll_held, .inl (cyJ, 12, .inr (.inl f_t_roll_held)))] sz) t) (va_A [(a_t, .inr (6, [.ref a_t_forms, .ref a_t_roll, .ref a_t_row, .ref a_t_rows, .ref a_t_factors, .ref a_t_found, .ref a_t_foundOtherwise, .int c_t_acts, .int c_t_refusals, .int c_t_knocks])), (a_t_roll, .inr (3, [.ref a_t_roll_held, .ref a_t_roll_before, .int c_t_roll_size])), (a_t_roll_held, .inl (cyJ, 12, .inr (.inl f_t_roll_held)))] sz)) (vx_X (fun (_ : Unit) => ¬ xc = 0) (fun E _ t => E = xcls xc ∧ wQA D [(a_t, .inr (6, [.ref a_t_forms, .ref a_t_roll, .ref a_t_row, .ref a_t_rows, .ref a_t_factors, .ref a_t_found, .ref a_t_foundOtherwise, .int o_c_t_acts, .int c_t_refusals, .int c_t_knocks])), (a_t_roll, .inr (3, [.ref a_t_roll_held, .ref a_t_roll_before, .int o_c_t_roll_size])), (a_t_roll_held, .inl (cyJ, 12, .inr (.inl o_f_t_roll_held)))] (va_A [(a_t, .inr (6, [.ref a_t_forms, .ref a_t_roll, .ref a_t_row, .ref a_t_rows, .ref a_t_factors, .ref a_t_found, .ref a_t_foundOtherwise, .int c_t_acts, .int c_t_refusals, .int c_t_knocks])), (a_t_roll, .inr (3, [.ref a_t_roll_held, .ref a_t_roll_before, .int c_t_roll_size])), (a_t_roll_held, .inl (cyJ, 12, .inr (.inl f_t_roll_held)))] sz) t) (va_A [(a_t, .inr (6, [.ref a_t_forms, .ref a_t_roll, .ref a_t_row, .ref a_t_rows, .ref a_t_factors, .ref a_t_found, .ref a_t_foundOtherwise, .int c_t_acts, .int c_t_refusals, .int c_t_knocks])), (a_t_roll, .inr (3, [.ref a_t_roll_held, .ref a_t_roll_before, .int c_t_roll_size])), (a_t_roll_held, .inl (cyJ, 12, .inr (.inl f_t_roll_held)))] sz)) 1 6 (va_A [(a_t, .inr (6, [.ref a_t_forms, .ref a_t_roll, .ref a_t_row, .ref a_t_rows, .ref a_t_factors, .ref a_t_found, .ref a_t_foundOtherwise, .int c_t_acts, .int c_t_refusals, .int c_t_knocks])), (a_t_roll, .inr (3, [.ref a_t_roll_held, .ref a_t_roll_before, .int c_t_roll_size])), (a_t_roll_held, .inl (cyJ, 12, .inr (.inl f_t_roll_held)))] sz) := by
  refine vx_ofW (cc := cX7_strike) (maxL := 4) (ret := (some .int)) (by decide) rfl ?_
  intro p e s m args below meth c s₁ B hml hxt hv
  obtain ⟨rfl, ⟨⟨hsz, hP, hK, hD0, hnw⟩, hE⟩⟩ := hv
  have hx := B.exec
  have hb := B.bytes
  have hr := B.returns
  have hts := atoms_spec (ws := wsX7_strike) B.pre
  have hown : s.vm.findClass RX7 = some m.cls := findClass_of_methodNamed B.named
  have hlocks := B.notSynchronized
  have hcf : CallFix _ _ _ _ _ _ _ _ _ := ⟨hx, hb, hml, hown, hts⟩
  have hinX7 : ∀ w ∈ u_ws RX7 TX7 10, w ∈ wsX7_strike := by decide +kernel
  have hfl16 := hts (.fieldLink RX7 16 "Formwheel" "roll" "LFormwheel$Roll;") (by decide +kernel)
  subst hsz
  have hD := hD0.self (sz := s.heap.size)
  generalize hAe : va_A [(a_t, .inr (6, [.ref a_t_forms, .ref a_t_roll, .ref a_t_row, .ref a_t_rows, .ref a_t_factors, .ref a_t_found, .ref a_t_foundOtherwise, .int c_t_acts, .int c_t_refusals, .int c_t_knocks])), (a_t_roll, .inr (3, [.ref a_t_roll_held, .ref a_t_roll_before, .int c_t_roll_size])), (a_t_roll_held, .inl (cyJ, 12, .inr (.inl f_t_roll_held)))] s.heap.size = A at hD hE ⊢
  have hA : ∀ q : Nat, s.heap.size ≤ q → A q := fun q h => by rw [← hAe]; exact Or.inr h
  have hS : va_S A s.heap s.heap [] := va_S.rf
  have hP : va_P D vwCl [(a_t, .inr (6, [.ref a_t_forms, .ref a_t_roll, .ref a_t_row, .ref a_t_rows, .ref a_t_factors, .ref a_t_found, .ref a_t_foundOtherwise, .int c_t_acts, .int c_t_refusals, .int c_t_knocks])), (a_t_roll, .inr (3, [.ref a_t_roll_held, .ref a_t_roll_before, .int c_t_roll_size])), (a_t_roll_held, .inl (cyJ, 12, .inr (.inl f_t_roll_held)))] s.heap := hP
  have hK0 := hK
  have hl := lv_entry ([.ref a_t, .int p0]) (n := 4) (Nat.le_of_ble_eq_true rfl)
  rw [lg_entry_eq]
  generalize (lg_sl ([.ref a_t, .int p0]) ++ List.replicate (4 - (lg_sl ([.ref a_t, .int p0])).length) Slot.unset).toArray = ls at hl ⊢
  have hl : lv_has ls 4 [(0, .ref a_t), (1, .int p0)] := hl
  have h := hF
  clear hF
  unfold F_X7_strike at h
  refine lv_aload_n hx hb dX7_strike_0 rfl (lv_at hl 0 rfl) ?_
  refine lv_iload_n hx hb dX7_strike_1 rfl (lv_at hl 1 rfl) ?_
  obtain ⟨xc2, hc2, h⟩ := obn_h h
  have hPc := hP.sub (ws' := [(a_t, .inr (6, [.ref a_t_forms, .ref a_t_roll, .ref a_t_row, .ref a_t_rows, .ref a_t_factors, .ref a_t_found, .ref a_t_foundOtherwise, .int c_t_acts, .int c_t_refusals, .int c_t_knocks])), (a_t_roll, .inr (3, [.ref a_t_roll_held, .ref a_t_roll_before, .int c_t_roll_size]))]) [0, 1] rfl
  have hDc := hD.sub (ws' := [(a_t, .inr (6, [.ref a_t_forms, .ref a_t_roll, .ref a_t_row, .ref a_t_rows, .ref a_t_factors, .ref a_t_found, .ref a_t_foundOtherwise, .int c_t_acts, .int c_t_refusals, .int c_t_knocks])), (a_t_roll, .inr (3, [.ref a_t_roll_held, .ref a_t_roll_before, .int c_t_roll_size]))]) [0, 1] (by decide) rfl
  refine hx_v (w1 := [(a_t, .inr (6, [.ref a_t_forms, .ref a_t_roll, .ref a_t_row, .ref a_t_rows, .ref a_t_factors, .ref a_t_found, .ref a_t_foundOtherwise, .int c_t_acts, .int c_t_refusals, .int c_t_knocks])), (a_t_roll, .inr (3, [.ref a_t_roll_held, .ref a_t_roll_before, .int c_t_roll_size]))]) (wr := [(a_t_roll_held, .inl (cyJ, 12, .inr (.inl f_t_roll_held)))]) (vx_runV (As := [.int p0]) (rest := []) hcf (c_X7_testRolled l hfl D cyJ s.heap.size a_t a_t_forms a_t_roll a_t_row a_t_rows a_t_factors a_t_found a_t_foundOtherwise a_t_roll_held a_t_roll_before c_t_acts c_t_refusals c_t_knocks c_t_roll_size p0 xc2 hc2) (cwV 1 hts gX7_strike_X7_testRolled rfl rfl rfl ydX7_testRolled ⟨Nat.le_of_ble_eq_true rfl, Nat.le_of_ble_eq_true rfl⟩) ⟨bl_PX, va_recv hK hP (ci := 6) (q0 := 0) rfl rfl, pr_PX hPc hK0 hDc hnw hE hS (va_free hD hS hA [0, 1] rfl)⟩ rfl rfl hl.1 rfl (lv_room (Nat.le_of_ble_eq_true rfl)) dX7_strike_2 ⟨Nat.le_of_ble_eq_true rfl, Nat.le_of_ble_eq_true rfl⟩) hP hD hS hA [0, 1] [2] rfl rfl (by decide) (by decide) (fun E9 ce9 q9 H locs hx9 hE9 hP hD hS hce9 hcv9 hcl9 => ?_) (fun hx9 H locs hP hD hS => ?_)
  · have h := if_ hx9 h
    have hP : va_P D vwCl [(a_t_roll_held, .inl (cyJ, 12, .inr (.inl f_t_roll_held))), (a_t, .inr (6, [.ref a_t_forms, .ref a_t_roll, .ref a_t_row, .ref a_t_rows, .ref a_t_factors, .ref a_t_found, .ref a_t_foundOtherwise, .int c_t_acts, .int c_t_refusals, .int c_t_knocks])), (a_t_roll, .inr (3, [.ref a_t_roll_held, .ref a_t_roll_before, .int c_t_roll_size]))] H := hP
    have hD : va_D A [(a_t_roll_held, .inl (cyJ, 12, .inr (.inl f_t_roll_held))), (a_t, .inr (6, [.ref a_t_forms, .ref a_t_roll, .ref a_t_row, .ref a_t_rows, .ref a_t_factors, .ref a_t_found, .ref a_t_foundOtherwise, .int c_t_acts, .int c_t_refusals, .int c_t_knocks])), (a_t_roll, .inr (3, [.ref a_t_roll_held, .ref a_t_roll_before, .int c_t_roll_size]))] := hD
    obtain ⟨e0, e1, e2, e3, e4⟩ := tup5 h
    subst e0
    subst e1
    subst e2
    subst e3
    subst e4
    have hP9 : va_P D vwCl [(a_t, .inr (6, [.ref a_t_forms, .ref a_t_roll, .ref a_t_row, .ref a_t_rows, .ref a_t_factors, .ref a_t_found, .ref a_t_foundOtherwise, .int c_t_acts, .int c_t_refusals, .int c_t_knocks])), (a_t_roll, .inr (3, [.ref a_t_roll_held, .ref a_t_roll_before, .int c_t_roll_size])), (a_t_roll_held, .inl (cyJ, 12, .inr (.inl f_t_roll_held)))] H := hP.sub [1, 2, 0] rfl
    have hD9 : va_D A [(a_t, .inr (6, [.ref a_t_forms, .ref a_t_roll, .ref a_t_row, .ref a_t_rows, .ref a_t_factors, .ref a_t_found, .ref a_t_foundOtherwise, .int c_t_acts, .int c_t_refusals, .int c_t_knocks])), (a_t_roll, .inr (3, [.ref a_t_roll_held, .ref a_t_roll_before, .int c_t_roll_size])), (a_t_roll_held, .inl (cyJ, 12, .inr (.inl f_t_roll_held)))] := hD.sub [1, 2, 0] (by decide) rfl
    exact vx_out (fun x hx => (hxt x hx).elim) hlocks hce9 hcv9 hcl9 (fun t ht hW => ⟨(), hx9, ⟨hE9, wQA_of ht hP9 hD9⟩, hS.F ht⟩) hS.2.2 (Nat.le_of_ble_eq_true rfl) (Nat.le_of_ble_eq_true rfl)
  · have h := it_ hx9 h
    have hP : va_P D vwCl [(a_t_roll_held, .inl (cyJ, 12, .inr (.inl f_t_roll_held))), (a_t, .inr (6, [.ref a_t_forms, .ref a_t_roll, .ref a_t_row, .ref a_t_rows, .ref a_t_factors, .ref a_t_found, .ref a_t_foundOtherwise, .int c_t_acts, .int c_t_refusals, .int c_t_knocks])), (a_t_roll, .inr (3, [.ref a_t_roll_held, .ref a_t_roll_before, .int c_t_roll_size]))] H := hP
    have hD : va_D A [(a_t_roll_held, .inl (cyJ, 12, .inr (.inl f_t_roll_held))), (a_t, .inr (6, [.ref a_t_forms, .ref a_t_roll, .ref a_t_row, .ref a_t_rows, .ref a_t_factors, .ref a_t_found, .ref a_t_foundOtherwise, .int c_t_acts, .int c_t_refusals, .int c_t_knocks])), (a_t_roll, .inr (3, [.ref a_t_roll_held, .ref a_t_roll_before, .int c_t_roll_size]))] := hD
    refine lv_aload_n hx hb dX7_strike_5 rfl (lv_at hl 0 rfl) ?_
    refine va_get (D := D) (ci := 6) (v := .ref a_t_roll) (C := RX7) (T := TX7) (N := 10) hx hb hts hinX7 hown hK hP 1 rfl rfl 1 (by decide) hfl16 (fun _ h9 => h9) rfl dX7_strike_6 ?_
    refine lv_iload_n hx hb dX7_strike_9 rfl (lv_at hl 1 rfl) ?_
    obtain ⟨r10, hc10, h⟩ := obn_h h
    have hPc : va_P D vwCl [(a_t_roll, .inr (3, [.ref a_t_roll_held, .ref a_t_roll_before, .int c_t_roll_size])), (a_t_roll_held, .inl (cyJ, 12, .inr (.inl f_t_roll_held)))] H := hP.sub [2, 0] rfl
    refine rd_callV (As := [.int p0]) (rest := []) hcf (c_X3_at l D cyJ a_t_roll a_t_roll_held a_t_roll_before c_t_roll_size f_t_roll_held p0 r10 hc10) (cwV 1 hts gX7_strike_X3_at rfl rfl rfl ydX3_at ⟨Nat.le_of_ble_eq_true rfl, Nat.le_of_ble_eq_true rfl⟩) hnw hPc hK0 (va_recv hK hP (ci := 3) (q0 := 2) rfl rfl) rfl hl.1 rfl (Nat.le_of_ble_eq_true rfl) dX7_strike_10 ⟨Nat.le_of_ble_eq_true rfl, Nat.le_of_ble_eq_true rfl⟩ ?_
    refine lv_lstore_n (lv' := [(2, .long r10), (0, .ref a_t), (1, .int p0)]) hx hb dX7_strike_13 rfl hl (by decide) rfl (fun ls hl => ?_)
    refine lv_aload_n hx hb dX7_strike_14 rfl (lv_at hl 1 rfl) ?_
    refine va_get (D := D) (ci := 6) (v := .ref a_t_roll) (C := RX7) (T := TX7) (N := 10) hx hb hts hinX7 hown hK hP 1 rfl rfl 1 (by decide) hfl16 (fun _ h9 => h9) rfl dX7_strike_15 ?_
    refine lv_iload_n hx hb dX7_strike_18 rfl (lv_at hl 2 rfl) ?_
    obtain ⟨c_t_roll_size_19, f_t_roll_held_19, hc19, h⟩ := obn2_h h
    have hPc := hP.sub (ws' := [(a_t_roll, .inr (3, [.ref a_t_roll_held, .ref a_t_roll_before, .int c_t_roll_size])), (a_t_roll_held, .inl (cyJ, 12, .inr (.inl f_t_roll_held)))]) [2, 0] rfl
    have hDc := hD.sub (ws' := [(a_t_roll, .inr (3, [.ref a_t_roll_held, .ref a_t_roll_before, .int c_t_roll_size])), (a_t_roll_held, .inl (cyJ, 12, .inr (.inl f_t_roll_held)))]) [2, 0] (by decide) rfl
    refine hp_v (w1 := [(a_t_roll, .inr (3, [.ref a_t_roll_held, .ref a_t_roll_before, .int c_t_roll_size_19])), (a_t_roll_held, .inl (cyJ, 12, .inr (.inl f_t_roll_held_19)))]) (wr := [(a_t, .inr (6, [.ref a_t_forms, .ref a_t_roll, .ref a_t_row, .ref a_t_rows, .ref a_t_factors, .ref a_t_found, .ref a_t_foundOtherwise, .int c_t_acts, .int c_t_refusals, .int c_t_knocks]))]) (va_runV (As := [.int p0]) (rest := []) hcf (c_X3_removeAt l D cyJ H.size a_t_roll a_t_roll_held a_t_roll_before c_t_roll_size f_t_roll_held p0 c_t_roll_size_19 f_t_roll_held_19 hc19) (cwV 1 hts gX7_strike_X3_removeAt rfl rfl rfl ydX3_removeAt ⟨Nat.le_of_ble_eq_true rfl, Nat.le_of_ble_eq_true rfl⟩) ⟨bl_PD, va_recv hK hP (ci := 3) (q0 := 2) rfl rfl, pr_PD hPc hK0 hDc hnw⟩ rfl rfl hl.1 rfl (lv_room (Nat.le_of_ble_eq_true rfl)) dX7_strike_19 ⟨Nat.le_of_ble_eq_true rfl, Nat.le_of_ble_eq_true rfl⟩) hP hD hS hA [2, 0] [1] rfl rfl (by decide) (by decide) (fun H locs hP hD hS => ?_)
    have hP : va_P D vwCl [(a_t, .inr (6, [.ref a_t_forms, .ref a_t_roll, .ref a_t_row, .ref a_t_rows, .ref a_t_factors, .ref a_t_found, .ref a_t_foundOtherwise, .int c_t_acts, .int c_t_refusals, .int c_t_knocks])), (a_t_roll, .inr (3, [.ref a_t_roll_held, .ref a_t_roll_before, .int c_t_roll_size_19])), (a_t_roll_held, .inl (cyJ, 12, .inr (.inl f_t_roll_held_19)))] H := hP
    have hD : va_D A [(a_t, .inr (6, [.ref a_t_forms, .ref a_t_roll, .ref a_t_row, .ref a_t_rows, .ref a_t_factors, .ref a_t_found, .ref a_t_foundOtherwise, .int c_t_acts, .int c_t_refusals, .int c_t_knocks])), (a_t_roll, .inr (3, [.ref a_t_roll_held, .ref a_t_roll_before, .int c_t_roll_size_19])), (a_t_roll_held, .inl (cyJ, 12, .inr (.inl f_t_roll_held_19)))] := hD
    refine lv_aload_n hx hb dX7_strike_22 rfl (lv_at hl 1 rfl) ?_
    refine lv_lload_n hx hb dX7_strike_23 rfl (lv_at hl 0 rfl) ?_
    obtain ⟨r24, hc24, h⟩ := obn_h h
    refine pz_callS (As := [.long r10]) (rest := [.ref a_t]) hcf (c_X0_degreeOf l r10 r24 hc24) (va_cwS 1 hts gX7_strike_X0_degreeOf rfl rfl rfl ydX0_degreeOf ⟨Nat.le_of_ble_eq_true rfl, Nat.le_of_ble_eq_true rfl⟩) hnw rfl hl.1 rfl (Nat.le_of_ble_eq_true rfl) dX7_strike_24 ⟨Nat.le_of_ble_eq_true rfl, Nat.le_of_ble_eq_true rfl⟩ ?_
    obtain ⟨r27, c_t_acts_27, hc27, h⟩ := obn2_h h
    have hPc := hP.sub (ws' := [(a_t, .inr (6, [.ref a_t_forms, .ref a_t_roll, .ref a_t_row, .ref a_t_rows, .ref a_t_factors, .ref a_t_found, .ref a_t_foundOtherwise, .int c_t_acts, .int c_t_refusals, .int c_t_knocks]))]) [0] rfl
    have hDc := hD.sub (ws' := [(a_t, .inr (6, [.ref a_t_forms, .ref a_t_roll, .ref a_t_row, .ref a_t_rows, .ref a_t_factors, .ref a_t_found, .ref a_t_foundOtherwise, .int c_t_acts, .int c_t_refusals, .int c_t_knocks]))]) [0] (by decide) rfl
    refine hp_i (w1 := [(a_t, .inr (6, [.ref a_t_forms, .ref a_t_roll, .ref a_t_row, .ref a_t_rows, .ref a_t_factors, .ref a_t_found, .ref a_t_foundOtherwise, .int c_t_acts_27, .int c_t_refusals, .int c_t_knocks]))]) (wr := [(a_t_roll, .inr (3, [.ref a_t_roll_held, .ref a_t_roll_before, .int c_t_roll_size_19])), (a_t_roll_held, .inl (cyJ, 12, .inr (.inl f_t_roll_held_19)))]) (va_runV (As := [.int r24]) (rest := []) hcf (c_X7_done l D cyJ H.size a_t a_t_forms a_t_roll a_t_row a_t_rows a_t_factors a_t_found a_t_foundOtherwise c_t_acts c_t_refusals c_t_knocks r24 r27 c_t_acts_27 hc27) (cwV 1 hts gX7_strike_X7_done rfl rfl rfl ydX7_done ⟨Nat.le_of_ble_eq_true rfl, Nat.le_of_ble_eq_true rfl⟩) ⟨bl_PD, va_recv hK hP (ci := 6) (q0 := 0) rfl rfl, pr_PD hPc hK0 hDc hnw⟩ rfl rfl hl.1 rfl (lv_room (Nat.le_of_ble_eq_true rfl)) dX7_strike_27 ⟨Nat.le_of_ble_eq_true rfl, Nat.le_of_ble_eq_true rfl⟩) hP hD hS hA [0] [1, 2] rfl rfl (by decide) (by decide) (fun H locs hP hD hS => ?_)
    have hP : va_P D vwCl [(a_t_roll, .inr (3, [.ref a_t_roll_held, .ref a_t_roll_before, .int c_t_roll_size_19])), (a_t_roll_held, .inl (cyJ, 12, .inr (.inl f_t_roll_held_19))), (a_t, .inr (6, [.ref a_t_forms, .ref a_t_roll, .ref a_t_row, .ref a_t_rows, .ref a_t_factors, .ref a_t_found, .ref a_t_foundOtherwise, .int c_t_acts_27, .int c_t_refusals, .int c_t_knocks]))] H := hP
    have hD : va_D A [(a_t_roll, .inr (3, [.ref a_t_roll_held, .ref a_t_roll_before, .int c_t_roll_size_19])), (a_t_roll_held, .inl (cyJ, 12, .inr (.inl f_t_roll_held_19))), (a_t, .inr (6, [.ref a_t_forms, .ref a_t_roll, .ref a_t_row, .ref a_t_rows, .ref a_t_factors, .ref a_t_found, .ref a_t_foundOtherwise, .int c_t_acts_27, .int c_t_refusals, .int c_t_knocks]))] := hD
    obtain ⟨e0, e1, e2, e3, e4⟩ := tup5 h
    subst e0
    subst e1
    subst e2
    subst e3
    subst e4
    have hP9 : va_P D vwCl [(a_t, .inr (6, [.ref a_t_forms, .ref a_t_roll, .ref a_t_row, .ref a_t_rows, .ref a_t_factors, .ref a_t_found, .ref a_t_foundOtherwise, .int c_t_acts_27, .int c_t_refusals, .int c_t_knocks])), (a_t_roll, .inr (3, [.ref a_t_roll_held, .ref a_t_roll_before, .int c_t_roll_size_19])), (a_t_roll_held, .inl (cyJ, 12, .inr (.inl f_t_roll_held_19)))] H := hP.sub [2, 0, 1] rfl
    have hD9 : va_D A [(a_t, .inr (6, [.ref a_t_forms, .ref a_t_roll, .ref a_t_row, .ref a_t_rows, .ref a_t_factors, .ref a_t_found, .ref a_t_foundOtherwise, .int c_t_acts_27, .int c_t_refusals, .int c_t_knocks])), (a_t_roll, .inr (3, [.ref a_t_roll_held, .ref a_t_roll_before, .int c_t_roll_size_19])), (a_t_roll_held, .inl (cyJ, 12, .inr (.inl f_t_roll_held_19)))] := hD.sub [2, 0, 1] (by decide) rfl
    refine vx_ret ?_
    exact W.iret hx hb hr (fun t ht hW => ⟨⟨_, (), rfl, ⟨rfl, rfl⟩, wQA_of ht hP9 hD9⟩, hS.F ht⟩) hS.2.2 dX7_strike_30

noncomputable abbrev rmX7_clear : Room := { frames := 1, cells := 0, slots := 0, locals := 21 }
theorem ydX7_clear : yX7_clear.cls = RX7 ∧ yX7_clear.cls ≠ "java/lang/invoke/MethodHandle" ∧ yX7_clear.cls ≠ "java/lang/invoke/VarHandle" ∧ (parseMethodDescriptor yX7_clear.desc).map (fun d => d.parameters.length) = some 0 := by decide +kernel
noncomputable def F_X7_clear (c_t_acts : Int32) (c_t_roll_size : Int32) : Option (Int32 × Int32 × Int32) :=
 obn (F_X3_removeAll ) (fun c_t_roll_size_12 =>
 obn2 (F_X7_done c_t_acts c_t_roll_size) (fun r17 c_t_acts_17 =>
 some (r17, c_t_acts_17, c_t_roll_size_12)))
set_option maxHeartbeats 4000000 in
set_option maxRecDepth 100000 in
theorem c_X7_clear (l : Launch) (D : va_G) (cyJ : ClassId) (sz : Nat) (a_t : Nat) (a_t_forms : Nat) (a_t_roll : Nat) (a_t_row : Nat) (a_t_rows : Nat) (a_t_factors : Nat) (a_t_found : Nat) (a_t_foundOtherwise : Nat) (a_t_roll_held : Nat) (a_t_roll_before : Nat) (c_t_acts : Int32) (c_t_refusals : Int32) (c_t_knocks : Int32) (c_t_roll_size : Int32) (r0 : Int32) (o_c_t_acts : Int32) (o_c_t_roll_size : Int32) (hF : F_X7_clear c_t_acts c_t_roll_size = some (r0, o_c_t_acts, o_c_t_roll_size)) : Met l yX7_clear wsX7_clear rmX7_clear (va_Pc [.ref a_t] (wPD D [(cyJ, .long)] [(a_t, .inr (6, [.ref a_t_forms, .ref a_t_roll, .ref a_t_row, .ref a_t_rows, .ref a_t_factors, .ref a_t_found, .ref a_t_foundOtherwise, .int c_t_acts, .int c_t_refusals, .int c_t_knocks])), (a_t_roll, .inr (3, [.ref a_t_roll_held, .ref a_t_roll_before, .int c_t_roll_size]))] sz)) (va_Qi (fun (r : Int32) (_ : Unit) => r = r0) (fun _ t => wQA D [(a_t, .inr (6, [.ref a_t_forms, .ref a_t_roll, .ref a_t_row, .ref a_t_rows, .ref a_t_factors, .ref a_t_found, .ref a_t_foundOtherwise, .int o_c_t_acts, .int c_t_refusals, .int c_t_knocks])), (a_t_roll, .inr (3, [.ref a_t_roll_held, .ref a_t_roll_before, .int o_c_t_roll_size]))] (va_A [(a_t, .inr (6, [.ref a_t_forms, .ref a_t_roll, .ref a_t_row, .ref a_t_rows, .ref a_t_factors, .ref a_t_found, .ref a_t_foundOtherwise, .int c_t_acts, .int c_t_refusals, .int c_t_knocks])), (a_t_roll, .inr (3, [.ref a_t_roll_held, .ref a_t_roll_before, .int c_t_roll_size]))] sz) t) (va_A [(a_t, .inr (6, [.ref a_t_forms, .ref a_t_roll, .ref a_t_row, .ref a_t_rows, .ref a_t_factors, .ref a_t_found, .ref a_t_foundOtherwise, .int c_t_acts, .int c_t_refusals, .int c_t_knocks])), (a_t_roll, .inr (3, [.ref a_t_roll_held, .ref a_t_roll_before, .int c_t_roll_size]))] sz)) 0 0 (va_A [(a_t, .inr (6, [.ref a_t_forms, .ref a_t_roll, .ref a_t_row, .ref a_t_rows, .ref a_t_factors, .ref a_t_found, .ref a_t_foundOtherwise, .int c_t_acts, .int c_t_refusals, .int c_t_knocks])), (a_t_roll, .inr (3, [.ref a_t_roll_held, .ref a_t_roll_before, .int c_t_roll_size]))] sz) := by
  refine Met.ofW (cc := cX7_clear) (maxL := 2) (ret := (some .int)) (by decide) rfl ?_
  intro p e s m args below meth c s₁ B hml hv
  obtain ⟨rfl, hsz, hP, hK, hD0, hnw⟩ := hv
  have hx := B.exec
  have hb := B.bytes
  have hr := B.returns
  have hts := atoms_spec (ws := wsX7_clear) B.pre
  have hown : s.vm.findClass RX7 = some m.cls := findClass_of_methodNamed B.named
  have hlocks := B.notSynchronized
  have hcf : CallFix _ _ _ _ _ _ _ _ _ := ⟨hx, hb, hml, hown, hts⟩
  have hinX7 : ∀ w ∈ u_ws RX7 TX7 10, w ∈ wsX7_clear := by decide +kernel
  have hfl16 := hts (.fieldLink RX7 16 "Formwheel" "roll" "LFormwheel$Roll;") (by decide +kernel)
  have hinX3 : ∀ w ∈ u_ws RX3 TX3 3, w ∈ wsX7_clear := by decide +kernel
  have hfl176 := hnw.use (A := ([.ref a_t] : List Value).toArray) (w := .fieldLinkNest RX7 176 "Formwheel$Roll" "size" "I" "Formwheel") (by decide +kernel)
  subst hsz
  have hD := hD0.self (sz := s.heap.size)
  generalize hAe : va_A [(a_t, .inr (6, [.ref a_t_forms, .ref a_t_roll, .ref a_t_row, .ref a_t_rows, .ref a_t_factors, .ref a_t_found, .ref a_t_foundOtherwise, .int c_t_acts, .int c_t_refusals, .int c_t_knocks])), (a_t_roll, .inr (3, [.ref a_t_roll_held, .ref a_t_roll_before, .int c_t_roll_size]))] s.heap.size = A at hD ⊢
  have hA : ∀ q : Nat, s.heap.size ≤ q → A q := fun q h => by rw [← hAe]; exact Or.inr h
  have hS : va_S A s.heap s.heap [] := va_S.rf
  have hP : va_P D vwCl [(a_t, .inr (6, [.ref a_t_forms, .ref a_t_roll, .ref a_t_row, .ref a_t_rows, .ref a_t_factors, .ref a_t_found, .ref a_t_foundOtherwise, .int c_t_acts, .int c_t_refusals, .int c_t_knocks])), (a_t_roll, .inr (3, [.ref a_t_roll_held, .ref a_t_roll_before, .int c_t_roll_size]))] s.heap := hP
  have hK0 := hK
  have hl := lv_entry ([.ref a_t]) (n := 2) (Nat.le_of_ble_eq_true rfl)
  rw [lg_entry_eq]
  generalize (lg_sl ([.ref a_t]) ++ List.replicate (2 - (lg_sl ([.ref a_t])).length) Slot.unset).toArray = ls at hl ⊢
  have hl : lv_has ls 2 [(0, .ref a_t)] := hl
  have h := hF
  clear hF
  unfold F_X7_clear at h
  refine lv_aload_n hx hb dX7_clear_0 rfl (lv_at hl 0 rfl) ?_
  refine va_get (D := D) (ci := 6) (v := .ref a_t_roll) (C := RX7) (T := TX7) (N := 10) hx hb hts hinX7 hown hK hP 0 rfl rfl 1 (by decide) hfl16 (fun _ h9 => h9) rfl dX7_clear_1 ?_
  refine va_getN (D := D) (ci := 3) (v := .int c_t_roll_size) (C := RX3) (T := TX3) (N := 3) hx hb hts hinX3 hown hK hP 1 rfl rfl 2 (by decide) hfl176 (fun _ h9 => h9) rfl dX7_clear_4 ?_
  refine lv_istore_n (lv' := [(1, .int c_t_roll_size), (0, .ref a_t)]) hx hb dX7_clear_7 rfl hl (by decide) rfl (fun ls hl => ?_)
  refine lv_aload_n hx hb dX7_clear_8 rfl (lv_at hl 1 rfl) ?_
  refine va_get (D := D) (ci := 6) (v := .ref a_t_roll) (C := RX7) (T := TX7) (N := 10) hx hb hts hinX7 hown hK hP 0 rfl rfl 1 (by decide) hfl16 (fun _ h9 => h9) rfl dX7_clear_9 ?_
  obtain ⟨c_t_roll_size_12, hc12, h⟩ := obn_h h
  have hPc := hP.sub (ws' := [(a_t_roll, .inr (3, [.ref a_t_roll_held, .ref a_t_roll_before, .int c_t_roll_size]))]) [1] rfl
  have hDc := hD.sub (ws' := [(a_t_roll, .inr (3, [.ref a_t_roll_held, .ref a_t_roll_before, .int c_t_roll_size]))]) [1] (by decide) rfl
  refine hp_v (w1 := [(a_t_roll, .inr (3, [.ref a_t_roll_held, .ref a_t_roll_before, .int c_t_roll_size_12]))]) (wr := [(a_t, .inr (6, [.ref a_t_forms, .ref a_t_roll, .ref a_t_row, .ref a_t_rows, .ref a_t_factors, .ref a_t_found, .ref a_t_foundOtherwise, .int c_t_acts, .int c_t_refusals, .int c_t_knocks]))]) (va_runV (As := []) (rest := []) hcf (c_X3_removeAll l D cyJ s.heap.size a_t_roll a_t_roll_held a_t_roll_before c_t_roll_size c_t_roll_size_12 hc12) (cwV 0 hts gX7_clear_X3_removeAll rfl rfl rfl ydX3_removeAll ⟨Nat.le_of_ble_eq_true rfl, Nat.le_of_ble_eq_true rfl⟩) ⟨bl_PD, va_recv hK hP (ci := 3) (q0 := 1) rfl rfl, pr_PD hPc hK0 hDc hnw⟩ rfl rfl hl.1 rfl (lv_room (Nat.le_of_ble_eq_true rfl)) dX7_clear_12 ⟨Nat.le_of_ble_eq_true rfl, Nat.le_of_ble_eq_true rfl⟩) hP hD hS hA [1] [0] rfl rfl (by decide) (by decide) (fun H locs hP hD hS => ?_)
  have hP : va_P D vwCl [(a_t, .inr (6, [.ref a_t_forms, .ref a_t_roll, .ref a_t_row, .ref a_t_rows, .ref a_t_factors, .ref a_t_found, .ref a_t_foundOtherwise, .int c_t_acts, .int c_t_refusals, .int c_t_knocks])), (a_t_roll, .inr (3, [.ref a_t_roll_held, .ref a_t_roll_before, .int c_t_roll_size_12]))] H := hP
  have hD : va_D A [(a_t, .inr (6, [.ref a_t_forms, .ref a_t_roll, .ref a_t_row, .ref a_t_rows, .ref a_t_factors, .ref a_t_found, .ref a_t_foundOtherwise, .int c_t_acts, .int c_t_refusals, .int c_t_knocks])), (a_t_roll, .inr (3, [.ref a_t_roll_held, .ref a_t_roll_before, .int c_t_roll_size_12]))] := hD
  refine lv_aload_n hx hb dX7_clear_15 rfl (lv_at hl 1 rfl) ?_
  refine lv_iload_n hx hb dX7_clear_16 rfl (lv_at hl 0 rfl) ?_
  obtain ⟨r17, c_t_acts_17, hc17, h⟩ := obn2_h h
  have hPc := hP.sub (ws' := [(a_t, .inr (6, [.ref a_t_forms, .ref a_t_roll, .ref a_t_row, .ref a_t_rows, .ref a_t_factors, .ref a_t_found, .ref a_t_foundOtherwise, .int c_t_acts, .int c_t_refusals, .int c_t_knocks]))]) [0] rfl
  have hDc := hD.sub (ws' := [(a_t, .inr (6, [.ref a_t_forms, .ref a_t_roll, .ref a_t_row, .ref a_t_rows, .ref a_t_factors, .ref a_t_found, .ref a_t_foundOtherwise, .int c_t_acts, .int c_t_refusals, .int c_t_knocks]))]) [0] (by decide) rfl
  refine hp_i (w1 := [(a_t, .inr (6, [.ref a_t_forms, .ref a_t_roll, .ref a_t_row, .ref a_t_rows, .ref a_t_factors, .ref a_t_found, .ref a_t_foundOtherwise, .int c_t_acts_17, .int c_t_refusals, .int c_t_knocks]))]) (wr := [(a_t_roll, .inr (3, [.ref a_t_roll_held, .ref a_t_roll_before, .int c_t_roll_size_12]))]) (va_runV (As := [.int c_t_roll_size]) (rest := []) hcf (c_X7_done l D cyJ H.size a_t a_t_forms a_t_roll a_t_row a_t_rows a_t_factors a_t_found a_t_foundOtherwise c_t_acts c_t_refusals c_t_knocks c_t_roll_size r17 c_t_acts_17 hc17) (cwV 1 hts gX7_clear_X7_done rfl rfl rfl ydX7_done ⟨Nat.le_of_ble_eq_true rfl, Nat.le_of_ble_eq_true rfl⟩) ⟨bl_PD, va_recv hK hP (ci := 6) (q0 := 0) rfl rfl, pr_PD hPc hK0 hDc hnw⟩ rfl rfl hl.1 rfl (lv_room (Nat.le_of_ble_eq_true rfl)) dX7_clear_17 ⟨Nat.le_of_ble_eq_true rfl, Nat.le_of_ble_eq_true rfl⟩) hP hD hS hA [0] [1] rfl rfl (by decide) (by decide) (fun H locs hP hD hS => ?_)
  have hP : va_P D vwCl [(a_t_roll, .inr (3, [.ref a_t_roll_held, .ref a_t_roll_before, .int c_t_roll_size_12])), (a_t, .inr (6, [.ref a_t_forms, .ref a_t_roll, .ref a_t_row, .ref a_t_rows, .ref a_t_factors, .ref a_t_found, .ref a_t_foundOtherwise, .int c_t_acts_17, .int c_t_refusals, .int c_t_knocks]))] H := hP
  have hD : va_D A [(a_t_roll, .inr (3, [.ref a_t_roll_held, .ref a_t_roll_before, .int c_t_roll_size_12])), (a_t, .inr (6, [.ref a_t_forms, .ref a_t_roll, .ref a_t_row, .ref a_t_rows, .ref a_t_factors, .ref a_t_found, .ref a_t_foundOtherwise, .int c_t_acts_17, .int c_t_refusals, .int c_t_knocks]))] := hD
  obtain ⟨e0, e1, e2⟩ := tup3 h
  subst e0
  subst e1
  subst e2
  have hP9 : va_P D vwCl [(a_t, .inr (6, [.ref a_t_forms, .ref a_t_roll, .ref a_t_row, .ref a_t_rows, .ref a_t_factors, .ref a_t_found, .ref a_t_foundOtherwise, .int c_t_acts_17, .int c_t_refusals, .int c_t_knocks])), (a_t_roll, .inr (3, [.ref a_t_roll_held, .ref a_t_roll_before, .int c_t_roll_size_12]))] H := hP.sub [1, 0] rfl
  have hD9 : va_D A [(a_t, .inr (6, [.ref a_t_forms, .ref a_t_roll, .ref a_t_row, .ref a_t_rows, .ref a_t_factors, .ref a_t_found, .ref a_t_foundOtherwise, .int c_t_acts_17, .int c_t_refusals, .int c_t_knocks])), (a_t_roll, .inr (3, [.ref a_t_roll_held, .ref a_t_roll_before, .int c_t_roll_size_12]))] := hD.sub [1, 0] (by decide) rfl
  exact W.iret hx hb hr (fun t ht hW => ⟨⟨_, (), rfl, rfl, wQA_of ht hP9 hD9⟩, hS.F ht⟩) hS.2.2 dX7_clear_20

noncomputable abbrev rmX7_sort : Room := { frames := 2, cells := 0, slots := 0, locals := 105 }
theorem ydX7_sort : yX7_sort.cls = RX7 ∧ yX7_sort.cls ≠ "java/lang/invoke/MethodHandle" ∧ yX7_sort.cls ≠ "java/lang/invoke/VarHandle" ∧ (parseMethodDescriptor yX7_sort.desc).map (fun d => d.parameters.length) = some 1 := by decide +kernel
noncomputable def F_X7_sort (c_t_acts : Int32) (c_t_roll_size : Int32) (f_t_roll_held : Nat → Int64) (f_t_roll_before : Nat → Int64) (p0 : Int32) : Option (Int32 × Int32 × (Nat → Int64) × (Nat → Int64)) :=
 obn3 (F_X3_arrange c_t_roll_size f_t_roll_held f_t_roll_before p0) (fun r6 f_t_roll_held_6 f_t_roll_before_6 =>
 obn2 (F_X7_done c_t_acts r6) (fun r9 c_t_acts_9 =>
 some (r9, c_t_acts_9, f_t_roll_held_6, f_t_roll_before_6)))
set_option maxHeartbeats 4000000 in
set_option maxRecDepth 100000 in
theorem c_X7_sort (l : Launch) (D : va_G) (cyJ : ClassId) (sz : Nat) (a_t : Nat) (a_t_forms : Nat) (a_t_roll : Nat) (a_t_row : Nat) (a_t_rows : Nat) (a_t_factors : Nat) (a_t_found : Nat) (a_t_foundOtherwise : Nat) (a_t_roll_held : Nat) (a_t_roll_before : Nat) (c_t_acts : Int32) (c_t_refusals : Int32) (c_t_knocks : Int32) (c_t_roll_size : Int32) (f_t_roll_held : Nat → Int64) (f_t_roll_before : Nat → Int64) (p0 : Int32) (r0 : Int32) (o_c_t_acts : Int32) (o_f_t_roll_held : Nat → Int64) (o_f_t_roll_before : Nat → Int64) (hF : F_X7_sort c_t_acts c_t_roll_size f_t_roll_held f_t_roll_before p0 = some (r0, o_c_t_acts, o_f_t_roll_held, o_f_t_roll_before)) : Met l yX7_sort wsX7_sort rmX7_sort (va_Pc [.ref a_t, .int p0] (wPD D [(cyJ, .long)] [(a_t, .inr (6, [.ref a_t_forms, .ref a_t_roll, .ref a_t_row, .ref a_t_rows, .ref a_t_factors, .ref a_t_found, .ref a_t_foundOtherwise, .int c_t_acts, .int c_t_refusals, .int c_t_knocks])), (a_t_roll, .inr (3, [.ref a_t_roll_held, .ref a_t_roll_before, .int c_t_roll_size])), (a_t_roll_held, .inl (cyJ, 12, .inr (.inl f_t_roll_held))), (a_t_roll_before, .inl (cyJ, 12, .inr (.inl f_t_roll_before)))] sz)) (va_Qi (fun (r : Int32) (_ : Unit) => r = r0) (fun _ t => wQA D [(a_t, .inr (6, [.ref a_t_forms, .ref a_t_roll, .ref a_t_row, .ref a_t_rows, .ref a_t_factors, .ref a_t_found, .ref a_t_foundOtherwise, .int o_c_t_acts, .int c_t_refusals, .int c_t_knocks])), (a_t_roll, .inr (3, [.ref a_t_roll_held, .ref a_t_roll_before, .int c_t_roll_size])), (a_t_roll_held, .inl (cyJ, 12, .inr (.inl o_f_t_roll_held))), (a_t_roll_before, .inl (cyJ, 12, .inr (.inl o_f_t_roll_before)))] (va_A [(a_t, .inr (6, [.ref a_t_forms, .ref a_t_roll, .ref a_t_row, .ref a_t_rows, .ref a_t_factors, .ref a_t_found, .ref a_t_foundOtherwise, .int c_t_acts, .int c_t_refusals, .int c_t_knocks])), (a_t_roll, .inr (3, [.ref a_t_roll_held, .ref a_t_roll_before, .int c_t_roll_size])), (a_t_roll_held, .inl (cyJ, 12, .inr (.inl f_t_roll_held))), (a_t_roll_before, .inl (cyJ, 12, .inr (.inl f_t_roll_before)))] sz) t) (va_A [(a_t, .inr (6, [.ref a_t_forms, .ref a_t_roll, .ref a_t_row, .ref a_t_rows, .ref a_t_factors, .ref a_t_found, .ref a_t_foundOtherwise, .int c_t_acts, .int c_t_refusals, .int c_t_knocks])), (a_t_roll, .inr (3, [.ref a_t_roll_held, .ref a_t_roll_before, .int c_t_roll_size])), (a_t_roll_held, .inl (cyJ, 12, .inr (.inl f_t_roll_held))), (a_t_roll_before, .inl (cyJ, 12, .inr (.inl f_t_roll_before)))] sz)) 0 0 (va_A [(a_t, .inr (6, [.ref a_t_forms, .ref a_t_roll, .ref a_t_row, .ref a_t_rows, .ref a_t_factors, .ref a_t_found, .ref a_t_foundOtherwise, .int c_t_acts, .int c_t_refusals, .int c_t_knocks])), (a_t_roll, .inr (3, [.ref a_t_roll_held, .ref a_t_roll_before, .int c_t_roll_size])), (a_t_roll_held, .inl (cyJ, 12, .inr (.inl f_t_roll_held))), (a_t_roll_before, .inl (cyJ, 12, .inr (.inl f_t_roll_before)))] sz) := by
  refine Met.ofW (cc := cX7_sort) (maxL := 2) (ret := (some .int)) (by decide) rfl ?_
  intro p e s m args below meth c s₁ B hml hv
  obtain ⟨rfl, hsz, hP, hK, hD0, hnw⟩ := hv
  have hx := B.exec
  have hb := B.bytes
  have hr := B.returns
  have hts := atoms_spec (ws := wsX7_sort) B.pre
  have hown : s.vm.findClass RX7 = some m.cls := findClass_of_methodNamed B.named
  have hlocks := B.notSynchronized
  have hcf : CallFix _ _ _ _ _ _ _ _ _ := ⟨hx, hb, hml, hown, hts⟩
  have hinX7 : ∀ w ∈ u_ws RX7 TX7 10, w ∈ wsX7_sort := by decide +kernel
  have hfl16 := hts (.fieldLink RX7 16 "Formwheel" "roll" "LFormwheel$Roll;") (by decide +kernel)
  subst hsz
  have hD := hD0.self (sz := s.heap.size)
  generalize hAe : va_A [(a_t, .inr (6, [.ref a_t_forms, .ref a_t_roll, .ref a_t_row, .ref a_t_rows, .ref a_t_factors, .ref a_t_found, .ref a_t_foundOtherwise, .int c_t_acts, .int c_t_refusals, .int c_t_knocks])), (a_t_roll, .inr (3, [.ref a_t_roll_held, .ref a_t_roll_before, .int c_t_roll_size])), (a_t_roll_held, .inl (cyJ, 12, .inr (.inl f_t_roll_held))), (a_t_roll_before, .inl (cyJ, 12, .inr (.inl f_t_roll_before)))] s.heap.size = A at hD ⊢
  have hA : ∀ q : Nat, s.heap.size ≤ q → A q := fun q h => by rw [← hAe]; exact Or.inr h
  have hS : va_S A s.heap s.heap [] := va_S.rf
  have hP : va_P D vwCl [(a_t, .inr (6, [.ref a_t_forms, .ref a_t_roll, .ref a_t_row, .ref a_t_rows, .ref a_t_factors, .ref a_t_found, .ref a_t_foundOtherwise, .int c_t_acts, .int c_t_refusals, .int c_t_knocks])), (a_t_roll, .inr (3, [.ref a_t_roll_held, .ref a_t_roll_before, .int c_t_roll_size])), (a_t_roll_held, .inl (cyJ, 12, .inr (.inl f_t_roll_held))), (a_t_roll_before, .inl (cyJ, 12, .inr (.inl f_t_roll_before)))] s.heap := hP
  have hK0 := hK
  have hl := lv_entry ([.ref a_t, .int p0]) (n := 2) (Nat.le_of_ble_eq_true rfl)
  rw [lg_entry_eq]
  generalize (lg_sl ([.ref a_t, .int p0]) ++ List.replicate (2 - (lg_sl ([.ref a_t, .int p0])).length) Slot.unset).toArray = ls at hl ⊢
  have hl : lv_has ls 2 [(0, .ref a_t), (1, .int p0)] := hl
  have h := hF
  clear hF
  unfold F_X7_sort at h
  refine lv_aload_n hx hb dX7_sort_0 rfl (lv_at hl 0 rfl) ?_
  refine lv_aload_n hx hb dX7_sort_1 rfl (lv_at hl 0 rfl) ?_
  refine va_get (D := D) (ci := 6) (v := .ref a_t_roll) (C := RX7) (T := TX7) (N := 10) hx hb hts hinX7 hown hK hP 0 rfl rfl 1 (by decide) hfl16 (fun _ h9 => h9) rfl dX7_sort_2 ?_
  refine lv_iload_n hx hb dX7_sort_5 rfl (lv_at hl 1 rfl) ?_
  obtain ⟨r6, f_t_roll_held_6, f_t_roll_before_6, hc6, h⟩ := obn3_h h
  have hPc := hP.sub (ws' := [(a_t_roll, .inr (3, [.ref a_t_roll_held, .ref a_t_roll_before, .int c_t_roll_size])), (a_t_roll_held, .inl (cyJ, 12, .inr (.inl f_t_roll_held))), (a_t_roll_before, .inl (cyJ, 12, .inr (.inl f_t_roll_before)))]) [1, 2, 3] rfl
  have hDc := hD.sub (ws' := [(a_t_roll, .inr (3, [.ref a_t_roll_held, .ref a_t_roll_before, .int c_t_roll_size])), (a_t_roll_held, .inl (cyJ, 12, .inr (.inl f_t_roll_held))), (a_t_roll_before, .inl (cyJ, 12, .inr (.inl f_t_roll_before)))]) [1, 2, 3] (by decide) rfl
  refine hp_i (w1 := [(a_t_roll, .inr (3, [.ref a_t_roll_held, .ref a_t_roll_before, .int c_t_roll_size])), (a_t_roll_held, .inl (cyJ, 12, .inr (.inl f_t_roll_held_6))), (a_t_roll_before, .inl (cyJ, 12, .inr (.inl f_t_roll_before_6)))]) (wr := [(a_t, .inr (6, [.ref a_t_forms, .ref a_t_roll, .ref a_t_row, .ref a_t_rows, .ref a_t_factors, .ref a_t_found, .ref a_t_foundOtherwise, .int c_t_acts, .int c_t_refusals, .int c_t_knocks]))]) (va_runV (As := [.int p0]) (rest := [.ref a_t]) hcf (c_X3_arrange l D cyJ s.heap.size a_t_roll a_t_roll_held a_t_roll_before c_t_roll_size f_t_roll_held f_t_roll_before p0 r6 f_t_roll_held_6 f_t_roll_before_6 hc6) (cwV 1 hts gX7_sort_X3_arrange rfl rfl rfl ydX3_arrange ⟨Nat.le_of_ble_eq_true rfl, Nat.le_of_ble_eq_true rfl⟩) ⟨bl_PD, va_recv hK hP (ci := 3) (q0 := 1) rfl rfl, pr_PD hPc hK0 hDc hnw⟩ rfl rfl hl.1 rfl (lv_room (Nat.le_of_ble_eq_true rfl)) dX7_sort_6 ⟨Nat.le_of_ble_eq_true rfl, Nat.le_of_ble_eq_true rfl⟩) hP hD hS hA [1, 2, 3] [0] rfl rfl (by decide) (by decide) (fun H locs hP hD hS => ?_)
  have hP : va_P D vwCl [(a_t, .inr (6, [.ref a_t_forms, .ref a_t_roll, .ref a_t_row, .ref a_t_rows, .ref a_t_factors, .ref a_t_found, .ref a_t_foundOtherwise, .int c_t_acts, .int c_t_refusals, .int c_t_knocks])), (a_t_roll, .inr (3, [.ref a_t_roll_held, .ref a_t_roll_before, .int c_t_roll_size])), (a_t_roll_held, .inl (cyJ, 12, .inr (.inl f_t_roll_held_6))), (a_t_roll_before, .inl (cyJ, 12, .inr (.inl f_t_roll_before_6)))] H := hP
  have hD : va_D A [(a_t, .inr (6, [.ref a_t_forms, .ref a_t_roll, .ref a_t_row, .ref a_t_rows, .ref a_t_factors, .ref a_t_found, .ref a_t_foundOtherwise, .int c_t_acts, .int c_t_refusals, .int c_t_knocks])), (a_t_roll, .inr (3, [.ref a_t_roll_held, .ref a_t_roll_before, .int c_t_roll_size])), (a_t_roll_held, .inl (cyJ, 12, .inr (.inl f_t_roll_held_6))), (a_t_roll_before, .inl (cyJ, 12, .inr (.inl f_t_roll_before_6)))] := hD
  obtain ⟨r9, c_t_acts_9, hc9, h⟩ := obn2_h h
  have hPc := hP.sub (ws' := [(a_t, .inr (6, [.ref a_t_forms, .ref a_t_roll, .ref a_t_row, .ref a_t_rows, .ref a_t_factors, .ref a_t_found, .ref a_t_foundOtherwise, .int c_t_acts, .int c_t_refusals, .int c_t_knocks]))]) [0] rfl
  have hDc := hD.sub (ws' := [(a_t, .inr (6, [.ref a_t_forms, .ref a_t_roll, .ref a_t_row, .ref a_t_rows, .ref a_t_factors, .ref a_t_found, .ref a_t_foundOtherwise, .int c_t_acts, .int c_t_refusals, .int c_t_knocks]))]) [0] (by decide) rfl
  refine hp_i (w1 := [(a_t, .inr (6, [.ref a_t_forms, .ref a_t_roll, .ref a_t_row, .ref a_t_rows, .ref a_t_factors, .ref a_t_found, .ref a_t_foundOtherwise, .int c_t_acts_9, .int c_t_refusals, .int c_t_knocks]))]) (wr := [(a_t_roll, .inr (3, [.ref a_t_roll_held, .ref a_t_roll_before, .int c_t_roll_size])), (a_t_roll_held, .inl (cyJ, 12, .inr (.inl f_t_roll_held_6))), (a_t_roll_before, .inl (cyJ, 12, .inr (.inl f_t_roll_before_6)))]) (va_runV (As := [.int r6]) (rest := []) hcf (c_X7_done l D cyJ H.size a_t a_t_forms a_t_roll a_t_row a_t_rows a_t_factors a_t_found a_t_foundOtherwise c_t_acts c_t_refusals c_t_knocks r6 r9 c_t_acts_9 hc9) (cwV 1 hts gX7_sort_X7_done rfl rfl rfl ydX7_done ⟨Nat.le_of_ble_eq_true rfl, Nat.le_of_ble_eq_true rfl⟩) ⟨bl_PD, va_recv hK hP (ci := 6) (q0 := 0) rfl rfl, pr_PD hPc hK0 hDc hnw⟩ rfl rfl hl.1 rfl (lv_room (Nat.le_of_ble_eq_true rfl)) dX7_sort_9 ⟨Nat.le_of_ble_eq_true rfl, Nat.le_of_ble_eq_true rfl⟩) hP hD hS hA [0] [1, 2, 3] rfl rfl (by decide) (by decide) (fun H locs hP hD hS => ?_)
  have hP : va_P D vwCl [(a_t_roll, .inr (3, [.ref a_t_roll_held, .ref a_t_roll_before, .int c_t_roll_size])), (a_t_roll_held, .inl (cyJ, 12, .inr (.inl f_t_roll_held_6))), (a_t_roll_before, .inl (cyJ, 12, .inr (.inl f_t_roll_before_6))), (a_t, .inr (6, [.ref a_t_forms, .ref a_t_roll, .ref a_t_row, .ref a_t_rows, .ref a_t_factors, .ref a_t_found, .ref a_t_foundOtherwise, .int c_t_acts_9, .int c_t_refusals, .int c_t_knocks]))] H := hP
  have hD : va_D A [(a_t_roll, .inr (3, [.ref a_t_roll_held, .ref a_t_roll_before, .int c_t_roll_size])), (a_t_roll_held, .inl (cyJ, 12, .inr (.inl f_t_roll_held_6))), (a_t_roll_before, .inl (cyJ, 12, .inr (.inl f_t_roll_before_6))), (a_t, .inr (6, [.ref a_t_forms, .ref a_t_roll, .ref a_t_row, .ref a_t_rows, .ref a_t_factors, .ref a_t_found, .ref a_t_foundOtherwise, .int c_t_acts_9, .int c_t_refusals, .int c_t_knocks]))] := hD
  obtain ⟨e0, e1, e2, e3⟩ := tup4 h
  subst e0
  subst e1
  subst e2
  subst e3
  have hP9 : va_P D vwCl [(a_t, .inr (6, [.ref a_t_forms, .ref a_t_roll, .ref a_t_row, .ref a_t_rows, .ref a_t_factors, .ref a_t_found, .ref a_t_foundOtherwise, .int c_t_acts_9, .int c_t_refusals, .int c_t_knocks])), (a_t_roll, .inr (3, [.ref a_t_roll_held, .ref a_t_roll_before, .int c_t_roll_size])), (a_t_roll_held, .inl (cyJ, 12, .inr (.inl f_t_roll_held_6))), (a_t_roll_before, .inl (cyJ, 12, .inr (.inl f_t_roll_before_6)))] H := hP.sub [3, 0, 1, 2] rfl
  have hD9 : va_D A [(a_t, .inr (6, [.ref a_t_forms, .ref a_t_roll, .ref a_t_row, .ref a_t_rows, .ref a_t_factors, .ref a_t_found, .ref a_t_foundOtherwise, .int c_t_acts_9, .int c_t_refusals, .int c_t_knocks])), (a_t_roll, .inr (3, [.ref a_t_roll_held, .ref a_t_roll_before, .int c_t_roll_size])), (a_t_roll_held, .inl (cyJ, 12, .inr (.inl f_t_roll_held_6))), (a_t_roll_before, .inl (cyJ, 12, .inr (.inl f_t_roll_before_6)))] := hD.sub [3, 0, 1, 2] (by decide) rfl
  exact W.iret hx hb hr (fun t ht hW => ⟨⟨_, (), rfl, rfl, wQA_of ht hP9 hD9⟩, hS.F ht⟩) hS.2.2 dX7_sort_12

noncomputable abbrev rmX3_turnEach : Room := { frames := 3, cells := 0, slots := 0, locals := 80 }
theorem ydX3_turnEach : yX3_turnEach.cls = RX3 ∧ yX3_turnEach.cls ≠ "java/lang/invoke/MethodHandle" ∧ yX3_turnEach.cls ≠ "java/lang/invoke/VarHandle" ∧ (parseMethodDescriptor yX3_turnEach.desc).map (fun d => d.parameters.length) = some 0 := by decide +kernel
noncomputable def S_X3_turnEach_17 (c_t_size_z17 : Int32) (k46 : (Nat → Int64) → Option (Int32 × (Nat → Int64) × (Nat → Int64))) (ih17 : Int32 → (Nat → Int64) → Option (Int32 × (Nat → Int64) × (Nat → Int64))) (y1_17 : Int32) (f_t_held_17 : Nat → Int64) : Option (Int32 × (Nat → Int64) × (Nat → Int64)) :=
 (if c_t_size_z17 ≤ y1_17 then
 k46 f_t_held_17
else
 chk (¬ (y1_17 < 0 ∨ 12 ≤ y1_17.toNatClampNeg)) (
 obn (F_X0_turned (f_t_held_17 y1_17.toNatClampNeg)) (fun r36 =>
 chk (¬ (y1_17 < 0 ∨ 12 ≤ y1_17.toNatClampNeg)) (
 bnd (vp_updL f_t_held_17 y1_17.toNatClampNeg r36) (fun f_t_held_39 =>
 bnd (y1_17 + 1) (fun x1_40 =>
 ih17 x1_40 f_t_held_39))))))
noncomputable def F_X3_turnEach (c_t_size : Int32) (f_t_held : Nat → Int64) (f_t_before : Nat → Int64) : Option (Int32 × (Nat → Int64) × (Nat → Int64)) :=
 bnd (va_cpy f_t_held f_t_before (0 : Int32).toNatClampNeg (0 : Int32).toNatClampNeg (12 : Int32).toNatClampNeg) (fun f_t_before_12 =>
 LQ2 (S_X3_turnEach_17 c_t_size (fun f_t_held_17_46 =>
 obn (F_X3_howManyOthers c_t_size f_t_held_17_46 f_t_before_12) (fun r47 =>
 some (r47, f_t_held_17_46, f_t_before_12)))) 20000 (0 : Int32) f_t_held)
set_option maxHeartbeats 4000000 in
set_option maxRecDepth 100000 in
theorem c_X3_turnEach (l : Launch) (D : va_G) (cyJ : ClassId) (sz : Nat) (a_t : Nat) (a_t_held : Nat) (a_t_before : Nat) (c_t_size : Int32) (f_t_held : Nat → Int64) (f_t_before : Nat → Int64) (r0 : Int32) (o_f_t_held : Nat → Int64) (o_f_t_before : Nat → Int64) (hF : F_X3_turnEach c_t_size f_t_held f_t_before = some (r0, o_f_t_held, o_f_t_before)) : Met l yX3_turnEach wsX3_turnEach rmX3_turnEach (va_Pc [.ref a_t] (wPD D [(cyJ, .long)] [(a_t, .inr (3, [.ref a_t_held, .ref a_t_before, .int c_t_size])), (a_t_held, .inl (cyJ, 12, .inr (.inl f_t_held))), (a_t_before, .inl (cyJ, 12, .inr (.inl f_t_before)))] sz)) (va_Qi (fun (r : Int32) (_ : Unit) => r = r0) (fun _ t => wQA D [(a_t, .inr (3, [.ref a_t_held, .ref a_t_before, .int c_t_size])), (a_t_held, .inl (cyJ, 12, .inr (.inl o_f_t_held))), (a_t_before, .inl (cyJ, 12, .inr (.inl o_f_t_before)))] (va_A [(a_t, .inr (3, [.ref a_t_held, .ref a_t_before, .int c_t_size])), (a_t_held, .inl (cyJ, 12, .inr (.inl f_t_held))), (a_t_before, .inl (cyJ, 12, .inr (.inl f_t_before)))] sz) t) (va_A [(a_t, .inr (3, [.ref a_t_held, .ref a_t_before, .int c_t_size])), (a_t_held, .inl (cyJ, 12, .inr (.inl f_t_held))), (a_t_before, .inl (cyJ, 12, .inr (.inl f_t_before)))] sz)) 0 0 (va_A [(a_t, .inr (3, [.ref a_t_held, .ref a_t_before, .int c_t_size])), (a_t_held, .inl (cyJ, 12, .inr (.inl f_t_held))), (a_t_before, .inl (cyJ, 12, .inr (.inl f_t_before)))] sz) := by
  refine Met.ofW (cc := cX3_turnEach) (maxL := 2) (ret := (some .int)) (by decide) rfl ?_
  intro p e s m args below meth c s₁ B hml hv
  obtain ⟨rfl, hsz, hP, hK, hD0, hnw⟩ := hv
  have hx := B.exec
  have hb := B.bytes
  have hr := B.returns
  have hts := atoms_spec (ws := wsX3_turnEach) B.pre
  have hown : s.vm.findClass RX3 = some m.cls := findClass_of_methodNamed B.named
  have hlocks := B.notSynchronized
  have hcf : CallFix _ _ _ _ _ _ _ _ _ := ⟨hx, hb, hml, hown, hts⟩
  have hinX3 : ∀ w ∈ u_ws RX3 TX3 3, w ∈ wsX3_turnEach := by decide +kernel
  have hfl9 := hts (.fieldLink RX3 9 "Formwheel$Roll" "held" "[J") (by decide +kernel)
  have hfl15 := hts (.fieldLink RX3 15 "Formwheel$Roll" "before" "[J") (by decide +kernel)
  have hfl18 := hts (.fieldLink RX3 18 "Formwheel$Roll" "size" "I") (by decide +kernel)
  subst hsz
  have hD := hD0.self (sz := s.heap.size)
  generalize hAe : va_A [(a_t, .inr (3, [.ref a_t_held, .ref a_t_before, .int c_t_size])), (a_t_held, .inl (cyJ, 12, .inr (.inl f_t_held))), (a_t_before, .inl (cyJ, 12, .inr (.inl f_t_before)))] s.heap.size = A at hD ⊢
  have hA : ∀ q : Nat, s.heap.size ≤ q → A q := fun q h => by rw [← hAe]; exact Or.inr h
  have hS : va_S A s.heap s.heap [] := va_S.rf
  have hP : va_P D vwCl [(a_t, .inr (3, [.ref a_t_held, .ref a_t_before, .int c_t_size])), (a_t_held, .inl (cyJ, 12, .inr (.inl f_t_held))), (a_t_before, .inl (cyJ, 12, .inr (.inl f_t_before)))] s.heap := hP
  have hK0 := hK
  have hl := lv_entry ([.ref a_t]) (n := 2) (Nat.le_of_ble_eq_true rfl)
  rw [lg_entry_eq]
  generalize (lg_sl ([.ref a_t]) ++ List.replicate (2 - (lg_sl ([.ref a_t])).length) Slot.unset).toArray = ls at hl ⊢
  have hl : lv_has ls 2 [(0, .ref a_t)] := hl
  have h := hF
  clear hF
  unfold F_X3_turnEach at h
  refine lv_aload_n hx hb dX3_turnEach_0 rfl (lv_at hl 0 rfl) ?_
  refine va_get (D := D) (ci := 3) (v := .ref a_t_held) (C := RX3) (T := TX3) (N := 3) hx hb hts hinX3 hown hK hP 0 rfl rfl 0 (by decide) hfl9 (fun _ h9 => h9) rfl dX3_turnEach_1 ?_
  refine lv_iconst (v := 0) hx hb dX3_turnEach_4 (by decide) ?_
  refine lv_aload_n hx hb dX3_turnEach_5 rfl (lv_at hl 0 rfl) ?_
  refine va_get (D := D) (ci := 3) (v := .ref a_t_before) (C := RX3) (T := TX3) (N := 3) hx hb hts hinX3 hown hK hP 0 rfl rfl 1 (by decide) hfl15 (fun _ h9 => h9) rfl dX3_turnEach_6 ?_
  refine lv_iconst (v := 0) hx hb dX3_turnEach_9 (by decide) ?_
  refine lv_bipush (v := 12) hx hb dX3_turnEach_10 (by decide) ?_
  refine va_copyl hx hb (hml.trans hl.1.symm) hown (hts (.methodLink RX3 22 arraycopyName) (by decide +kernel)) (hts (.native arraycopyName) (by decide +kernel)) (hts (.static arraycopyName) (by decide +kernel)) (hts (.initialized "java/lang/System") (by decide +kernel)) hK hP hD hS 1 2 0 0 rfl rfl rfl rfl rfl (by decide) (by decide) (by decide) (by decide) (by decide) (fun _ _ => rfl) (Nat.le_of_ble_eq_true rfl) (by decide +kernel) dX3_turnEach_12 (fun H locs hP hD hS => ?_)
  obtain ⟨f_t_before_12, e_f_t_before_12⟩ : ∃ z, z = va_cpy f_t_held f_t_before (0 : Int32).toNatClampNeg (0 : Int32).toNatClampNeg (12 : Int32).toNatClampNeg := ⟨_, rfl⟩
  have h := bnd_h e_f_t_before_12 h
  have hP : va_P D vwCl [(a_t, .inr (3, [.ref a_t_held, .ref a_t_before, .int c_t_size])), (a_t_held, .inl (cyJ, 12, .inr (.inl f_t_held))), (a_t_before, .inl (cyJ, 12, .inr (.inl f_t_before_12)))] H := by rw [e_f_t_before_12]; exact hP
  have hD : va_D A [(a_t, .inr (3, [.ref a_t_held, .ref a_t_before, .int c_t_size])), (a_t_held, .inl (cyJ, 12, .inr (.inl f_t_held))), (a_t_before, .inl (cyJ, 12, .inr (.inl f_t_before_12)))] := by rw [e_f_t_before_12]; exact hD
  refine lv_iconst (v := 0) hx hb dX3_turnEach_15 (by decide) ?_
  refine lv_istore_n (lv' := [(1, .int (0 : Int32)), (0, .ref a_t)]) hx hb dX3_turnEach_16 rfl hl (by decide) rfl (fun ls hl => ?_)
  refine LQ2_k1 (M := fun (y1_17 : Int32) (f_t_held_17 : Nat → Int64) => ∀ (H : Heap) (locs : List Loc), va_P D vwCl [(a_t, .inr (3, [.ref a_t_held, .ref a_t_before, .int c_t_size])), (a_t_held, .inl (cyJ, 12, .inr (.inl f_t_held_17))), (a_t_before, .inl (cyJ, 12, .inr (.inl f_t_before_12)))] H → va_D A [(a_t, .inr (3, [.ref a_t_held, .ref a_t_before, .int c_t_size])), (a_t_held, .inl (cyJ, 12, .inr (.inl f_t_held_17))), (a_t_before, .inl (cyJ, 12, .inr (.inl f_t_before_12)))] → va_S A s.heap H locs → ∀ (ls : Array Slot), lv_has ls 2 [(0, .ref a_t), (1, .int y1_17)] → W p l e rmX3_turnEach s m ([.ref a_t] : List Value).toArray below meth c H locs 0 0 (MQ below (va_Qi (fun (r : Int32) (_ : Unit) => r = r0) (fun _ t => wQA D [(a_t, .inr (3, [.ref a_t_held, .ref a_t_before, .int c_t_size])), (a_t_held, .inl (cyJ, 12, .inr (.inl o_f_t_held))), (a_t_before, .inl (cyJ, 12, .inr (.inl o_f_t_before)))] A t) A) ([.ref a_t] : List Value).toArray s 0 0 A) (F0 m 17 ls [])) ?_ _ _ _ h _ _ hP hD hS ls (lv_sub hl [1, 0] rfl)
  intro k46 hk46 ih17 hih17 y1_17 f_t_held_17 h H locs hP hD hS ls hl
  unfold S_X3_turnEach_17 at h
  refine lv_iload_n hx hb dX3_turnEach_17 rfl (lv_at hl 1 rfl) ?_
  refine lv_aload_n hx hb dX3_turnEach_18 rfl (lv_at hl 0 rfl) ?_
  refine va_get (D := D) (ci := 3) (v := .int c_t_size) (C := RX3) (T := TX3) (N := 3) hx hb hts hinX3 hown hK hP 0 rfl rfl 2 (by decide) hfl18 (fun _ h9 => h9) rfl dX3_turnEach_19 ?_
  refine lv_icmp_ge (tgt := 46) hx hb dX3_turnEach_22 (by decide) (fun c22 => ?_) (fun c22 => ?_)
  · have h := it_ c22 h
    rw [hk46] at h
    refine lv_aload_n hx hb dX3_turnEach_46 rfl (lv_at hl 0 rfl) ?_
    obtain ⟨r47, hc47, h⟩ := obn_h h
    have hPc : va_P D vwCl [(a_t, .inr (3, [.ref a_t_held, .ref a_t_before, .int c_t_size])), (a_t_held, .inl (cyJ, 12, .inr (.inl f_t_held_17))), (a_t_before, .inl (cyJ, 12, .inr (.inl f_t_before_12)))] H := hP.sub [0, 1, 2] rfl
    refine rd_callV (As := []) (rest := []) hcf (c_X3_howManyOthers l D cyJ a_t a_t_held a_t_before c_t_size f_t_held_17 f_t_before_12 r47 hc47) (cwV 0 hts gX3_turnEach_X3_howManyOthers rfl rfl rfl ydX3_howManyOthers ⟨Nat.le_of_ble_eq_true rfl, Nat.le_of_ble_eq_true rfl⟩) hnw hPc hK0 (va_recv hK hP (ci := 3) (q0 := 0) rfl rfl) rfl hl.1 rfl (Nat.le_of_ble_eq_true rfl) dX3_turnEach_47 ⟨Nat.le_of_ble_eq_true rfl, Nat.le_of_ble_eq_true rfl⟩ ?_
    obtain ⟨e0, e1, e2⟩ := tup3 h
    subst e0
    subst e1
    subst e2
    have hP9 : va_P D vwCl [(a_t, .inr (3, [.ref a_t_held, .ref a_t_before, .int c_t_size])), (a_t_held, .inl (cyJ, 12, .inr (.inl f_t_held_17))), (a_t_before, .inl (cyJ, 12, .inr (.inl f_t_before_12)))] H := hP.sub [0, 1, 2] rfl
    have hD9 : va_D A [(a_t, .inr (3, [.ref a_t_held, .ref a_t_before, .int c_t_size])), (a_t_held, .inl (cyJ, 12, .inr (.inl f_t_held_17))), (a_t_before, .inl (cyJ, 12, .inr (.inl f_t_before_12)))] := hD.sub [0, 1, 2] (by decide) rfl
    exact W.iret hx hb hr (fun t ht hW => ⟨⟨_, (), rfl, rfl, wQA_of ht hP9 hD9⟩, hS.F ht⟩) hS.2.2 dX3_turnEach_50
  · have h := if_ c22 h
    refine lv_aload_n hx hb dX3_turnEach_25 rfl (lv_at hl 0 rfl) ?_
    refine va_get (D := D) (ci := 3) (v := .ref a_t_held) (C := RX3) (T := TX3) (N := 3) hx hb hts hinX3 hown hK hP 0 rfl rfl 0 (by decide) hfl9 (fun _ h9 => h9) rfl dX3_turnEach_26 ?_
    refine lv_iload_n hx hb dX3_turnEach_29 rfl (lv_at hl 1 rfl) ?_
    refine lv_aload_n hx hb dX3_turnEach_30 rfl (lv_at hl 0 rfl) ?_
    refine va_get (D := D) (ci := 3) (v := .ref a_t_held) (C := RX3) (T := TX3) (N := 3) hx hb hts hinX3 hown hK hP 0 rfl rfl 0 (by decide) hfl9 (fun _ h9 => h9) rfl dX3_turnEach_31 ?_
    refine lv_iload_n hx hb dX3_turnEach_34 rfl (lv_at hl 1 rfl) ?_
    obtain ⟨hq35, h⟩ := chk_h h
    refine va_lald hx hb hK hP 1 0 rfl rfl hq35 dX3_turnEach_35 ?_
    obtain ⟨r36, hc36, h⟩ := obn_h h
    refine pz_callS (As := [.long (f_t_held_17 y1_17.toNatClampNeg)]) (rest := [.int y1_17, .ref a_t_held]) hcf (c_X0_turned l (f_t_held_17 y1_17.toNatClampNeg) r36 hc36) (va_cwS 1 hts gX3_turnEach_X0_turned rfl rfl rfl ydX0_turned ⟨Nat.le_of_ble_eq_true rfl, Nat.le_of_ble_eq_true rfl⟩) hnw rfl hl.1 rfl (Nat.le_of_ble_eq_true rfl) dX3_turnEach_36 ⟨Nat.le_of_ble_eq_true rfl, Nat.le_of_ble_eq_true rfl⟩ ?_
    obtain ⟨hq39, h⟩ := chk_h h
    refine va_last hx hb hK hP hD hS 1 0 rfl rfl hq39 dX3_turnEach_39 (fun H locs hP hD hS => ?_)
    obtain ⟨f_t_held_39, e_f_t_held_39⟩ : ∃ z, z = vp_updL f_t_held_17 y1_17.toNatClampNeg r36 := ⟨_, rfl⟩
    have h := bnd_h e_f_t_held_39 h
    have hP : va_P D vwCl [(a_t, .inr (3, [.ref a_t_held, .ref a_t_before, .int c_t_size])), (a_t_held, .inl (cyJ, 12, .inr (.inl f_t_held_39))), (a_t_before, .inl (cyJ, 12, .inr (.inl f_t_before_12)))] H := by rw [e_f_t_held_39]; exact hP
    have hD : va_D A [(a_t, .inr (3, [.ref a_t_held, .ref a_t_before, .int c_t_size])), (a_t_held, .inl (cyJ, 12, .inr (.inl f_t_held_39))), (a_t_before, .inl (cyJ, 12, .inr (.inl f_t_before_12)))] := by rw [e_f_t_held_39]; exact hD
    obtain ⟨x1_40, e_x1_40⟩ : ∃ z : Int32, z = y1_17 + 1 := ⟨_, rfl⟩
    have h := bnd_h e_x1_40 h
    refine lv_iinc (v := x1_40) (lv' := [(1, .int x1_40), (0, .ref a_t)]) hx hb dX3_turnEach_40 hl (k := 1) rfl (by rw [e_x1_40]; rfl) (by decide) rfl (fun ls hl => ?_)
    refine lv_goto (tgt := 17) hx hb dX3_turnEach_43 (by decide) ?_
    exact hih17 x1_40 f_t_held_39 h _ _ (hP.sub [0, 1, 2] rfl) (hD.sub [0, 1, 2] (by decide) rfl) hS ls (lv_sub hl [1, 0] rfl)

noncomputable abbrev rmX7_turnAll : Room := { frames := 4, cells := 0, slots := 0, locals := 101 }
theorem ydX7_turnAll : yX7_turnAll.cls = RX7 ∧ yX7_turnAll.cls ≠ "java/lang/invoke/MethodHandle" ∧ yX7_turnAll.cls ≠ "java/lang/invoke/VarHandle" ∧ (parseMethodDescriptor yX7_turnAll.desc).map (fun d => d.parameters.length) = some 0 := by decide +kernel
noncomputable def F_X7_turnAll (c_t_acts : Int32) (c_t_roll_size : Int32) (f_t_roll_held : Nat → Int64) (f_t_roll_before : Nat → Int64) : Option (Int32 × Int32 × (Nat → Int64) × (Nat → Int64)) :=
 obn3 (F_X3_turnEach c_t_roll_size f_t_roll_held f_t_roll_before) (fun r5 f_t_roll_held_5 f_t_roll_before_5 =>
 obn2 (F_X7_done c_t_acts r5) (fun r8 c_t_acts_8 =>
 some (r8, c_t_acts_8, f_t_roll_held_5, f_t_roll_before_5)))
set_option maxHeartbeats 4000000 in
set_option maxRecDepth 100000 in
theorem c_X7_turnAll (l : Launch) (D : va_G) (cyJ : ClassId) (sz : Nat) (a_t : Nat) (a_t_forms : Nat) (a_t_roll : Nat) (a_t_row : Nat) (a_t_rows : Nat) (a_t_factors : Nat) (a_t_found : Nat) (a_t_foundOtherwise : Nat) (a_t_roll_held : Nat) (a_t_roll_before : Nat) (c_t_acts : Int32) (c_t_refusals : Int32) (c_t_knocks : Int32) (c_t_roll_size : Int32) (f_t_roll_held : Nat → Int64) (f_t_roll_before : Nat → Int64) (r0 : Int32) (o_c_t_acts : Int32) (o_f_t_roll_held : Nat → Int64) (o_f_t_roll_before : Nat → Int64) (hF : F_X7_turnAll c_t_acts c_t_roll_size f_t_roll_held f_t_roll_before = some (r0, o_c_t_acts, o_f_t_roll_held, o_f_t_roll_before)) : Met l yX7_turnAll wsX7_turnAll rmX7_turnAll (va_Pc [.ref a_t] (wPD D [(cyJ, .long)] [(a_t, .inr (6, [.ref a_t_forms, .ref a_t_roll, .ref a_t_row, .ref a_t_rows, .ref a_t_factors, .ref a_t_found, .ref a_t_foundOtherwise, .int c_t_acts, .int c_t_refusals, .int c_t_knocks])), (a_t_roll, .inr (3, [.ref a_t_roll_held, .ref a_t_roll_before, .int c_t_roll_size])), (a_t_roll_held, .inl (cyJ, 12, .inr (.inl f_t_roll_held))), (a_t_roll_before, .inl (cyJ, 12, .inr (.inl f_t_roll_before)))] sz)) (va_Qi (fun (r : Int32) (_ : Unit) => r = r0) (fun _ t => wQA D [(a_t, .inr (6, [.ref a_t_forms, .ref a_t_roll, .ref a_t_row, .ref a_t_rows, .ref a_t_factors, .ref a_t_found, .ref a_t_foundOtherwise, .int o_c_t_acts, .int c_t_refusals, .int c_t_knocks])), (a_t_roll, .inr (3, [.ref a_t_roll_held, .ref a_t_roll_before, .int c_t_roll_size])), (a_t_roll_held, .inl (cyJ, 12, .inr (.inl o_f_t_roll_held))), (a_t_roll_before, .inl (cyJ, 12, .inr (.inl o_f_t_roll_before)))] (va_A [(a_t, .inr (6, [.ref a_t_forms, .ref a_t_roll, .ref a_t_row, .ref a_t_rows, .ref a_t_factors, .ref a_t_found, .ref a_t_foundOtherwise, .int c_t_acts, .int c_t_refusals, .int c_t_knocks])), (a_t_roll, .inr (3, [.ref a_t_roll_held, .ref a_t_roll_before, .int c_t_roll_size])), (a_t_roll_held, .inl (cyJ, 12, .inr (.inl f_t_roll_held))), (a_t_roll_before, .inl (cyJ, 12, .inr (.inl f_t_roll_before)))] sz) t) (va_A [(a_t, .inr (6, [.ref a_t_forms, .ref a_t_roll, .ref a_t_row, .ref a_t_rows, .ref a_t_factors, .ref a_t_found, .ref a_t_foundOtherwise, .int c_t_acts, .int c_t_refusals, .int c_t_knocks])), (a_t_roll, .inr (3, [.ref a_t_roll_held, .ref a_t_roll_before, .int c_t_roll_size])), (a_t_roll_held, .inl (cyJ, 12, .inr (.inl f_t_roll_held))), (a_t_roll_before, .inl (cyJ, 12, .inr (.inl f_t_roll_before)))] sz)) 0 0 (va_A [(a_t, .inr (6, [.ref a_t_forms, .ref a_t_roll, .ref a_t_row, .ref a_t_rows, .ref a_t_factors, .ref a_t_found, .ref a_t_foundOtherwise, .int c_t_acts, .int c_t_refusals, .int c_t_knocks])), (a_t_roll, .inr (3, [.ref a_t_roll_held, .ref a_t_roll_before, .int c_t_roll_size])), (a_t_roll_held, .inl (cyJ, 12, .inr (.inl f_t_roll_held))), (a_t_roll_before, .inl (cyJ, 12, .inr (.inl f_t_roll_before)))] sz) := by
  refine Met.ofW (cc := cX7_turnAll) (maxL := 1) (ret := (some .int)) (by decide) rfl ?_
  intro p e s m args below meth c s₁ B hml hv
  obtain ⟨rfl, hsz, hP, hK, hD0, hnw⟩ := hv
  have hx := B.exec
  have hb := B.bytes
  have hr := B.returns
  have hts := atoms_spec (ws := wsX7_turnAll) B.pre
  have hown : s.vm.findClass RX7 = some m.cls := findClass_of_methodNamed B.named
  have hlocks := B.notSynchronized
  have hcf : CallFix _ _ _ _ _ _ _ _ _ := ⟨hx, hb, hml, hown, hts⟩
  have hinX7 : ∀ w ∈ u_ws RX7 TX7 10, w ∈ wsX7_turnAll := by decide +kernel
  have hfl16 := hts (.fieldLink RX7 16 "Formwheel" "roll" "LFormwheel$Roll;") (by decide +kernel)
  subst hsz
  have hD := hD0.self (sz := s.heap.size)
  generalize hAe : va_A [(a_t, .inr (6, [.ref a_t_forms, .ref a_t_roll, .ref a_t_row, .ref a_t_rows, .ref a_t_factors, .ref a_t_found, .ref a_t_foundOtherwise, .int c_t_acts, .int c_t_refusals, .int c_t_knocks])), (a_t_roll, .inr (3, [.ref a_t_roll_held, .ref a_t_roll_before, .int c_t_roll_size])), (a_t_roll_held, .inl (cyJ, 12, .inr (.inl f_t_roll_held))), (a_t_roll_before, .inl (cyJ, 12, .inr (.inl f_t_roll_before)))] s.heap.size = A at hD ⊢
  have hA : ∀ q : Nat, s.heap.size ≤ q → A q := fun q h => by rw [← hAe]; exact Or.inr h
  have hS : va_S A s.heap s.heap [] := va_S.rf
  have hP : va_P D vwCl [(a_t, .inr (6, [.ref a_t_forms, .ref a_t_roll, .ref a_t_row, .ref a_t_rows, .ref a_t_factors, .ref a_t_found, .ref a_t_foundOtherwise, .int c_t_acts, .int c_t_refusals, .int c_t_knocks])), (a_t_roll, .inr (3, [.ref a_t_roll_held, .ref a_t_roll_before, .int c_t_roll_size])), (a_t_roll_held, .inl (cyJ, 12, .inr (.inl f_t_roll_held))), (a_t_roll_before, .inl (cyJ, 12, .inr (.inl f_t_roll_before)))] s.heap := hP
  have hK0 := hK
  have hl := lv_entry ([.ref a_t]) (n := 1) (Nat.le_of_ble_eq_true rfl)
  rw [lg_entry_eq]
  generalize (lg_sl ([.ref a_t]) ++ List.replicate (1 - (lg_sl ([.ref a_t])).length) Slot.unset).toArray = ls at hl ⊢
  have hl : lv_has ls 1 [(0, .ref a_t)] := hl
  have h := hF
  clear hF
  unfold F_X7_turnAll at h
  refine lv_aload_n hx hb dX7_turnAll_0 rfl (lv_at hl 0 rfl) ?_
  refine lv_aload_n hx hb dX7_turnAll_1 rfl (lv_at hl 0 rfl) ?_
  refine va_get (D := D) (ci := 6) (v := .ref a_t_roll) (C := RX7) (T := TX7) (N := 10) hx hb hts hinX7 hown hK hP 0 rfl rfl 1 (by decide) hfl16 (fun _ h9 => h9) rfl dX7_turnAll_2 ?_
  obtain ⟨r5, f_t_roll_held_5, f_t_roll_before_5, hc5, h⟩ := obn3_h h
  have hPc := hP.sub (ws' := [(a_t_roll, .inr (3, [.ref a_t_roll_held, .ref a_t_roll_before, .int c_t_roll_size])), (a_t_roll_held, .inl (cyJ, 12, .inr (.inl f_t_roll_held))), (a_t_roll_before, .inl (cyJ, 12, .inr (.inl f_t_roll_before)))]) [1, 2, 3] rfl
  have hDc := hD.sub (ws' := [(a_t_roll, .inr (3, [.ref a_t_roll_held, .ref a_t_roll_before, .int c_t_roll_size])), (a_t_roll_held, .inl (cyJ, 12, .inr (.inl f_t_roll_held))), (a_t_roll_before, .inl (cyJ, 12, .inr (.inl f_t_roll_before)))]) [1, 2, 3] (by decide) rfl
  refine hp_i (w1 := [(a_t_roll, .inr (3, [.ref a_t_roll_held, .ref a_t_roll_before, .int c_t_roll_size])), (a_t_roll_held, .inl (cyJ, 12, .inr (.inl f_t_roll_held_5))), (a_t_roll_before, .inl (cyJ, 12, .inr (.inl f_t_roll_before_5)))]) (wr := [(a_t, .inr (6, [.ref a_t_forms, .ref a_t_roll, .ref a_t_row, .ref a_t_rows, .ref a_t_factors, .ref a_t_found, .ref a_t_foundOtherwise, .int c_t_acts, .int c_t_refusals, .int c_t_knocks]))]) (va_runV (As := []) (rest := [.ref a_t]) hcf (c_X3_turnEach l D cyJ s.heap.size a_t_roll a_t_roll_held a_t_roll_before c_t_roll_size f_t_roll_held f_t_roll_before r5 f_t_roll_held_5 f_t_roll_before_5 hc5) (cwV 0 hts gX7_turnAll_X3_turnEach rfl rfl rfl ydX3_turnEach ⟨Nat.le_of_ble_eq_true rfl, Nat.le_of_ble_eq_true rfl⟩) ⟨bl_PD, va_recv hK hP (ci := 3) (q0 := 1) rfl rfl, pr_PD hPc hK0 hDc hnw⟩ rfl rfl hl.1 rfl (lv_room (Nat.le_of_ble_eq_true rfl)) dX7_turnAll_5 ⟨Nat.le_of_ble_eq_true rfl, Nat.le_of_ble_eq_true rfl⟩) hP hD hS hA [1, 2, 3] [0] rfl rfl (by decide) (by decide) (fun H locs hP hD hS => ?_)
  have hP : va_P D vwCl [(a_t, .inr (6, [.ref a_t_forms, .ref a_t_roll, .ref a_t_row, .ref a_t_rows, .ref a_t_factors, .ref a_t_found, .ref a_t_foundOtherwise, .int c_t_acts, .int c_t_refusals, .int c_t_knocks])), (a_t_roll, .inr (3, [.ref a_t_roll_held, .ref a_t_roll_before, .int c_t_roll_size])), (a_t_roll_held, .inl (cyJ, 12, .inr (.inl f_t_roll_held_5))), (a_t_roll_before, .inl (cyJ, 12, .inr (.inl f_t_roll_before_5)))] H := hP
  have hD : va_D A [(a_t, .inr (6, [.ref a_t_forms, .ref a_t_roll, .ref a_t_row, .ref a_t_rows, .ref a_t_factors, .ref a_t_found, .ref a_t_foundOtherwise, .int c_t_acts, .int c_t_refusals, .int c_t_knocks])), (a_t_roll, .inr (3, [.ref a_t_roll_held, .ref a_t_roll_before, .int c_t_roll_size])), (a_t_roll_held, .inl (cyJ, 12, .inr (.inl f_t_roll_held_5))), (a_t_roll_before, .inl (cyJ, 12, .inr (.inl f_t_roll_before_5)))] := hD
  obtain ⟨r8, c_t_acts_8, hc8, h⟩ := obn2_h h
  have hPc := hP.sub (ws' := [(a_t, .inr (6, [.ref a_t_forms, .ref a_t_roll, .ref a_t_row, .ref a_t_rows, .ref a_t_factors, .ref a_t_found, .ref a_t_foundOtherwise, .int c_t_acts, .int c_t_refusals, .int c_t_knocks]))]) [0] rfl
  have hDc := hD.sub (ws' := [(a_t, .inr (6, [.ref a_t_forms, .ref a_t_roll, .ref a_t_row, .ref a_t_rows, .ref a_t_factors, .ref a_t_found, .ref a_t_foundOtherwise, .int c_t_acts, .int c_t_refusals, .int c_t_knocks]))]) [0] (by decide) rfl
  refine hp_i (w1 := [(a_t, .inr (6, [.ref a_t_forms, .ref a_t_roll, .ref a_t_row, .ref a_t_rows, .ref a_t_factors, .ref a_t_found, .ref a_t_foundOtherwise, .int c_t_acts_8, .int c_t_refusals, .int c_t_knocks]))]) (wr := [(a_t_roll, .inr (3, [.ref a_t_roll_held, .ref a_t_roll_before, .int c_t_roll_size])), (a_t_roll_held, .inl (cyJ, 12, .inr (.inl f_t_roll_held_5))), (a_t_roll_before, .inl (cyJ, 12, .inr (.inl f_t_roll_before_5)))]) (va_runV (As := [.int r5]) (rest := []) hcf (c_X7_done l D cyJ H.size a_t a_t_forms a_t_roll a_t_row a_t_rows a_t_factors a_t_found a_t_foundOtherwise c_t_acts c_t_refusals c_t_knocks r5 r8 c_t_acts_8 hc8) (cwV 1 hts gX7_turnAll_X7_done rfl rfl rfl ydX7_done ⟨Nat.le_of_ble_eq_true rfl, Nat.le_of_ble_eq_true rfl⟩) ⟨bl_PD, va_recv hK hP (ci := 6) (q0 := 0) rfl rfl, pr_PD hPc hK0 hDc hnw⟩ rfl rfl hl.1 rfl (lv_room (Nat.le_of_ble_eq_true rfl)) dX7_turnAll_8 ⟨Nat.le_of_ble_eq_true rfl, Nat.le_of_ble_eq_true rfl⟩) hP hD hS hA [0] [1, 2, 3] rfl rfl (by decide) (by decide) (fun H locs hP hD hS => ?_)
  have hP : va_P D vwCl [(a_t_roll, .inr (3, [.ref a_t_roll_held, .ref a_t_roll_before, .int c_t_roll_size])), (a_t_roll_held, .inl (cyJ, 12, .inr (.inl f_t_roll_held_5))), (a_t_roll_before, .inl (cyJ, 12, .inr (.inl f_t_roll_before_5))), (a_t, .inr (6, [.ref a_t_forms, .ref a_t_roll, .ref a_t_row, .ref a_t_rows, .ref a_t_factors, .ref a_t_found, .ref a_t_foundOtherwise, .int c_t_acts_8, .int c_t_refusals, .int c_t_knocks]))] H := hP
  have hD : va_D A [(a_t_roll, .inr (3, [.ref a_t_roll_held, .ref a_t_roll_before, .int c_t_roll_size])), (a_t_roll_held, .inl (cyJ, 12, .inr (.inl f_t_roll_held_5))), (a_t_roll_before, .inl (cyJ, 12, .inr (.inl f_t_roll_before_5))), (a_t, .inr (6, [.ref a_t_forms, .ref a_t_roll, .ref a_t_row, .ref a_t_rows, .ref a_t_factors, .ref a_t_found, .ref a_t_foundOtherwise, .int c_t_acts_8, .int c_t_refusals, .int c_t_knocks]))] := hD
  obtain ⟨e0, e1, e2, e3⟩ := tup4 h
  subst e0
  subst e1
  subst e2
  subst e3
  have hP9 : va_P D vwCl [(a_t, .inr (6, [.ref a_t_forms, .ref a_t_roll, .ref a_t_row, .ref a_t_rows, .ref a_t_factors, .ref a_t_found, .ref a_t_foundOtherwise, .int c_t_acts_8, .int c_t_refusals, .int c_t_knocks])), (a_t_roll, .inr (3, [.ref a_t_roll_held, .ref a_t_roll_before, .int c_t_roll_size])), (a_t_roll_held, .inl (cyJ, 12, .inr (.inl f_t_roll_held_5))), (a_t_roll_before, .inl (cyJ, 12, .inr (.inl f_t_roll_before_5)))] H := hP.sub [3, 0, 1, 2] rfl
  have hD9 : va_D A [(a_t, .inr (6, [.ref a_t_forms, .ref a_t_roll, .ref a_t_row, .ref a_t_rows, .ref a_t_factors, .ref a_t_found, .ref a_t_foundOtherwise, .int c_t_acts_8, .int c_t_refusals, .int c_t_knocks])), (a_t_roll, .inr (3, [.ref a_t_roll_held, .ref a_t_roll_before, .int c_t_roll_size])), (a_t_roll_held, .inl (cyJ, 12, .inr (.inl f_t_roll_held_5))), (a_t_roll_before, .inl (cyJ, 12, .inr (.inl f_t_roll_before_5)))] := hD.sub [3, 0, 1, 2] (by decide) rfl
  exact W.iret hx hb hr (fun t ht hW => ⟨⟨_, (), rfl, rfl, wQA_of ht hP9 hD9⟩, hS.F ht⟩) hS.2.2 dX7_turnAll_11

noncomputable abbrev rmX7_take : Room := { frames := 9, cells := 2, slots := 12, locals := 121 }
theorem ydX7_take : yX7_take.cls = RX7 ∧ yX7_take.cls ≠ "java/lang/invoke/MethodHandle" ∧ yX7_take.cls ≠ "java/lang/invoke/VarHandle" ∧ (parseMethodDescriptor yX7_take.desc).map (fun d => d.parameters.length) = some 2 := by decide +kernel
noncomputable def F_X7_take (c_t_acts : Int32) (f_t_forms : Nat → Int64) (c_t_roll_size : Int32) (f_t_roll_held : Nat → Int64) (p0 : Int32) (p1 : Int32) : Option (Nat × Int32 × Int32 × (Nat → Int64)) :=
 obn (F_X7_testRolled c_t_roll_size p0) (fun xc2 =>
 if xc2 = 0 then
 obn (F_X7_testForm p1) (fun xc6 =>
 if xc6 = 0 then
 obn (F_X3_at c_t_roll_size f_t_roll_held p0) (fun r16 =>
 obn3 (F_X7_become c_t_acts f_t_forms p1 r16) (fun r19 c_t_acts_19 f_t_forms_19 =>
 some (0, r19, c_t_acts_19, f_t_forms_19)))
else
 some (xc6, 0, c_t_acts, f_t_forms))
else
 some (xc2, 0, c_t_acts, f_t_forms))
set_option maxHeartbeats 4000000 in
set_option maxRecDepth 100000 in
theorem c_X7_take (l : Launch) (hfl : l.stackTraces = false) (D : va_G) (cyJ : ClassId) (sz : Nat) (a_t : Nat) (a_t_forms : Nat) (a_t_roll : Nat) (a_t_row : Nat) (a_t_rows : Nat) (a_t_factors : Nat) (a_t_found : Nat) (a_t_foundOtherwise : Nat) (a_t_roll_held : Nat) (a_t_roll_before : Nat) (c_t_acts : Int32) (c_t_refusals : Int32) (c_t_knocks : Int32) (f_t_forms : Nat → Int64) (c_t_roll_size : Int32) (f_t_roll_held : Nat → Int64) (p0 : Int32) (p1 : Int32) (xc : Nat) (r0 : Int32) (o_c_t_acts : Int32) (o_f_t_forms : Nat → Int64) (hF : F_X7_take c_t_acts f_t_forms c_t_roll_size f_t_roll_held p0 p1 = some (xc, r0, o_c_t_acts, o_f_t_forms)) : vx_Met l yX7_take wsX7_take rmX7_take (va_Pc [.ref a_t, .int p0, .int p1] (wPX D [(cyJ, .long)] [(a_t, .inr (6, [.ref a_t_forms, .ref a_t_roll, .ref a_t_row, .ref a_t_rows, .ref a_t_factors, .ref a_t_found, .ref a_t_foundOtherwise, .int c_t_acts, .int c_t_refusals, .int c_t_knocks])), (a_t_forms, .inl (cyJ, 6, .inr (.inl f_t_forms))), (a_t_roll, .inr (3, [.ref a_t_roll_held, .ref a_t_roll_before, .int c_t_roll_size])), (a_t_roll_held, .inl (cyJ, 12, .inr (.inl f_t_roll_held)))] sz)) (va_Qi (fun (r : Int32) (_ : Unit) => xc = 0 ∧ r = r0) (fun _ t => wQA D [(a_t, .inr (6, [.ref a_t_forms, .ref a_t_roll, .ref a_t_row, .ref a_t_rows, .ref a_t_factors, .ref a_t_found, .ref a_t_foundOtherwise, .int o_c_t_acts, .int c_t_refusals, .int c_t_knocks])), (a_t_forms, .inl (cyJ, 6, .inr (.inl o_f_t_forms))), (a_t_roll, .inr (3, [.ref a_t_roll_held, .ref a_t_roll_before, .int c_t_roll_size])), (a_t_roll_held, .inl (cyJ, 12, .inr (.inl f_t_roll_held)))] (va_A [(a_t, .inr (6, [.ref a_t_forms, .ref a_t_roll, .ref a_t_row, .ref a_t_rows, .ref a_t_factors, .ref a_t_found, .ref a_t_foundOtherwise, .int c_t_acts, .int c_t_refusals, .int c_t_knocks])), (a_t_forms, .inl (cyJ, 6, .inr (.inl f_t_forms))), (a_t_roll, .inr (3, [.ref a_t_roll_held, .ref a_t_roll_before, .int c_t_roll_size])), (a_t_roll_held, .inl (cyJ, 12, .inr (.inl f_t_roll_held)))] sz) t) (va_A [(a_t, .inr (6, [.ref a_t_forms, .ref a_t_roll, .ref a_t_row, .ref a_t_rows, .ref a_t_factors, .ref a_t_found, .ref a_t_foundOtherwise, .int c_t_acts, .int c_t_refusals, .int c_t_knocks])), (a_t_forms, .inl (cyJ, 6, .inr (.inl f_t_forms))), (a_t_roll, .inr (3, [.ref a_t_roll_held, .ref a_t_roll_before, .int c_t_roll_size])), (a_t_roll_held, .inl (cyJ, 12, .inr (.inl f_t_roll_held)))] sz)) (vx_X (fun (_ : Unit) => ¬ xc = 0) (fun E _ t => E = xcls xc ∧ wQA D [(a_t, .inr (6, [.ref a_t_forms, .ref a_t_roll, .ref a_t_row, .ref a_t_rows, .ref a_t_factors, .ref a_t_found, .ref a_t_foundOtherwise, .int o_c_t_acts, .int c_t_refusals, .int c_t_knocks])), (a_t_forms, .inl (cyJ, 6, .inr (.inl o_f_t_forms))), (a_t_roll, .inr (3, [.ref a_t_roll_held, .ref a_t_roll_before, .int c_t_roll_size])), (a_t_roll_held, .inl (cyJ, 12, .inr (.inl f_t_roll_held)))] (va_A [(a_t, .inr (6, [.ref a_t_forms, .ref a_t_roll, .ref a_t_row, .ref a_t_rows, .ref a_t_factors, .ref a_t_found, .ref a_t_foundOtherwise, .int c_t_acts, .int c_t_refusals, .int c_t_knocks])), (a_t_forms, .inl (cyJ, 6, .inr (.inl f_t_forms))), (a_t_roll, .inr (3, [.ref a_t_roll_held, .ref a_t_roll_before, .int c_t_roll_size])), (a_t_roll_held, .inl (cyJ, 12, .inr (.inl f_t_roll_held)))] sz) t) (va_A [(a_t, .inr (6, [.ref a_t_forms, .ref a_t_roll, .ref a_t_row, .ref a_t_rows, .ref a_t_factors, .ref a_t_found, .ref a_t_foundOtherwise, .int c_t_acts, .int c_t_refusals, .int c_t_knocks])), (a_t_forms, .inl (cyJ, 6, .inr (.inl f_t_forms))), (a_t_roll, .inr (3, [.ref a_t_roll_held, .ref a_t_roll_before, .int c_t_roll_size])), (a_t_roll_held, .inl (cyJ, 12, .inr (.inl f_t_roll_held)))] sz)) 2 12 (va_A [(a_t, .inr (6, [.ref a_t_forms, .ref a_t_roll, .ref a_t_row, .ref a_t_rows, .ref a_t_factors, .ref a_t_found, .ref a_t_foundOtherwise, .int c_t_acts, .int c_t_refusals, .int c_t_knocks])), (a_t_forms, .inl (cyJ, 6, .inr (.inl f_t_forms))), (a_t_roll, .inr (3, [.ref a_t_roll_held, .ref a_t_roll_before, .int c_t_roll_size])), (a_t_roll_held, .inl (cyJ, 12, .inr (.inl f_t_roll_held)))] sz) := by
  refine vx_ofW (cc := cX7_take) (maxL := 3) (ret := (some .int)) (by decide) rfl ?_
  intro p e s m args below meth c s₁ B hml hxt hv
  obtain ⟨rfl, ⟨⟨hsz, hP, hK, hD0, hnw⟩, hE⟩⟩ := hv
  have hx := B.exec
  have hb := B.bytes
  have hr := B.returns
  have hts := atoms_spec (ws := wsX7_take) B.pre
  have hown : s.vm.findClass RX7 = some m.cls := findClass_of_methodNamed B.named
  have hlocks := B.notSynchronized
  have hcf : CallFix _ _ _ _ _ _ _ _ _ := ⟨hx, hb, hml, hown, hts⟩
  have hinX7 : ∀ w ∈ u_ws RX7 TX7 10, w ∈ wsX7_take := by decide +kernel
  have hfl16 := hts (.fieldLink RX7 16 "Formwheel" "roll" "LFormwheel$Roll;") (by decide +kernel)
  subst hsz
  have hD := hD0.self (sz := s.heap.size)
  generalize hAe : va_A [(a_t, .inr (6, [.ref a_t_forms, .ref a_t_roll, .ref a_t_row, .ref a_t_rows, .ref a_t_factors, .ref a_t_found, .ref a_t_foundOtherwise, .int c_t_acts, .int c_t_refusals, .int c_t_knocks])), (a_t_forms, .inl (cyJ, 6, .inr (.inl f_t_forms))), (a_t_roll, .inr (3, [.ref a_t_roll_held, .ref a_t_roll_before, .int c_t_roll_size])), (a_t_roll_held, .inl (cyJ, 12, .inr (.inl f_t_roll_held)))] s.heap.size = A at hD hE ⊢
  have hA : ∀ q : Nat, s.heap.size ≤ q → A q := fun q h => by rw [← hAe]; exact Or.inr h
  have hS : va_S A s.heap s.heap [] := va_S.rf
  have hP : va_P D vwCl [(a_t, .inr (6, [.ref a_t_forms, .ref a_t_roll, .ref a_t_row, .ref a_t_rows, .ref a_t_factors, .ref a_t_found, .ref a_t_foundOtherwise, .int c_t_acts, .int c_t_refusals, .int c_t_knocks])), (a_t_forms, .inl (cyJ, 6, .inr (.inl f_t_forms))), (a_t_roll, .inr (3, [.ref a_t_roll_held, .ref a_t_roll_before, .int c_t_roll_size])), (a_t_roll_held, .inl (cyJ, 12, .inr (.inl f_t_roll_held)))] s.heap := hP
  have hK0 := hK
  have hl := lv_entry ([.ref a_t, .int p0, .int p1]) (n := 3) (Nat.le_of_ble_eq_true rfl)
  rw [lg_entry_eq]
  generalize (lg_sl ([.ref a_t, .int p0, .int p1]) ++ List.replicate (3 - (lg_sl ([.ref a_t, .int p0, .int p1])).length) Slot.unset).toArray = ls at hl ⊢
  have hl : lv_has ls 3 [(0, .ref a_t), (1, .int p0), (2, .int p1)] := hl
  have h := hF
  clear hF
  unfold F_X7_take at h
  refine lv_aload_n hx hb dX7_take_0 rfl (lv_at hl 0 rfl) ?_
  refine lv_iload_n hx hb dX7_take_1 rfl (lv_at hl 1 rfl) ?_
  obtain ⟨xc2, hc2, h⟩ := obn_h h
  have hPc := hP.sub (ws' := [(a_t, .inr (6, [.ref a_t_forms, .ref a_t_roll, .ref a_t_row, .ref a_t_rows, .ref a_t_factors, .ref a_t_found, .ref a_t_foundOtherwise, .int c_t_acts, .int c_t_refusals, .int c_t_knocks])), (a_t_roll, .inr (3, [.ref a_t_roll_held, .ref a_t_roll_before, .int c_t_roll_size]))]) [0, 2] rfl
  have hDc := hD.sub (ws' := [(a_t, .inr (6, [.ref a_t_forms, .ref a_t_roll, .ref a_t_row, .ref a_t_rows, .ref a_t_factors, .ref a_t_found, .ref a_t_foundOtherwise, .int c_t_acts, .int c_t_refusals, .int c_t_knocks])), (a_t_roll, .inr (3, [.ref a_t_roll_held, .ref a_t_roll_before, .int c_t_roll_size]))]) [0, 2] (by decide) rfl
  refine hx_v (w1 := [(a_t, .inr (6, [.ref a_t_forms, .ref a_t_roll, .ref a_t_row, .ref a_t_rows, .ref a_t_factors, .ref a_t_found, .ref a_t_foundOtherwise, .int c_t_acts, .int c_t_refusals, .int c_t_knocks])), (a_t_roll, .inr (3, [.ref a_t_roll_held, .ref a_t_roll_before, .int c_t_roll_size]))]) (wr := [(a_t_forms, .inl (cyJ, 6, .inr (.inl f_t_forms))), (a_t_roll_held, .inl (cyJ, 12, .inr (.inl f_t_roll_held)))]) (vx_runV (As := [.int p0]) (rest := []) hcf (c_X7_testRolled l hfl D cyJ s.heap.size a_t a_t_forms a_t_roll a_t_row a_t_rows a_t_factors a_t_found a_t_foundOtherwise a_t_roll_held a_t_roll_before c_t_acts c_t_refusals c_t_knocks c_t_roll_size p0 xc2 hc2) (cwV 1 hts gX7_take_X7_testRolled rfl rfl rfl ydX7_testRolled ⟨Nat.le_of_ble_eq_true rfl, Nat.le_of_ble_eq_true rfl⟩) ⟨bl_PX, va_recv hK hP (ci := 6) (q0 := 0) rfl rfl, pr_PX hPc hK0 hDc hnw hE hS (va_free hD hS hA [0, 2] rfl)⟩ rfl rfl hl.1 rfl (lv_room (Nat.le_of_ble_eq_true rfl)) dX7_take_2 ⟨Nat.le_of_ble_eq_true rfl, Nat.le_of_ble_eq_true rfl⟩) hP hD hS hA [0, 2] [1, 3] rfl rfl (by decide) (by decide) (fun E9 ce9 q9 H locs hx9 hE9 hP hD hS hce9 hcv9 hcl9 => ?_) (fun hx9 H locs hP hD hS => ?_)
  · have h := if_ hx9 h
    have hP : va_P D vwCl [(a_t_forms, .inl (cyJ, 6, .inr (.inl f_t_forms))), (a_t_roll_held, .inl (cyJ, 12, .inr (.inl f_t_roll_held))), (a_t, .inr (6, [.ref a_t_forms, .ref a_t_roll, .ref a_t_row, .ref a_t_rows, .ref a_t_factors, .ref a_t_found, .ref a_t_foundOtherwise, .int c_t_acts, .int c_t_refusals, .int c_t_knocks])), (a_t_roll, .inr (3, [.ref a_t_roll_held, .ref a_t_roll_before, .int c_t_roll_size]))] H := hP
    have hD : va_D A [(a_t_forms, .inl (cyJ, 6, .inr (.inl f_t_forms))), (a_t_roll_held, .inl (cyJ, 12, .inr (.inl f_t_roll_held))), (a_t, .inr (6, [.ref a_t_forms, .ref a_t_roll, .ref a_t_row, .ref a_t_rows, .ref a_t_factors, .ref a_t_found, .ref a_t_foundOtherwise, .int c_t_acts, .int c_t_refusals, .int c_t_knocks])), (a_t_roll, .inr (3, [.ref a_t_roll_held, .ref a_t_roll_before, .int c_t_roll_size]))] := hD
    obtain ⟨e0, e1, e2, e3⟩ := tup4 h
    subst e0
    subst e1
    subst e2
    subst e3
    have hP9 : va_P D vwCl [(a_t, .inr (6, [.ref a_t_forms, .ref a_t_roll, .ref a_t_row, .ref a_t_rows, .ref a_t_factors, .ref a_t_found, .ref a_t_foundOtherwise, .int c_t_acts, .int c_t_refusals, .int c_t_knocks])), (a_t_forms, .inl (cyJ, 6, .inr (.inl f_t_forms))), (a_t_roll, .inr (3, [.ref a_t_roll_held, .ref a_t_roll_before, .int c_t_roll_size])), (a_t_roll_held, .inl (cyJ, 12, .inr (.inl f_t_roll_held)))] H := hP.sub [2, 0, 3, 1] rfl
    have hD9 : va_D A [(a_t, .inr (6, [.ref a_t_forms, .ref a_t_roll, .ref a_t_row, .ref a_t_rows, .ref a_t_factors, .ref a_t_found, .ref a_t_foundOtherwise, .int c_t_acts, .int c_t_refusals, .int c_t_knocks])), (a_t_forms, .inl (cyJ, 6, .inr (.inl f_t_forms))), (a_t_roll, .inr (3, [.ref a_t_roll_held, .ref a_t_roll_before, .int c_t_roll_size])), (a_t_roll_held, .inl (cyJ, 12, .inr (.inl f_t_roll_held)))] := hD.sub [2, 0, 3, 1] (by decide) rfl
    exact vx_out (fun x hx => (hxt x hx).elim) hlocks hce9 hcv9 hcl9 (fun t ht hW => ⟨(), hx9, ⟨hE9, wQA_of ht hP9 hD9⟩, hS.F ht⟩) hS.2.2 (Nat.le_of_ble_eq_true rfl) (Nat.le_of_ble_eq_true rfl)
  · have h := it_ hx9 h
    have hP : va_P D vwCl [(a_t_forms, .inl (cyJ, 6, .inr (.inl f_t_forms))), (a_t_roll_held, .inl (cyJ, 12, .inr (.inl f_t_roll_held))), (a_t, .inr (6, [.ref a_t_forms, .ref a_t_roll, .ref a_t_row, .ref a_t_rows, .ref a_t_factors, .ref a_t_found, .ref a_t_foundOtherwise, .int c_t_acts, .int c_t_refusals, .int c_t_knocks])), (a_t_roll, .inr (3, [.ref a_t_roll_held, .ref a_t_roll_before, .int c_t_roll_size]))] H := hP
    have hD : va_D A [(a_t_forms, .inl (cyJ, 6, .inr (.inl f_t_forms))), (a_t_roll_held, .inl (cyJ, 12, .inr (.inl f_t_roll_held))), (a_t, .inr (6, [.ref a_t_forms, .ref a_t_roll, .ref a_t_row, .ref a_t_rows, .ref a_t_factors, .ref a_t_found, .ref a_t_foundOtherwise, .int c_t_acts, .int c_t_refusals, .int c_t_knocks])), (a_t_roll, .inr (3, [.ref a_t_roll_held, .ref a_t_roll_before, .int c_t_roll_size]))] := hD
    refine lv_iload_n hx hb dX7_take_5 rfl (lv_at hl 2 rfl) ?_
    obtain ⟨xc6, hc6, h⟩ := obn_h h
    have hPc := hP.sub (ws' := []) [] rfl
    have hDc := hD.sub (ws' := []) [] (by decide) rfl
    refine hx_v (w1 := []) (wr := [(a_t_forms, .inl (cyJ, 6, .inr (.inl f_t_forms))), (a_t_roll_held, .inl (cyJ, 12, .inr (.inl f_t_roll_held))), (a_t, .inr (6, [.ref a_t_forms, .ref a_t_roll, .ref a_t_row, .ref a_t_rows, .ref a_t_factors, .ref a_t_found, .ref a_t_foundOtherwise, .int c_t_acts, .int c_t_refusals, .int c_t_knocks])), (a_t_roll, .inr (3, [.ref a_t_roll_held, .ref a_t_roll_before, .int c_t_roll_size]))]) (vx_runS (As := [.int p1]) (rest := []) hcf (c_X7_testForm l hfl D cyJ H.size p1 xc6 hc6) (va_cwS 1 hts gX7_take_X7_testForm rfl rfl rfl ydX7_testForm ⟨Nat.le_of_ble_eq_true rfl, Nat.le_of_ble_eq_true rfl⟩) ⟨bl_PX, pr_PX hPc hK0 hDc hnw hE hS (va_free hD hS hA [] rfl)⟩ rfl rfl hl.1 rfl (lv_room (Nat.le_of_ble_eq_true rfl)) dX7_take_6 ⟨Nat.le_of_ble_eq_true rfl, Nat.le_of_ble_eq_true rfl⟩) hP hD hS hA [] [0, 1, 2, 3] rfl rfl (by decide) (by decide) (fun E9 ce9 q9 H locs hx9 hE9 hP hD hS hce9 hcv9 hcl9 => ?_) (fun hx9 H locs hP hD hS => ?_)
    · have h := if_ hx9 h
      have hP : va_P D vwCl [(a_t_forms, .inl (cyJ, 6, .inr (.inl f_t_forms))), (a_t_roll_held, .inl (cyJ, 12, .inr (.inl f_t_roll_held))), (a_t, .inr (6, [.ref a_t_forms, .ref a_t_roll, .ref a_t_row, .ref a_t_rows, .ref a_t_factors, .ref a_t_found, .ref a_t_foundOtherwise, .int c_t_acts, .int c_t_refusals, .int c_t_knocks])), (a_t_roll, .inr (3, [.ref a_t_roll_held, .ref a_t_roll_before, .int c_t_roll_size]))] H := hP
      have hD : va_D A [(a_t_forms, .inl (cyJ, 6, .inr (.inl f_t_forms))), (a_t_roll_held, .inl (cyJ, 12, .inr (.inl f_t_roll_held))), (a_t, .inr (6, [.ref a_t_forms, .ref a_t_roll, .ref a_t_row, .ref a_t_rows, .ref a_t_factors, .ref a_t_found, .ref a_t_foundOtherwise, .int c_t_acts, .int c_t_refusals, .int c_t_knocks])), (a_t_roll, .inr (3, [.ref a_t_roll_held, .ref a_t_roll_before, .int c_t_roll_size]))] := hD
      obtain ⟨e0, e1, e2, e3⟩ := tup4 h
      subst e0
      subst e1
      subst e2
      subst e3
      have hP9 : va_P D vwCl [(a_t, .inr (6, [.ref a_t_forms, .ref a_t_roll, .ref a_t_row, .ref a_t_rows, .ref a_t_factors, .ref a_t_found, .ref a_t_foundOtherwise, .int c_t_acts, .int c_t_refusals, .int c_t_knocks])), (a_t_forms, .inl (cyJ, 6, .inr (.inl f_t_forms))), (a_t_roll, .inr (3, [.ref a_t_roll_held, .ref a_t_roll_before, .int c_t_roll_size])), (a_t_roll_held, .inl (cyJ, 12, .inr (.inl f_t_roll_held)))] H := hP.sub [2, 0, 3, 1] rfl
      have hD9 : va_D A [(a_t, .inr (6, [.ref a_t_forms, .ref a_t_roll, .ref a_t_row, .ref a_t_rows, .ref a_t_factors, .ref a_t_found, .ref a_t_foundOtherwise, .int c_t_acts, .int c_t_refusals, .int c_t_knocks])), (a_t_forms, .inl (cyJ, 6, .inr (.inl f_t_forms))), (a_t_roll, .inr (3, [.ref a_t_roll_held, .ref a_t_roll_before, .int c_t_roll_size])), (a_t_roll_held, .inl (cyJ, 12, .inr (.inl f_t_roll_held)))] := hD.sub [2, 0, 3, 1] (by decide) rfl
      exact vx_out (fun x hx => (hxt x hx).elim) hlocks hce9 hcv9 hcl9 (fun t ht hW => ⟨(), hx9, ⟨hE9, wQA_of ht hP9 hD9⟩, hS.F ht⟩) hS.2.2 (Nat.le_of_ble_eq_true rfl) (Nat.le_of_ble_eq_true rfl)
    · have h := it_ hx9 h
      have hP : va_P D vwCl [(a_t_forms, .inl (cyJ, 6, .inr (.inl f_t_forms))), (a_t_roll_held, .inl (cyJ, 12, .inr (.inl f_t_roll_held))), (a_t, .inr (6, [.ref a_t_forms, .ref a_t_roll, .ref a_t_row, .ref a_t_rows, .ref a_t_factors, .ref a_t_found, .ref a_t_foundOtherwise, .int c_t_acts, .int c_t_refusals, .int c_t_knocks])), (a_t_roll, .inr (3, [.ref a_t_roll_held, .ref a_t_roll_before, .int c_t_roll_size]))] H := hP
      have hD : va_D A [(a_t_forms, .inl (cyJ, 6, .inr (.inl f_t_forms))), (a_t_roll_held, .inl (cyJ, 12, .inr (.inl f_t_roll_held))), (a_t, .inr (6, [.ref a_t_forms, .ref a_t_roll, .ref a_t_row, .ref a_t_rows, .ref a_t_factors, .ref a_t_found, .ref a_t_foundOtherwise, .int c_t_acts, .int c_t_refusals, .int c_t_knocks])), (a_t_roll, .inr (3, [.ref a_t_roll_held, .ref a_t_roll_before, .int c_t_roll_size]))] := hD
      refine lv_aload_n hx hb dX7_take_9 rfl (lv_at hl 0 rfl) ?_
      refine lv_iload_n hx hb dX7_take_10 rfl (lv_at hl 2 rfl) ?_
      refine lv_aload_n hx hb dX7_take_11 rfl (lv_at hl 0 rfl) ?_
      refine va_get (D := D) (ci := 6) (v := .ref a_t_roll) (C := RX7) (T := TX7) (N := 10) hx hb hts hinX7 hown hK hP 2 rfl rfl 1 (by decide) hfl16 (fun _ h9 => h9) rfl dX7_take_12 ?_
      refine lv_iload_n hx hb dX7_take_15 rfl (lv_at hl 1 rfl) ?_
      obtain ⟨r16, hc16, h⟩ := obn_h h
      have hPc : va_P D vwCl [(a_t_roll, .inr (3, [.ref a_t_roll_held, .ref a_t_roll_before, .int c_t_roll_size])), (a_t_roll_held, .inl (cyJ, 12, .inr (.inl f_t_roll_held)))] H := hP.sub [3, 1] rfl
      refine rd_callV (As := [.int p0]) (rest := [.int p1, .ref a_t]) hcf (c_X3_at l D cyJ a_t_roll a_t_roll_held a_t_roll_before c_t_roll_size f_t_roll_held p0 r16 hc16) (cwV 1 hts gX7_take_X3_at rfl rfl rfl ydX3_at ⟨Nat.le_of_ble_eq_true rfl, Nat.le_of_ble_eq_true rfl⟩) hnw hPc hK0 (va_recv hK hP (ci := 3) (q0 := 3) rfl rfl) rfl hl.1 rfl (Nat.le_of_ble_eq_true rfl) dX7_take_16 ⟨Nat.le_of_ble_eq_true rfl, Nat.le_of_ble_eq_true rfl⟩ ?_
      obtain ⟨r19, c_t_acts_19, f_t_forms_19, hc19, h⟩ := obn3_h h
      have hPc := hP.sub (ws' := [(a_t, .inr (6, [.ref a_t_forms, .ref a_t_roll, .ref a_t_row, .ref a_t_rows, .ref a_t_factors, .ref a_t_found, .ref a_t_foundOtherwise, .int c_t_acts, .int c_t_refusals, .int c_t_knocks])), (a_t_forms, .inl (cyJ, 6, .inr (.inl f_t_forms)))]) [2, 0] rfl
      have hDc := hD.sub (ws' := [(a_t, .inr (6, [.ref a_t_forms, .ref a_t_roll, .ref a_t_row, .ref a_t_rows, .ref a_t_factors, .ref a_t_found, .ref a_t_foundOtherwise, .int c_t_acts, .int c_t_refusals, .int c_t_knocks])), (a_t_forms, .inl (cyJ, 6, .inr (.inl f_t_forms)))]) [2, 0] (by decide) rfl
      refine hp_i (w1 := [(a_t, .inr (6, [.ref a_t_forms, .ref a_t_roll, .ref a_t_row, .ref a_t_rows, .ref a_t_factors, .ref a_t_found, .ref a_t_foundOtherwise, .int c_t_acts_19, .int c_t_refusals, .int c_t_knocks])), (a_t_forms, .inl (cyJ, 6, .inr (.inl f_t_forms_19)))]) (wr := [(a_t_roll_held, .inl (cyJ, 12, .inr (.inl f_t_roll_held))), (a_t_roll, .inr (3, [.ref a_t_roll_held, .ref a_t_roll_before, .int c_t_roll_size]))]) (va_runV (As := [.int p1, .long r16]) (rest := []) hcf (c_X7_become l D cyJ H.size a_t a_t_forms a_t_roll a_t_row a_t_rows a_t_factors a_t_found a_t_foundOtherwise c_t_acts c_t_refusals c_t_knocks f_t_forms p1 r16 r19 c_t_acts_19 f_t_forms_19 hc19) (cwV 2 hts gX7_take_X7_become rfl rfl rfl ydX7_become ⟨Nat.le_of_ble_eq_true rfl, Nat.le_of_ble_eq_true rfl⟩) ⟨bl_PD, va_recv hK hP (ci := 6) (q0 := 2) rfl rfl, pr_PD hPc hK0 hDc hnw⟩ rfl rfl hl.1 rfl (lv_room (Nat.le_of_ble_eq_true rfl)) dX7_take_19 ⟨Nat.le_of_ble_eq_true rfl, Nat.le_of_ble_eq_true rfl⟩) hP hD hS hA [2, 0] [1, 3] rfl rfl (by decide) (by decide) (fun H locs hP hD hS => ?_)
      have hP : va_P D vwCl [(a_t_roll_held, .inl (cyJ, 12, .inr (.inl f_t_roll_held))), (a_t_roll, .inr (3, [.ref a_t_roll_held, .ref a_t_roll_before, .int c_t_roll_size])), (a_t, .inr (6, [.ref a_t_forms, .ref a_t_roll, .ref a_t_row, .ref a_t_rows, .ref a_t_factors, .ref a_t_found, .ref a_t_foundOtherwise, .int c_t_acts_19, .int c_t_refusals, .int c_t_knocks])), (a_t_forms, .inl (cyJ, 6, .inr (.inl f_t_forms_19)))] H := hP
      have hD : va_D A [(a_t_roll_held, .inl (cyJ, 12, .inr (.inl f_t_roll_held))), (a_t_roll, .inr (3, [.ref a_t_roll_held, .ref a_t_roll_before, .int c_t_roll_size])), (a_t, .inr (6, [.ref a_t_forms, .ref a_t_roll, .ref a_t_row, .ref a_t_rows, .ref a_t_factors, .ref a_t_found, .ref a_t_foundOtherwise, .int c_t_acts_19, .int c_t_refusals, .int c_t_knocks])), (a_t_forms, .inl (cyJ, 6, .inr (.inl f_t_forms_19)))] := hD
      obtain ⟨e0, e1, e2, e3⟩ := tup4 h
      subst e0
      subst e1
      subst e2
      subst e3
      have hP9 : va_P D vwCl [(a_t, .inr (6, [.ref a_t_forms, .ref a_t_roll, .ref a_t_row, .ref a_t_rows, .ref a_t_factors, .ref a_t_found, .ref a_t_foundOtherwise, .int c_t_acts_19, .int c_t_refusals, .int c_t_knocks])), (a_t_forms, .inl (cyJ, 6, .inr (.inl f_t_forms_19))), (a_t_roll, .inr (3, [.ref a_t_roll_held, .ref a_t_roll_before, .int c_t_roll_size])), (a_t_roll_held, .inl (cyJ, 12, .inr (.inl f_t_roll_held)))] H := hP.sub [2, 3, 1, 0] rfl
      have hD9 : va_D A [(a_t, .inr (6, [.ref a_t_forms, .ref a_t_roll, .ref a_t_row, .ref a_t_rows, .ref a_t_factors, .ref a_t_found, .ref a_t_foundOtherwise, .int c_t_acts_19, .int c_t_refusals, .int c_t_knocks])), (a_t_forms, .inl (cyJ, 6, .inr (.inl f_t_forms_19))), (a_t_roll, .inr (3, [.ref a_t_roll_held, .ref a_t_roll_before, .int c_t_roll_size])), (a_t_roll_held, .inl (cyJ, 12, .inr (.inl f_t_roll_held)))] := hD.sub [2, 3, 1, 0] (by decide) rfl
      refine vx_ret ?_
      exact W.iret hx hb hr (fun t ht hW => ⟨⟨_, (), rfl, ⟨rfl, rfl⟩, wQA_of ht hP9 hD9⟩, hS.F ht⟩) hS.2.2 dX7_take_22

noncomputable abbrev rmX3_hasEmpty : Room := { frames := 0, cells := 0, slots := 0, locals := 0 }
theorem ydX3_hasEmpty : yX3_hasEmpty.cls = RX3 ∧ yX3_hasEmpty.cls ≠ "java/lang/invoke/MethodHandle" ∧ yX3_hasEmpty.cls ≠ "java/lang/invoke/VarHandle" ∧ (parseMethodDescriptor yX3_hasEmpty.desc).map (fun d => d.parameters.length) = some 0 := by decide +kernel
noncomputable def S_X3_hasEmpty_2 (c_t_size_z2 : Int32) (f_t_held_z2 : Nat → Int64) (k21 : Unit → Option (Int32)) (k29 : Unit → Option (Int32)) (ih2 : Int32 → Option (Int32)) (y1_2 : Int32) : Option (Int32) :=
 (if c_t_size_z2 ≤ y1_2 then
 k29 ()
else
 chk (¬ (y1_2 < 0 ∨ 12 ≤ y1_2.toNatClampNeg)) (
 (if (f_t_held_z2 y1_2.toNatClampNeg) = (0 : Int64) then
 k21 ()
else
 bnd (y1_2 + 1) (fun x1_23 =>
 ih2 x1_23))))
noncomputable def F_X3_hasEmpty (c_t_size : Int32) (f_t_held : Nat → Int64) : Option (Int32) :=
 LQ1 (S_X3_hasEmpty_2 c_t_size f_t_held (fun _ =>
 some (1 : Int32)) (fun _ =>
 some (0 : Int32))) 20000 (0 : Int32)
set_option maxHeartbeats 4000000 in
set_option maxRecDepth 100000 in
theorem c_X3_hasEmpty (l : Launch) (D : va_G) (cyJ : ClassId) (a_t : Nat) (a_t_held : Nat) (a_t_before : Nat) (c_t_size : Int32) (f_t_held : Nat → Int64) (r0 : Int32) (hF : F_X3_hasEmpty c_t_size f_t_held = some r0) : Met l yX3_hasEmpty wsX3_hasEmpty rmX3_hasEmpty (va_Pc [.ref a_t] (wPK D [(cyJ, .long)] [(a_t, .inr (3, [.ref a_t_held, .ref a_t_before, .int c_t_size])), (a_t_held, .inl (cyJ, 12, .inr (.inl f_t_held)))])) (k2_QcV (.int r0)) 0 0 (fun _ => False) := by
  refine Met.ofW (cc := cX3_hasEmpty) (maxL := 2) (ret := (some .boolean)) (by decide) rfl ?_
  intro p e s m args below meth c s₁ B hml hv
  obtain ⟨rfl, hP, hK, hnw⟩ := hv
  have hx := B.exec
  have hb := B.bytes
  have hr := B.returns
  have hts := atoms_spec (ws := wsX3_hasEmpty) B.pre
  have hown : s.vm.findClass RX3 = some m.cls := findClass_of_methodNamed B.named
  have hlocks := B.notSynchronized
  have hcf : CallFix _ _ _ _ _ _ _ _ _ := ⟨hx, hb, hml, hown, hts⟩
  have hinX3 : ∀ w ∈ u_ws RX3 TX3 3, w ∈ wsX3_hasEmpty := by decide +kernel
  have hfl18 := hts (.fieldLink RX3 18 "Formwheel$Roll" "size" "I") (by decide +kernel)
  have hfl9 := hts (.fieldLink RX3 9 "Formwheel$Roll" "held" "[J") (by decide +kernel)
  have hK0 := hK
  have hl := lv_entry ([.ref a_t]) (n := 2) (Nat.le_of_ble_eq_true rfl)
  rw [lg_entry_eq]
  generalize (lg_sl ([.ref a_t]) ++ List.replicate (2 - (lg_sl ([.ref a_t])).length) Slot.unset).toArray = ls at hl ⊢
  have hl : lv_has ls 2 [(0, .ref a_t)] := hl
  have h := hF
  clear hF
  unfold F_X3_hasEmpty at h
  refine lv_iconst (v := 0) hx hb dX3_hasEmpty_0 (by decide) ?_
  refine lv_istore_n (lv' := [(1, .int (0 : Int32)), (0, .ref a_t)]) hx hb dX3_hasEmpty_1 rfl hl (by decide) rfl (fun ls hl => ?_)
  refine LQ1_k2 (M := fun (y1_2 : Int32) => ∀ (ls : Array Slot), lv_has ls 2 [(0, .ref a_t), (1, .int y1_2)] → W p l e rmX3_hasEmpty s m ([.ref a_t] : List Value).toArray below meth c s.heap [] 0 0 (MQ below (k2_QcV (.int r0)) ([.ref a_t] : List Value).toArray s 0 0 (fun _ => False)) (F0 m 2 ls [])) ?_ _ _ h ls (lv_sub hl [1, 0] rfl)
  intro k21 hk21 k29 hk29 ih2 hih2 y1_2 h ls hl
  unfold S_X3_hasEmpty_2 at h
  refine lv_iload_n hx hb dX3_hasEmpty_2 rfl (lv_at hl 1 rfl) ?_
  refine lv_aload_n hx hb dX3_hasEmpty_3 rfl (lv_at hl 0 rfl) ?_
  refine va_get (D := D) (ci := 3) (v := .int c_t_size) (C := RX3) (T := TX3) (N := 3) hx hb hts hinX3 hown hK hP 0 rfl rfl 2 (by decide) hfl18 (fun _ h9 => h9) rfl dX3_hasEmpty_4 ?_
  refine lv_icmp_ge (tgt := 29) hx hb dX3_hasEmpty_7 (by decide) (fun c7 => ?_) (fun c7 => ?_)
  · have h := it_ c7 h
    rw [hk29] at h
    refine lv_iconst (v := 0) hx hb dX3_hasEmpty_29 (by decide) ?_
    have e1 := Option.some.inj h
    subst e1
    exact W.zret hx hb hr narrow_b0 (fun t ht _ => ⟨rfl, ht⟩) no_q dX3_hasEmpty_30
  · have h := if_ c7 h
    refine lv_aload_n hx hb dX3_hasEmpty_10 rfl (lv_at hl 0 rfl) ?_
    refine va_get (D := D) (ci := 3) (v := .ref a_t_held) (C := RX3) (T := TX3) (N := 3) hx hb hts hinX3 hown hK hP 0 rfl rfl 0 (by decide) hfl9 (fun _ h9 => h9) rfl dX3_hasEmpty_11 ?_
    refine lv_iload_n hx hb dX3_hasEmpty_14 rfl (lv_at hl 1 rfl) ?_
    obtain ⟨hq15, h⟩ := chk_h h
    refine va_lald hx hb hK hP 1 0 rfl rfl hq15 dX3_hasEmpty_15 ?_
    refine lv_lconst (v := 0) hx hb dX3_hasEmpty_16 (by decide) ?_
    refine W.lcmp hx hb dX3_hasEmpty_17 ?_
    refine lv_if_ne (tgt := 23) hx hb dX3_hasEmpty_18 (by decide) (fun c18 => ?_) (fun c18 => ?_)
    · have c18 := fun z => c18 ((lg_cmp_eq _ _).mpr z)
      have h := if_ c18 h
      obtain ⟨x1_23, e_x1_23⟩ : ∃ z : Int32, z = y1_2 + 1 := ⟨_, rfl⟩
      have h := bnd_h e_x1_23 h
      refine lv_iinc (v := x1_23) (lv' := [(1, .int x1_23), (0, .ref a_t)]) hx hb dX3_hasEmpty_23 hl (k := 1) rfl (by rw [e_x1_23]; rfl) (by decide) rfl (fun ls hl => ?_)
      refine lv_goto (tgt := 2) hx hb dX3_hasEmpty_26 (by decide) ?_
      exact hih2 x1_23 h ls (lv_sub hl [1, 0] rfl)
    · have c18 := (lg_cmp_eq _ _).mp c18
      have h := it_ c18 h
      rw [hk21] at h
      refine lv_iconst (v := 1) hx hb dX3_hasEmpty_21 (by decide) ?_
      have e1 := Option.some.inj h
      subst e1
      exact W.zret hx hb hr narrow_b1 (fun t ht _ => ⟨rfl, ht⟩) no_q dX3_hasEmpty_22

noncomputable abbrev rmX3_multipliedAll : Room := { frames := 3, cells := 0, slots := 0, locals := 70 }
theorem ydX3_multipliedAll : yX3_multipliedAll.cls = RX3 ∧ yX3_multipliedAll.cls ≠ "java/lang/invoke/MethodHandle" ∧ yX3_multipliedAll.cls ≠ "java/lang/invoke/VarHandle" ∧ (parseMethodDescriptor yX3_multipliedAll.desc).map (fun d => d.parameters.length) = some 0 := by decide +kernel
noncomputable def S_X3_multipliedAll_13 (c_t_size_z13 : Int32) (f_t_held_z13 : Nat → Int64) (k38 : Int64 → Option (Int64)) (ih13 : Int64 → Int32 → Option (Int64)) (y1_13 : Int64) (y3_13 : Int32) : Option (Int64) :=
 (if c_t_size_z13 ≤ y3_13 then
 k38 y1_13
else
 chk (¬ (y3_13 < 0 ∨ 12 ≤ y3_13.toNatClampNeg)) (
 obn (F_X0_multiplied y1_13 (f_t_held_z13 y3_13.toNatClampNeg)) (fun r28 =>
 bnd (y3_13 + 1) (fun x3_32 =>
 ih13 r28 x3_32))))
noncomputable def F_X3_multipliedAll (c_t_size : Int32) (f_t_held : Nat → Int64) : Option (Int64) :=
 obn (F_X3_hasEmpty c_t_size f_t_held) (fun r1 =>
 (if r1 = 0 then
 LQ2 (S_X3_multipliedAll_13 c_t_size f_t_held (fun y1_13_38 =>
 some y1_13_38)) 20000 (1 : Int64) (0 : Int32)
else
 some (0 : Int64)))
set_option maxHeartbeats 4000000 in
set_option maxRecDepth 100000 in
theorem c_X3_multipliedAll (l : Launch) (D : va_G) (cyJ : ClassId) (a_t : Nat) (a_t_held : Nat) (a_t_before : Nat) (c_t_size : Int32) (f_t_held : Nat → Int64) (r0 : Int64) (hF : F_X3_multipliedAll c_t_size f_t_held = some r0) : Met l yX3_multipliedAll wsX3_multipliedAll rmX3_multipliedAll (va_Pc [.ref a_t] (wPK D [(cyJ, .long)] [(a_t, .inr (3, [.ref a_t_held, .ref a_t_before, .int c_t_size])), (a_t_held, .inl (cyJ, 12, .inr (.inl f_t_held)))])) (k2_QcV (.long r0)) 0 0 (fun _ => False) := by
  refine Met.ofW (cc := cX3_multipliedAll) (maxL := 4) (ret := (some .long)) (by decide) rfl ?_
  intro p e s m args below meth c s₁ B hml hv
  obtain ⟨rfl, hP, hK, hnw⟩ := hv
  have hx := B.exec
  have hb := B.bytes
  have hr := B.returns
  have hts := atoms_spec (ws := wsX3_multipliedAll) B.pre
  have hown : s.vm.findClass RX3 = some m.cls := findClass_of_methodNamed B.named
  have hlocks := B.notSynchronized
  have hcf : CallFix _ _ _ _ _ _ _ _ _ := ⟨hx, hb, hml, hown, hts⟩
  have hinX3 : ∀ w ∈ u_ws RX3 TX3 3, w ∈ wsX3_multipliedAll := by decide +kernel
  have hfl18 := hts (.fieldLink RX3 18 "Formwheel$Roll" "size" "I") (by decide +kernel)
  have hfl9 := hts (.fieldLink RX3 9 "Formwheel$Roll" "held" "[J") (by decide +kernel)
  have hK0 := hK
  have hl := lv_entry ([.ref a_t]) (n := 4) (Nat.le_of_ble_eq_true rfl)
  rw [lg_entry_eq]
  generalize (lg_sl ([.ref a_t]) ++ List.replicate (4 - (lg_sl ([.ref a_t])).length) Slot.unset).toArray = ls at hl ⊢
  have hl : lv_has ls 4 [(0, .ref a_t)] := hl
  have h := hF
  clear hF
  unfold F_X3_multipliedAll at h
  refine lv_aload_n hx hb dX3_multipliedAll_0 rfl (lv_at hl 0 rfl) ?_
  obtain ⟨r1, hc1, h⟩ := obn_h h
  have hPc : va_P D vwCl [(a_t, .inr (3, [.ref a_t_held, .ref a_t_before, .int c_t_size])), (a_t_held, .inl (cyJ, 12, .inr (.inl f_t_held)))] s.heap := hP.sub [0, 1] rfl
  refine rd_callV (As := []) (rest := []) hcf (c_X3_hasEmpty l D cyJ a_t a_t_held a_t_before c_t_size f_t_held r1 hc1) (cwV 0 hts gX3_multipliedAll_X3_hasEmpty rfl rfl rfl ydX3_hasEmpty ⟨Nat.le_of_ble_eq_true rfl, Nat.le_of_ble_eq_true rfl⟩) hnw hPc hK0 (va_recv hK hP (ci := 3) (q0 := 0) rfl rfl) rfl hl.1 rfl (Nat.le_of_ble_eq_true rfl) dX3_multipliedAll_1 ⟨Nat.le_of_ble_eq_true rfl, Nat.le_of_ble_eq_true rfl⟩ ?_
  refine lv_if_eq (tgt := 9) hx hb dX3_multipliedAll_4 (by decide) (fun c4 => ?_) (fun c4 => ?_)
  · have h := it_ c4 h
    refine lv_lconst (v := 1) hx hb dX3_multipliedAll_9 (by decide) ?_
    refine lv_lstore_n (lv' := [(1, .long (1 : Int64)), (0, .ref a_t)]) hx hb dX3_multipliedAll_10 rfl hl (by decide) rfl (fun ls hl => ?_)
    refine lv_iconst (v := 0) hx hb dX3_multipliedAll_11 (by decide) ?_
    refine lv_istore_n (lv' := [(3, .int (0 : Int32)), (1, .long (1 : Int64)), (0, .ref a_t)]) hx hb dX3_multipliedAll_12 rfl hl (by decide) rfl (fun ls hl => ?_)
    refine LQ2_k1 (M := fun (y1_13 : Int64) (y3_13 : Int32) => ∀ (ls : Array Slot), lv_has ls 4 [(0, .ref a_t), (1, .long y1_13), (3, .int y3_13)] → W p l e rmX3_multipliedAll s m ([.ref a_t] : List Value).toArray below meth c s.heap [] 0 0 (MQ below (k2_QcV (.long r0)) ([.ref a_t] : List Value).toArray s 0 0 (fun _ => False)) (F0 m 13 ls [])) ?_ _ _ _ h ls (lv_sub hl [2, 1, 0] rfl)
    intro k38 hk38 ih13 hih13 y1_13 y3_13 h ls hl
    unfold S_X3_multipliedAll_13 at h
    refine lv_iload_n hx hb dX3_multipliedAll_13 rfl (lv_at hl 2 rfl) ?_
    refine lv_aload_n hx hb dX3_multipliedAll_14 rfl (lv_at hl 0 rfl) ?_
    refine va_get (D := D) (ci := 3) (v := .int c_t_size) (C := RX3) (T := TX3) (N := 3) hx hb hts hinX3 hown hK hP 0 rfl rfl 2 (by decide) hfl18 (fun _ h9 => h9) rfl dX3_multipliedAll_15 ?_
    refine lv_icmp_ge (tgt := 38) hx hb dX3_multipliedAll_18 (by decide) (fun c18 => ?_) (fun c18 => ?_)
    · have h := it_ c18 h
      rw [hk38] at h
      refine lv_lload_n hx hb dX3_multipliedAll_38 rfl (lv_at hl 1 rfl) ?_
      have e1 := Option.some.inj h
      subst e1
      exact W.lret hx hb hr (fun t ht _ => ⟨rfl, ht⟩) no_q dX3_multipliedAll_39
    · have h := if_ c18 h
      refine lv_lload_n hx hb dX3_multipliedAll_21 rfl (lv_at hl 1 rfl) ?_
      refine lv_aload_n hx hb dX3_multipliedAll_22 rfl (lv_at hl 0 rfl) ?_
      refine va_get (D := D) (ci := 3) (v := .ref a_t_held) (C := RX3) (T := TX3) (N := 3) hx hb hts hinX3 hown hK hP 0 rfl rfl 0 (by decide) hfl9 (fun _ h9 => h9) rfl dX3_multipliedAll_23 ?_
      refine lv_iload_n hx hb dX3_multipliedAll_26 rfl (lv_at hl 2 rfl) ?_
      obtain ⟨hq27, h⟩ := chk_h h
      refine va_lald hx hb hK hP 1 0 rfl rfl hq27 dX3_multipliedAll_27 ?_
      obtain ⟨r28, hc28, h⟩ := obn_h h
      refine pz_callS (As := [.long y1_13, .long (f_t_held y3_13.toNatClampNeg)]) (rest := []) hcf (c_X0_multiplied l y1_13 (f_t_held y3_13.toNatClampNeg) r28 hc28) (va_cwS 2 hts gX3_multipliedAll_X0_multiplied rfl rfl rfl ydX0_multiplied ⟨Nat.le_of_ble_eq_true rfl, Nat.le_of_ble_eq_true rfl⟩) hnw rfl hl.1 rfl (Nat.le_of_ble_eq_true rfl) dX3_multipliedAll_28 ⟨Nat.le_of_ble_eq_true rfl, Nat.le_of_ble_eq_true rfl⟩ ?_
      refine lv_lstore_n (lv' := [(1, .long r28), (0, .ref a_t), (3, .int y3_13)]) hx hb dX3_multipliedAll_31 rfl hl (by decide) rfl (fun ls hl => ?_)
      obtain ⟨x3_32, e_x3_32⟩ : ∃ z : Int32, z = y3_13 + 1 := ⟨_, rfl⟩
      have h := bnd_h e_x3_32 h
      refine lv_iinc (v := x3_32) (lv' := [(3, .int x3_32), (1, .long r28), (0, .ref a_t)]) hx hb dX3_multipliedAll_32 hl (k := 2) rfl (by rw [e_x3_32]; rfl) (by decide) rfl (fun ls hl => ?_)
      refine lv_goto (tgt := 13) hx hb dX3_multipliedAll_35 (by decide) ?_
      exact hih13 r28 x3_32 h ls (lv_sub hl [2, 1, 0] rfl)
  · have h := if_ c4 h
    refine lv_lconst (v := 0) hx hb dX3_multipliedAll_7 (by decide) ?_
    have e1 := Option.some.inj h
    subst e1
    exact W.lret hx hb hr (fun t ht _ => ⟨rfl, ht⟩) no_q dX3_multipliedAll_8

noncomputable abbrev rmX3_degreesTogether : Room := { frames := 2, cells := 0, slots := 0, locals := 44 }
theorem ydX3_degreesTogether : yX3_degreesTogether.cls = RX3 ∧ yX3_degreesTogether.cls ≠ "java/lang/invoke/MethodHandle" ∧ yX3_degreesTogether.cls ≠ "java/lang/invoke/VarHandle" ∧ (parseMethodDescriptor yX3_degreesTogether.desc).map (fun d => d.parameters.length) = some 0 := by decide +kernel
noncomputable def S_X3_degreesTogether_4 (c_t_size_z4 : Int32) (f_t_held_z4 : Nat → Int64) (k30 : Int32 → Option (Int32)) (ih4 : Int32 → Int32 → Option (Int32)) (y1_4 : Int32) (y2_4 : Int32) : Option (Int32) :=
 (if c_t_size_z4 ≤ y2_4 then
 k30 y1_4
else
 chk (¬ (y2_4 < 0 ∨ 12 ≤ y2_4.toNatClampNeg)) (
 obn (F_X0_degreeOf (f_t_held_z4 y2_4.toNatClampNeg)) (fun r19 =>
 bnd (y1_4 + r19) (fun x1_23 =>
 bnd (y2_4 + 1) (fun x2_24 =>
 ih4 x1_23 x2_24)))))
noncomputable def F_X3_degreesTogether (c_t_size : Int32) (f_t_held : Nat → Int64) : Option (Int32) :=
 LQ2 (S_X3_degreesTogether_4 c_t_size f_t_held (fun y1_4_30 =>
 some y1_4_30)) 20000 (0 : Int32) (0 : Int32)
set_option maxHeartbeats 4000000 in
set_option maxRecDepth 100000 in
theorem c_X3_degreesTogether (l : Launch) (D : va_G) (cyJ : ClassId) (a_t : Nat) (a_t_held : Nat) (a_t_before : Nat) (c_t_size : Int32) (f_t_held : Nat → Int64) (r0 : Int32) (hF : F_X3_degreesTogether c_t_size f_t_held = some r0) : Met l yX3_degreesTogether wsX3_degreesTogether rmX3_degreesTogether (va_Pc [.ref a_t] (wPK D [(cyJ, .long)] [(a_t, .inr (3, [.ref a_t_held, .ref a_t_before, .int c_t_size])), (a_t_held, .inl (cyJ, 12, .inr (.inl f_t_held)))])) (k2_QcV (.int r0)) 0 0 (fun _ => False) := by
  refine Met.ofW (cc := cX3_degreesTogether) (maxL := 3) (ret := (some .int)) (by decide) rfl ?_
  intro p e s m args below meth c s₁ B hml hv
  obtain ⟨rfl, hP, hK, hnw⟩ := hv
  have hx := B.exec
  have hb := B.bytes
  have hr := B.returns
  have hts := atoms_spec (ws := wsX3_degreesTogether) B.pre
  have hown : s.vm.findClass RX3 = some m.cls := findClass_of_methodNamed B.named
  have hlocks := B.notSynchronized
  have hcf : CallFix _ _ _ _ _ _ _ _ _ := ⟨hx, hb, hml, hown, hts⟩
  have hinX3 : ∀ w ∈ u_ws RX3 TX3 3, w ∈ wsX3_degreesTogether := by decide +kernel
  have hfl18 := hts (.fieldLink RX3 18 "Formwheel$Roll" "size" "I") (by decide +kernel)
  have hfl9 := hts (.fieldLink RX3 9 "Formwheel$Roll" "held" "[J") (by decide +kernel)
  have hK0 := hK
  have hl := lv_entry ([.ref a_t]) (n := 3) (Nat.le_of_ble_eq_true rfl)
  rw [lg_entry_eq]
  generalize (lg_sl ([.ref a_t]) ++ List.replicate (3 - (lg_sl ([.ref a_t])).length) Slot.unset).toArray = ls at hl ⊢
  have hl : lv_has ls 3 [(0, .ref a_t)] := hl
  have h := hF
  clear hF
  unfold F_X3_degreesTogether at h
  refine lv_iconst (v := 0) hx hb dX3_degreesTogether_0 (by decide) ?_
  refine lv_istore_n (lv' := [(1, .int (0 : Int32)), (0, .ref a_t)]) hx hb dX3_degreesTogether_1 rfl hl (by decide) rfl (fun ls hl => ?_)
  refine lv_iconst (v := 0) hx hb dX3_degreesTogether_2 (by decide) ?_
  refine lv_istore_n (lv' := [(2, .int (0 : Int32)), (1, .int (0 : Int32)), (0, .ref a_t)]) hx hb dX3_degreesTogether_3 rfl hl (by decide) rfl (fun ls hl => ?_)
  refine LQ2_k1 (M := fun (y1_4 : Int32) (y2_4 : Int32) => ∀ (ls : Array Slot), lv_has ls 3 [(0, .ref a_t), (1, .int y1_4), (2, .int y2_4)] → W p l e rmX3_degreesTogether s m ([.ref a_t] : List Value).toArray below meth c s.heap [] 0 0 (MQ below (k2_QcV (.int r0)) ([.ref a_t] : List Value).toArray s 0 0 (fun _ => False)) (F0 m 4 ls [])) ?_ _ _ _ h ls (lv_sub hl [2, 1, 0] rfl)
  intro k30 hk30 ih4 hih4 y1_4 y2_4 h ls hl
  unfold S_X3_degreesTogether_4 at h
  refine lv_iload_n hx hb dX3_degreesTogether_4 rfl (lv_at hl 2 rfl) ?_
  refine lv_aload_n hx hb dX3_degreesTogether_5 rfl (lv_at hl 0 rfl) ?_
  refine va_get (D := D) (ci := 3) (v := .int c_t_size) (C := RX3) (T := TX3) (N := 3) hx hb hts hinX3 hown hK hP 0 rfl rfl 2 (by decide) hfl18 (fun _ h9 => h9) rfl dX3_degreesTogether_6 ?_
  refine lv_icmp_ge (tgt := 30) hx hb dX3_degreesTogether_9 (by decide) (fun c9 => ?_) (fun c9 => ?_)
  · have h := it_ c9 h
    rw [hk30] at h
    refine lv_iload_n hx hb dX3_degreesTogether_30 rfl (lv_at hl 1 rfl) ?_
    have e1 := Option.some.inj h
    subst e1
    exact W.iret hx hb hr (fun t ht _ => ⟨rfl, ht⟩) no_q dX3_degreesTogether_31
  · have h := if_ c9 h
    refine lv_iload_n hx hb dX3_degreesTogether_12 rfl (lv_at hl 1 rfl) ?_
    refine lv_aload_n hx hb dX3_degreesTogether_13 rfl (lv_at hl 0 rfl) ?_
    refine va_get (D := D) (ci := 3) (v := .ref a_t_held) (C := RX3) (T := TX3) (N := 3) hx hb hts hinX3 hown hK hP 0 rfl rfl 0 (by decide) hfl9 (fun _ h9 => h9) rfl dX3_degreesTogether_14 ?_
    refine lv_iload_n hx hb dX3_degreesTogether_17 rfl (lv_at hl 2 rfl) ?_
    obtain ⟨hq18, h⟩ := chk_h h
    refine va_lald hx hb hK hP 1 0 rfl rfl hq18 dX3_degreesTogether_18 ?_
    obtain ⟨r19, hc19, h⟩ := obn_h h
    refine pz_callS (As := [.long (f_t_held y2_4.toNatClampNeg)]) (rest := [.int y1_4]) hcf (c_X0_degreeOf l (f_t_held y2_4.toNatClampNeg) r19 hc19) (va_cwS 1 hts gX3_degreesTogether_X0_degreeOf rfl rfl rfl ydX0_degreeOf ⟨Nat.le_of_ble_eq_true rfl, Nat.le_of_ble_eq_true rfl⟩) hnw rfl hl.1 rfl (Nat.le_of_ble_eq_true rfl) dX3_degreesTogether_19 ⟨Nat.le_of_ble_eq_true rfl, Nat.le_of_ble_eq_true rfl⟩ ?_
    refine lv_iadd hx hb dX3_degreesTogether_22 ?_
    refine lv_topi (fun x1_23 e_x1_23 => ?_)
    have h := bnd_h e_x1_23 h
    refine lv_istore_n (lv' := [(1, .int x1_23), (0, .ref a_t), (2, .int y2_4)]) hx hb dX3_degreesTogether_23 rfl hl (by decide) rfl (fun ls hl => ?_)
    obtain ⟨x2_24, e_x2_24⟩ : ∃ z : Int32, z = y2_4 + 1 := ⟨_, rfl⟩
    have h := bnd_h e_x2_24 h
    refine lv_iinc (v := x2_24) (lv' := [(2, .int x2_24), (1, .int x1_23), (0, .ref a_t)]) hx hb dX3_degreesTogether_24 hl (k := 2) rfl (by rw [e_x2_24]; rfl) (by decide) rfl (fun ls hl => ?_)
    refine lv_goto (tgt := 4) hx hb dX3_degreesTogether_27 (by decide) ?_
    exact hih4 x1_23 x2_24 h ls (lv_sub hl [2, 1, 0] rfl)
