noncomputable abbrev rmX0_lowestOf : Room := { frames := 2, cells := 0, slots := 0, locals := 44 }
theorem ydX0_lowestOf : yX0_lowestOf.cls ≠ "java/lang/invoke/MethodHandle" ∧ yX0_lowestOf.cls ≠ "java/lang/invoke/VarHandle" ∧ (parseMethodDescriptor yX0_lowestOf.desc).map (fun d => d.parameters.length) = some 1 := by decide +kernel
noncomputable def F_X0_lowestOf (p0 : Int64) : Option (Int32) :=
 (if p0 = (0 : Int64) then
 some (-1 : Int32)
else
 obn (F_X0_degreeOf (p0 &&& (-p0))) (fun r14 =>
 some r14))
set_option maxHeartbeats 4000000 in
set_option maxRecDepth 100000 in
theorem c_X0_lowestOf (l : Launch) (p0 : Int64) (r0 : Int32) (hF : F_X0_lowestOf p0 = some r0) : Met l yX0_lowestOf wsX0_lowestOf rmX0_lowestOf (va_Pc [.long p0] NW) (k2_QcV (.int r0)) 0 0 (fun _ => False) := by
  refine Met.ofW (cc := cX0_lowestOf) (maxL := 2) (ret := (some .int)) (by decide) rfl ?_
  intro p e s m args below meth c s₁ B hml hv
  obtain ⟨rfl, hnw⟩ := hv
  have hx := B.exec
  have hb := B.bytes
  have hr := B.returns
  have hts := atoms_spec (ws := wsX0_lowestOf) B.pre
  have hown : s.vm.findClass RX0 = some m.cls := findClass_of_methodNamed B.named
  have hlocks := B.notSynchronized
  have hcf : CallFix _ _ _ _ _ _ _ _ _ := ⟨hx, hb, hml, hown, hts⟩
  have hl := lv_entry ([.long p0]) (n := 2) (Nat.le_of_ble_eq_true rfl)
  rw [lg_entry_eq]
  generalize (lg_sl ([.long p0]) ++ List.replicate (2 - (lg_sl ([.long p0])).length) Slot.unset).toArray = ls at hl ⊢
  have hl : lv_has ls 2 [(0, .long p0)] := hl
  have h := hF
  clear hF
  unfold F_X0_lowestOf at h
  refine lv_lload_n hx hb dX0_lowestOf_0 rfl (lv_at hl 0 rfl) ?_
  refine lv_lconst (v := 0) hx hb dX0_lowestOf_1 (by decide) ?_
  refine W.lcmp hx hb dX0_lowestOf_2 ?_
  refine lv_if_ne (tgt := 10) hx hb dX0_lowestOf_3 (by decide) (fun c3 => ?_) (fun c3 => ?_)
  · have c3 := fun z => c3 ((lg_cmp_eq _ _).mpr z)
    have h := if_ c3 h
    refine lv_lload_n hx hb dX0_lowestOf_10 rfl (lv_at hl 0 rfl) ?_
    refine lv_lload_n hx hb dX0_lowestOf_11 rfl (lv_at hl 0 rfl) ?_
    refine lv_lneg hx hb dX0_lowestOf_12 ?_
    refine lv_land hx hb dX0_lowestOf_13 ?_
    obtain ⟨r14, hc14, h⟩ := obn_h h
    refine pz_callS (As := [.long (p0 &&& (-p0))]) (rest := []) hcf (c_X0_degreeOf l (p0 &&& (-p0)) r14 hc14) (va_cwS 1 hts gX0_lowestOf_X0_degreeOf rfl rfl rfl ydX0_degreeOf ⟨Nat.le_of_ble_eq_true rfl, Nat.le_of_ble_eq_true rfl⟩) hnw rfl hl.1 rfl (Nat.le_of_ble_eq_true rfl) dX0_lowestOf_14 ⟨Nat.le_of_ble_eq_true rfl, Nat.le_of_ble_eq_true rfl⟩ ?_
    have e1 := Option.some.inj h
    subst e1
    exact W.iret hx hb hr (fun t ht _ => ⟨rfl, ht⟩) no_q dX0_lowestOf_17
  · have c3 := (lg_cmp_eq _ _).mp c3
    have h := it_ c3 h
    refine lv_iconst (v := -1) hx hb dX0_lowestOf_6 (by decide) ?_
    refine lv_goto (tgt := 17) hx hb dX0_lowestOf_7 (by decide) ?_
    have e1 := Option.some.inj h
    subst e1
    exact W.iret hx hb hr (fun t ht _ => ⟨rfl, ht⟩) no_q dX0_lowestOf_17

noncomputable abbrev rmX7_lowest : Room := { frames := 9, cells := 1, slots := 6, locals := 120 }
theorem ydX7_lowest : yX7_lowest.cls = RX7 ∧ yX7_lowest.cls ≠ "java/lang/invoke/MethodHandle" ∧ yX7_lowest.cls ≠ "java/lang/invoke/VarHandle" ∧ (parseMethodDescriptor yX7_lowest.desc).map (fun d => d.parameters.length) = some 1 := by decide +kernel
noncomputable def F_X7_lowest (f_t_forms : Nat → Int64) (p0 : Int32) : Option (Nat × Int32) :=
 obn (F_X7_testForm p0) (fun xc1 =>
 if xc1 = 0 then
 chk (¬ (p0 < 0 ∨ 6 ≤ p0.toNatClampNeg)) (
 obn (F_X0_lowestOf (f_t_forms p0.toNatClampNeg)) (fun r10 =>
 some (0, r10)))
else
 some (xc1, 0))
set_option maxHeartbeats 4000000 in
set_option maxRecDepth 100000 in
theorem c_X7_lowest (l : Launch) (hfl : l.stackTraces = false) (D : va_G) (cyJ : ClassId) (sz : Nat) (a_t : Nat) (a_t_forms : Nat) (a_t_roll : Nat) (a_t_row : Nat) (a_t_rows : Nat) (a_t_factors : Nat) (a_t_found : Nat) (a_t_foundOtherwise : Nat) (c_t_acts : Int32) (c_t_refusals : Int32) (c_t_knocks : Int32) (f_t_forms : Nat → Int64) (p0 : Int32) (xc : Nat) (r0 : Int32) (hF : F_X7_lowest f_t_forms p0 = some (xc, r0)) : vx_Met l yX7_lowest wsX7_lowest rmX7_lowest (va_Pc [.ref a_t, .int p0] (wPX D [(cyJ, .long)] [(a_t, .inr (6, [.ref a_t_forms, .ref a_t_roll, .ref a_t_row, .ref a_t_rows, .ref a_t_factors, .ref a_t_found, .ref a_t_foundOtherwise, .int c_t_acts, .int c_t_refusals, .int c_t_knocks])), (a_t_forms, .inl (cyJ, 6, .inr (.inl f_t_forms)))] sz)) (va_Qi (fun (r : Int32) (_ : Unit) => xc = 0 ∧ r = r0) (fun _ t => wQA D [(a_t, .inr (6, [.ref a_t_forms, .ref a_t_roll, .ref a_t_row, .ref a_t_rows, .ref a_t_factors, .ref a_t_found, .ref a_t_foundOtherwise, .int c_t_acts, .int c_t_refusals, .int c_t_knocks])), (a_t_forms, .inl (cyJ, 6, .inr (.inl f_t_forms)))] (va_A [(a_t, .inr (6, [.ref a_t_forms, .ref a_t_roll, .ref a_t_row, .ref a_t_rows, .ref a_t_factors, .ref a_t_found, .ref a_t_foundOtherwise, .int c_t_acts, .int c_t_refusals, .int c_t_knocks])), (a_t_forms, .inl (cyJ, 6, .inr (.inl f_t_forms)))] sz) t) (va_A [(a_t, .inr (6, [.ref a_t_forms, .ref a_t_roll, .ref a_t_row, .ref a_t_rows, .ref a_t_factors, .ref a_t_found, .ref a_t_foundOtherwise, .int c_t_acts, .int c_t_refusals, .int c_t_knocks])), (a_t_forms, .inl (cyJ, 6, .inr (.inl f_t_forms)))] sz)) (vx_X (fun (_ : Unit) => ¬ xc = 0) (fun E _ t => E = xcls xc ∧ wQA D [(a_t, .inr (6, [.ref a_t_forms, .ref a_t_roll, .ref a_t_row, .ref a_t_rows, .ref a_t_factors, .ref a_t_found, .ref a_t_foundOtherwise, .int c_t_acts, .int c_t_refusals, .int c_t_knocks])), (a_t_forms, .inl (cyJ, 6, .inr (.inl f_t_forms)))] (va_A [(a_t, .inr (6, [.ref a_t_forms, .ref a_t_roll, .ref a_t_row, .ref a_t_rows, .ref a_t_factors, .ref a_t_found, .ref a_t_foundOtherwise, .int c_t_acts, .int c_t_refusals, .int c_t_knocks])), (a_t_forms, .inl (cyJ, 6, .inr (.inl f_t_forms)))] sz) t) (va_A [(a_t, .inr (6, [.ref a_t_forms, .ref a_t_roll, .ref a_t_row, .ref a_t_rows, .ref a_t_factors, .ref a_t_found, .ref a_t_foundOtherwise, .int c_t_acts, .int c_t_refusals, .int c_t_knocks])), (a_t_forms, .inl (cyJ, 6, .inr (.inl f_t_forms)))] sz)) 1 6 (va_A [(a_t, .inr (6, [.ref a_t_forms, .ref a_t_roll, .ref a_t_row, .ref a_t_rows, .ref a_t_factors, .ref a_t_found, .ref a_t_foundOtherwise, .int c_t_acts, .int c_t_refusals, .int c_t_knocks])), (a_t_forms, .inl (cyJ, 6, .inr (.inl f_t_forms)))] sz) := by
  refine vx_ofW (cc := cX7_lowest) (maxL := 2) (ret := (some .int)) (by decide) rfl ?_
  intro p e s m args below meth c s₁ B hml hxt hv
  obtain ⟨rfl, ⟨⟨hsz, hP, hK, hD0, hnw⟩, hE⟩⟩ := hv
  have hx := B.exec
  have hb := B.bytes
  have hr := B.returns
  have hts := atoms_spec (ws := wsX7_lowest) B.pre
  have hown : s.vm.findClass RX7 = some m.cls := findClass_of_methodNamed B.named
  have hlocks := B.notSynchronized
  have hcf : CallFix _ _ _ _ _ _ _ _ _ := ⟨hx, hb, hml, hown, hts⟩
  have hinX7 : ∀ w ∈ u_ws RX7 TX7 10, w ∈ wsX7_lowest := by decide +kernel
  have hfl9 := hts (.fieldLink RX7 9 "Formwheel" "forms" "[J") (by decide +kernel)
  subst hsz
  have hD := hD0.self (sz := s.heap.size)
  generalize hAe : va_A [(a_t, .inr (6, [.ref a_t_forms, .ref a_t_roll, .ref a_t_row, .ref a_t_rows, .ref a_t_factors, .ref a_t_found, .ref a_t_foundOtherwise, .int c_t_acts, .int c_t_refusals, .int c_t_knocks])), (a_t_forms, .inl (cyJ, 6, .inr (.inl f_t_forms)))] s.heap.size = A at hD hE ⊢
  have hA : ∀ q : Nat, s.heap.size ≤ q → A q := fun q h => by rw [← hAe]; exact Or.inr h
  have hS : va_S A s.heap s.heap [] := va_S.rf
  have hP : va_P D vwCl [(a_t, .inr (6, [.ref a_t_forms, .ref a_t_roll, .ref a_t_row, .ref a_t_rows, .ref a_t_factors, .ref a_t_found, .ref a_t_foundOtherwise, .int c_t_acts, .int c_t_refusals, .int c_t_knocks])), (a_t_forms, .inl (cyJ, 6, .inr (.inl f_t_forms)))] s.heap := hP
  have hK0 := hK
  have hl := lv_entry ([.ref a_t, .int p0]) (n := 2) (Nat.le_of_ble_eq_true rfl)
  rw [lg_entry_eq]
  generalize (lg_sl ([.ref a_t, .int p0]) ++ List.replicate (2 - (lg_sl ([.ref a_t, .int p0])).length) Slot.unset).toArray = ls at hl ⊢
  have hl : lv_has ls 2 [(0, .ref a_t), (1, .int p0)] := hl
  have h := hF
  clear hF
  unfold F_X7_lowest at h
  refine lv_iload_n hx hb dX7_lowest_0 rfl (lv_at hl 1 rfl) ?_
  obtain ⟨xc1, hc1, h⟩ := obn_h h
  have hPc := hP.sub (ws' := []) [] rfl
  have hDc := hD.sub (ws' := []) [] (by decide) rfl
  refine hx_v (w1 := []) (wr := [(a_t, .inr (6, [.ref a_t_forms, .ref a_t_roll, .ref a_t_row, .ref a_t_rows, .ref a_t_factors, .ref a_t_found, .ref a_t_foundOtherwise, .int c_t_acts, .int c_t_refusals, .int c_t_knocks])), (a_t_forms, .inl (cyJ, 6, .inr (.inl f_t_forms)))]) (vx_runS (As := [.int p0]) (rest := []) hcf (c_X7_testForm l hfl D cyJ s.heap.size p0 xc1 hc1) (va_cwS 1 hts gX7_lowest_X7_testForm rfl rfl rfl ydX7_testForm ⟨Nat.le_of_ble_eq_true rfl, Nat.le_of_ble_eq_true rfl⟩) ⟨bl_PX, pr_PX hPc hK0 hDc hnw hE hS (va_free hD hS hA [] rfl)⟩ rfl rfl hl.1 rfl (lv_room (Nat.le_of_ble_eq_true rfl)) dX7_lowest_1 ⟨Nat.le_of_ble_eq_true rfl, Nat.le_of_ble_eq_true rfl⟩) hP hD hS hA [] [0, 1] rfl rfl (by decide) (by decide) (fun E9 ce9 q9 H locs hx9 hE9 hP hD hS hce9 hcv9 hcl9 => ?_) (fun hx9 H locs hP hD hS => ?_)
  · have h := if_ hx9 h
    have hP : va_P D vwCl [(a_t, .inr (6, [.ref a_t_forms, .ref a_t_roll, .ref a_t_row, .ref a_t_rows, .ref a_t_factors, .ref a_t_found, .ref a_t_foundOtherwise, .int c_t_acts, .int c_t_refusals, .int c_t_knocks])), (a_t_forms, .inl (cyJ, 6, .inr (.inl f_t_forms)))] H := hP
    have hD : va_D A [(a_t, .inr (6, [.ref a_t_forms, .ref a_t_roll, .ref a_t_row, .ref a_t_rows, .ref a_t_factors, .ref a_t_found, .ref a_t_foundOtherwise, .int c_t_acts, .int c_t_refusals, .int c_t_knocks])), (a_t_forms, .inl (cyJ, 6, .inr (.inl f_t_forms)))] := hD
    obtain ⟨e0, e1⟩ := tup2 h
    subst e0
    subst e1
    have hP9 : va_P D vwCl [(a_t, .inr (6, [.ref a_t_forms, .ref a_t_roll, .ref a_t_row, .ref a_t_rows, .ref a_t_factors, .ref a_t_found, .ref a_t_foundOtherwise, .int c_t_acts, .int c_t_refusals, .int c_t_knocks])), (a_t_forms, .inl (cyJ, 6, .inr (.inl f_t_forms)))] H := hP.sub [0, 1] rfl
    have hD9 : va_D A [(a_t, .inr (6, [.ref a_t_forms, .ref a_t_roll, .ref a_t_row, .ref a_t_rows, .ref a_t_factors, .ref a_t_found, .ref a_t_foundOtherwise, .int c_t_acts, .int c_t_refusals, .int c_t_knocks])), (a_t_forms, .inl (cyJ, 6, .inr (.inl f_t_forms)))] := hD.sub [0, 1] (by decide) rfl
    exact vx_out (fun x hx => (hxt x hx).elim) hlocks hce9 hcv9 hcl9 (fun t ht hW => ⟨(), hx9, ⟨hE9, wQA_of ht hP9 hD9⟩, hS.F ht⟩) hS.2.2 (Nat.le_of_ble_eq_true rfl) (Nat.le_of_ble_eq_true rfl)
  · have h := it_ hx9 h
    have hP : va_P D vwCl [(a_t, .inr (6, [.ref a_t_forms, .ref a_t_roll, .ref a_t_row, .ref a_t_rows, .ref a_t_factors, .ref a_t_found, .ref a_t_foundOtherwise, .int c_t_acts, .int c_t_refusals, .int c_t_knocks])), (a_t_forms, .inl (cyJ, 6, .inr (.inl f_t_forms)))] H := hP
    have hD : va_D A [(a_t, .inr (6, [.ref a_t_forms, .ref a_t_roll, .ref a_t_row, .ref a_t_rows, .ref a_t_factors, .ref a_t_found, .ref a_t_foundOtherwise, .int c_t_acts, .int c_t_refusals, .int c_t_knocks])), (a_t_forms, .inl (cyJ, 6, .inr (.inl f_t_forms)))] := hD
    refine lv_aload_n hx hb dX7_lowest_4 rfl (lv_at hl 0 rfl) ?_
    refine va_get (D := D) (ci := 6) (v := .ref a_t_forms) (C := RX7) (T := TX7) (N := 10) hx hb hts hinX7 hown hK hP 0 rfl rfl 0 (by decide) hfl9 (fun _ h9 => h9) rfl dX7_lowest_5 ?_
    refine lv_iload_n hx hb dX7_lowest_8 rfl (lv_at hl 1 rfl) ?_
    obtain ⟨hq9, h⟩ := chk_h h
    refine va_lald hx hb hK hP 1 0 rfl rfl hq9 dX7_lowest_9 ?_
    obtain ⟨r10, hc10, h⟩ := obn_h h
    refine pz_callS (As := [.long (f_t_forms p0.toNatClampNeg)]) (rest := []) hcf (c_X0_lowestOf l (f_t_forms p0.toNatClampNeg) r10 hc10) (va_cwS 1 hts gX7_lowest_X0_lowestOf rfl rfl rfl ydX0_lowestOf ⟨Nat.le_of_ble_eq_true rfl, Nat.le_of_ble_eq_true rfl⟩) hnw rfl hl.1 rfl (Nat.le_of_ble_eq_true rfl) dX7_lowest_10 ⟨Nat.le_of_ble_eq_true rfl, Nat.le_of_ble_eq_true rfl⟩ ?_
    obtain ⟨e0, e1⟩ := tup2 h
    subst e0
    subst e1
    have hP9 : va_P D vwCl [(a_t, .inr (6, [.ref a_t_forms, .ref a_t_roll, .ref a_t_row, .ref a_t_rows, .ref a_t_factors, .ref a_t_found, .ref a_t_foundOtherwise, .int c_t_acts, .int c_t_refusals, .int c_t_knocks])), (a_t_forms, .inl (cyJ, 6, .inr (.inl f_t_forms)))] H := hP.sub [0, 1] rfl
    have hD9 : va_D A [(a_t, .inr (6, [.ref a_t_forms, .ref a_t_roll, .ref a_t_row, .ref a_t_rows, .ref a_t_factors, .ref a_t_found, .ref a_t_foundOtherwise, .int c_t_acts, .int c_t_refusals, .int c_t_knocks])), (a_t_forms, .inl (cyJ, 6, .inr (.inl f_t_forms)))] := hD.sub [0, 1] (by decide) rfl
    refine vx_ret ?_
    exact W.iret hx hb hr (fun t ht hW => ⟨⟨_, (), rfl, ⟨rfl, rfl⟩, wQA_of ht hP9 hD9⟩, hS.F ht⟩) hS.2.2 dX7_lowest_13

noncomputable abbrev rmJ5_init_d00df : Room := { frames := 1, cells := 1, slots := 300, locals := 80 }
theorem ydJ5_init_d00df : yJ5_init_d00df.cls = RJ5 ∧ yJ5_init_d00df.cls ≠ "java/lang/invoke/MethodHandle" ∧ yJ5_init_d00df.cls ≠ "java/lang/invoke/VarHandle" ∧ (parseMethodDescriptor yJ5_init_d00df.desc).map (fun d => d.parameters.length) = some 1 := by decide +kernel
noncomputable def F_J5_init_d00df (p0 : Int32) : Option (Int32 × Nat × (Nat → Int32)) :=
 chk (¬ p0 < 0 ∧ p0.toNatClampNeg ≤ 300) (
 some ((0 : Int32), p0.toNatClampNeg, (fun _ => (0 : Int32))))
set_option maxHeartbeats 4000000 in
set_option maxRecDepth 100000 in
theorem c_J5_init_d00df (l : Launch) (D : va_G) (cyJ cyB : ClassId) (adK adV : Nat → Nat) (sz : Nat) (a_t : Nat) (c_t_coder : Int32) (c_t_maybeLatin1 : Int32) (c_t_count : Int32) (p0 : Int32) (o_c_t_coder : Int32) (o_n_t_value : Nat) (o_f_t_value : Nat → Int32) (hF : F_J5_init_d00df p0 = some (o_c_t_coder, o_n_t_value, o_f_t_value)) : Met l yJ5_init_d00df wsJ5_init_d00df rmJ5_init_d00df (va_Pc [.ref a_t, .int p0] (wPDT D [(cyJ, .long), (cyB, .byte)] [(a_t, .inr (1, [.null, .int c_t_coder, .int c_t_maybeLatin1, .int c_t_count]))] adK adV sz)) (va_Qv (fun (_ : Nat) => True) (fun u t => wQA D [(a_t, .inr (1, [.ref u, .int o_c_t_coder, .int c_t_maybeLatin1, .int c_t_count])), (u, .inl (cyB, o_n_t_value, .inl o_f_t_value))] (va_A [(a_t, .inr (1, [.null, .int c_t_coder, .int c_t_maybeLatin1, .int c_t_count]))] sz) t) (va_A [(a_t, .inr (1, [.null, .int c_t_coder, .int c_t_maybeLatin1, .int c_t_count]))] sz)) 1 300 (va_A [(a_t, .inr (1, [.null, .int c_t_coder, .int c_t_maybeLatin1, .int c_t_count]))] sz) := by
  refine Met.ofW (cc := cJ5_init_d00df) (maxL := 2) (ret := none) (by decide) rfl ?_
  intro p e s m args below meth c s₁ B hml hv
  obtain ⟨rfl, ⟨⟨hsz, hP, hK, hD0, hnw⟩, hT⟩⟩ := hv
  have hx := B.exec
  have hb := B.bytes
  have hr := B.returns
  have hts := atoms_spec (ws := wsJ5_init_d00df) B.pre
  have hown : s.vm.findClass RJ5 = some m.cls := findClass_of_methodNamed B.named
  have hlocks := B.notSynchronized
  have hcf : CallFix _ _ _ _ _ _ _ _ _ := ⟨hx, hb, hml, hown, hts⟩
  have hini9 : meth.name = "<init>" := (name_of_methodNamed B.named B.method).1
  have hinJ4 : ∀ w ∈ u_ws RJ4 TJ4 4, w ∈ wsJ5_init_d00df := by decide +kernel
  have hfl15 := hts (.fieldLink RJ5 15 "java/lang/AbstractStringBuilder" "value" "[B") (by decide +kernel)
  have hfl22 := hts (.fieldLink RJ5 22 "java/lang/AbstractStringBuilder" "coder" "B") (by decide +kernel)
  subst hsz
  have hD := hD0.self (sz := s.heap.size)
  generalize hAe : va_A [(a_t, .inr (1, [.null, .int c_t_coder, .int c_t_maybeLatin1, .int c_t_count]))] s.heap.size = A at hD hT ⊢
  have hA : ∀ q : Nat, s.heap.size ≤ q → A q := fun q h => by rw [← hAe]; exact Or.inr h
  have hS : va_S A s.heap s.heap [] := va_S.rf
  have hP : va_P D vwCl [(a_t, .inr (1, [.null, .int c_t_coder, .int c_t_maybeLatin1, .int c_t_count]))] s.heap := hP
  have hK0 := hK
  have hcB : s.vm.findClass "[B" = some cyB := (hK.2 1 _ rfl).2
  have hl := lv_entry ([.ref a_t, .int p0]) (n := 2) (Nat.le_of_ble_eq_true rfl)
  rw [lg_entry_eq]
  generalize (lg_sl ([.ref a_t, .int p0]) ++ List.replicate (2 - (lg_sl ([.ref a_t, .int p0])).length) Slot.unset).toArray = ls at hl ⊢
  have hl : lv_has ls 2 [(0, .ref a_t), (1, .int p0)] := hl
  have h := hF
  clear hF
  unfold F_J5_init_d00df at h
  refine lv_aload_n hx hb dJ5_init_d00df_0 rfl (lv_at hl 0 rfl) ?_
  refine W.objInit hx hb hown (hts (.methodLink RJ5 3 objectInit) (by decide +kernel)) (hts (.instanceMethod objectInit) (by decide +kernel)) (hts (.code objectInit ⟨#[0xb1]⟩ 1 none) (by decide +kernel)) rfl (by rw [hml]; exact hl.1) rfl dJ5_init_d00df_1 (Nat.le_of_ble_eq_true rfl) (Nat.le_of_ble_eq_true rfl) ?_
  refine W.eq (g2 := F0 m 4 ls []) rfl ?_
  refine va_gets (v := .int 1) hx hb hT.1 hS hown (hts (.fieldLink RJ5 18 "java/lang/String" "COMPACT_STRINGS" "Z") (by decide +kernel)) (fun _ h9 => h9) dJ5_init_d00df_4 ?_
  refine lv_if_eq (tgt := 25) hx hb dJ5_init_d00df_7 (by decide) (fun c7 => absurd c7 (by decide)) (fun c7 => ?_)
  refine lv_aload_n hx hb dJ5_init_d00df_10 rfl (lv_at hl 0 rfl) ?_
  refine lv_iload_n hx hb dJ5_init_d00df_11 rfl (lv_at hl 1 rfl) ?_
  obtain ⟨hq12, h⟩ := chk_h h
  refine va_newa (atype := .byte) (ty := .byte) (a0 := (p0.toNatClampNeg, .inl (fun _ => (0 : Int32)))) (N' := p0.toNatClampNeg) hx hb (hts (.arrayClass .byte) (by decide +kernel)) rfl hK hP hD hS hA (fun _ => rfl) hq12.1 rfl (Nat.le_trans (Nat.mul_le_mul_right 1 hq12.2) (by decide)) (Nat.le_of_ble_eq_true rfl) (Nat.le_trans (Nat.add_le_add_left hq12.2 _) (Nat.le_of_ble_eq_true rfl)) dJ5_init_d00df_12 (fun a_n12 cy_12 H hK hP hD hS => ?_)
  have e_cy_12 := cyb_eq hK0 hK
  subst e_cy_12
  have hK := hK0
  have hP : va_P D vwCl [(a_t, .inr (1, [.null, .int c_t_coder, .int c_t_maybeLatin1, .int c_t_count])), (a_n12, .inl (cyB, p0.toNatClampNeg, .inl (fun _ => (0 : Int32))))] H := hP
  have hD : va_D A [(a_t, .inr (1, [.null, .int c_t_coder, .int c_t_maybeLatin1, .int c_t_count])), (a_n12, .inl (cyB, p0.toNatClampNeg, .inl (fun _ => (0 : Int32))))] := hD
  refine W.widen (k := 1) (n := 300) (Nat.le_of_ble_eq_true rfl) (Nat.add_le_add_left hq12.2 _) ?_
  refine va_put (D := D) (ci := 1) (v := .ref a_n12) (ty := tyJ4 0) (C := RJ4) (T := TJ4) (N := 4) hx hb hts hinJ4 tyJ4 tyJ4_ok nmJ4 hown hK hP hD hS 0 rfl rfl 0 (by decide) hfl15 (fun _ h9 => h9) rfl (by decide +kernel) rfl rfl (Nat.le_of_ble_eq_true rfl) dJ5_init_d00df_14 (fun H locs hP hD hS => ?_)
  have hP : va_P D vwCl [(a_t, .inr (1, [.ref a_n12, .int c_t_coder, .int c_t_maybeLatin1, .int c_t_count])), (a_n12, .inl (cyB, p0.toNatClampNeg, .inl (fun _ => (0 : Int32))))] H := hP
  have hD : va_D A [(a_t, .inr (1, [.ref a_n12, .int c_t_coder, .int c_t_maybeLatin1, .int c_t_count])), (a_n12, .inl (cyB, p0.toNatClampNeg, .inl (fun _ => (0 : Int32))))] := hD
  have hP : va_P D vwCl [(a_t, .inr (1, [.ref a_n12, .int c_t_coder, .int c_t_maybeLatin1, .int c_t_count])), (a_n12, .inl (cyB, p0.toNatClampNeg, .inl (fun _ => (0 : Int32))))] H := hP.sub [0, 1] rfl
  have hD : va_D A [(a_t, .inr (1, [.ref a_n12, .int c_t_coder, .int c_t_maybeLatin1, .int c_t_count])), (a_n12, .inl (cyB, p0.toNatClampNeg, .inl (fun _ => (0 : Int32))))] := hD.sub [0, 1] (by decide) rfl
  refine lv_aload_n hx hb dJ5_init_d00df_17 rfl (lv_at hl 0 rfl) ?_
  refine lv_iconst (v := 0) hx hb dJ5_init_d00df_18 (by decide) ?_
  refine va_put (D := D) (ci := 1) (v := .int (0 : Int32)) (ty := tyJ4 1) (C := RJ4) (T := TJ4) (N := 4) hx hb hts hinJ4 tyJ4 tyJ4_ok nmJ4 hown hK hP hD hS 0 rfl rfl 1 (by decide) hfl22 (fun _ h9 => h9) rfl (by decide +kernel) rfl rfl (Nat.le_of_ble_eq_true rfl) dJ5_init_d00df_19 (fun H locs hP hD hS => ?_)
  have hP : va_P D vwCl [(a_t, .inr (1, [.ref a_n12, .int (0 : Int32), .int c_t_maybeLatin1, .int c_t_count])), (a_n12, .inl (cyB, p0.toNatClampNeg, .inl (fun _ => (0 : Int32))))] H := hP
  have hD : va_D A [(a_t, .inr (1, [.ref a_n12, .int (0 : Int32), .int c_t_maybeLatin1, .int c_t_count])), (a_n12, .inl (cyB, p0.toNatClampNeg, .inl (fun _ => (0 : Int32))))] := hD
  refine lv_goto (tgt := 38) hx hb dJ5_init_d00df_22 (by decide) ?_
  obtain ⟨e0, e1, e2⟩ := tup3 h
  subst e0
  subst e1
  subst e2
  have hP9 : va_P D vwCl [(a_t, .inr (1, [.ref a_n12, .int (0 : Int32), .int c_t_maybeLatin1, .int c_t_count])), (a_n12, .inl (cyB, p0.toNatClampNeg, .inl (fun _ => (0 : Int32))))] H := hP.sub [0, 1] rfl
  have hD9 : va_D A [(a_t, .inr (1, [.ref a_n12, .int (0 : Int32), .int c_t_maybeLatin1, .int c_t_count])), (a_n12, .inl (cyB, p0.toNatClampNeg, .inl (fun _ => (0 : Int32))))] := hD.sub [0, 1] (by decide) rfl
  exact W.vret hx hb hr (fun t ht hW => ⟨⟨a_n12, rfl, trivial, wQA_of ht hP9 hD9⟩, hS.F ht⟩) hS.2.2 dJ5_init_d00df_38

noncomputable abbrev rmJ4_init_da8c8 : Room := { frames := 2, cells := 1, slots := 300, locals := 101 }
theorem ydJ4_init_da8c8 : yJ4_init_da8c8.cls = RJ4 ∧ yJ4_init_da8c8.cls ≠ "java/lang/invoke/MethodHandle" ∧ yJ4_init_da8c8.cls ≠ "java/lang/invoke/VarHandle" ∧ (parseMethodDescriptor yJ4_init_da8c8.desc).map (fun d => d.parameters.length) = some 0 := by decide +kernel
noncomputable def F_J4_init_da8c8 : Option (Int32 × Nat × (Nat → Int32)) :=
 obn3 (F_J5_init_d00df (16 : Int32)) (fun c_t_coder_3 n_t_value_3 f_t_value_3 =>
 some (c_t_coder_3, n_t_value_3, f_t_value_3))
set_option maxHeartbeats 4000000 in
set_option maxRecDepth 100000 in
theorem c_J4_init_da8c8 (l : Launch) (D : va_G) (cyJ cyB : ClassId) (adK adV : Nat → Nat) (sz : Nat) (a_t : Nat) (c_t_coder : Int32) (c_t_maybeLatin1 : Int32) (c_t_count : Int32) (o_c_t_coder : Int32) (o_n_t_value : Nat) (o_f_t_value : Nat → Int32) (hF : F_J4_init_da8c8 = some (o_c_t_coder, o_n_t_value, o_f_t_value)) : Met l yJ4_init_da8c8 wsJ4_init_da8c8 rmJ4_init_da8c8 (va_Pc [.ref a_t] (wPDT D [(cyJ, .long), (cyB, .byte)] [(a_t, .inr (1, [.null, .int c_t_coder, .int c_t_maybeLatin1, .int c_t_count]))] adK adV sz)) (va_Qv (fun (_ : Nat) => True) (fun u t => wQA D [(a_t, .inr (1, [.ref u, .int o_c_t_coder, .int c_t_maybeLatin1, .int c_t_count])), (u, .inl (cyB, o_n_t_value, .inl o_f_t_value))] (va_A [(a_t, .inr (1, [.null, .int c_t_coder, .int c_t_maybeLatin1, .int c_t_count]))] sz) t) (va_A [(a_t, .inr (1, [.null, .int c_t_coder, .int c_t_maybeLatin1, .int c_t_count]))] sz)) 1 300 (va_A [(a_t, .inr (1, [.null, .int c_t_coder, .int c_t_maybeLatin1, .int c_t_count]))] sz) := by
  refine Met.ofW (cc := cJ4_init_da8c8) (maxL := 1) (ret := none) (by decide) rfl ?_
  intro p e s m args below meth c s₁ B hml hv
  obtain ⟨rfl, ⟨⟨hsz, hP, hK, hD0, hnw⟩, hT⟩⟩ := hv
  have hx := B.exec
  have hb := B.bytes
  have hr := B.returns
  have hts := atoms_spec (ws := wsJ4_init_da8c8) B.pre
  have hown : s.vm.findClass RJ4 = some m.cls := findClass_of_methodNamed B.named
  have hlocks := B.notSynchronized
  have hcf : CallFix _ _ _ _ _ _ _ _ _ := ⟨hx, hb, hml, hown, hts⟩
  have hini9 : meth.name = "<init>" := (name_of_methodNamed B.named B.method).1
  subst hsz
  have hD := hD0.self (sz := s.heap.size)
  generalize hAe : va_A [(a_t, .inr (1, [.null, .int c_t_coder, .int c_t_maybeLatin1, .int c_t_count]))] s.heap.size = A at hD hT ⊢
  have hA : ∀ q : Nat, s.heap.size ≤ q → A q := fun q h => by rw [← hAe]; exact Or.inr h
  have hS : va_S A s.heap s.heap [] := va_S.rf
  have hP : va_P D vwCl [(a_t, .inr (1, [.null, .int c_t_coder, .int c_t_maybeLatin1, .int c_t_count]))] s.heap := hP
  have hK0 := hK
  have hcB : s.vm.findClass "[B" = some cyB := (hK.2 1 _ rfl).2
  have hl := lv_entry ([.ref a_t]) (n := 1) (Nat.le_of_ble_eq_true rfl)
  rw [lg_entry_eq]
  generalize (lg_sl ([.ref a_t]) ++ List.replicate (1 - (lg_sl ([.ref a_t])).length) Slot.unset).toArray = ls at hl ⊢
  have hl : lv_has ls 1 [(0, .ref a_t)] := hl
  have h := hF
  clear hF
  unfold F_J4_init_da8c8 at h
  refine lv_aload_n hx hb dJ4_init_da8c8_0 rfl (lv_at hl 0 rfl) ?_
  refine lv_bipush (v := 16) hx hb dJ4_init_da8c8_1 (by decide) ?_
  obtain ⟨c_t_coder_3, n_t_value_3, f_t_value_3, hc3, h⟩ := obn3_h h
  have hPc := hP.sub (ws' := [(a_t, .inr (1, [.null, .int c_t_coder, .int c_t_maybeLatin1, .int c_t_count]))]) [0] rfl
  have hDc := hD.sub (ws' := [(a_t, .inr (1, [.null, .int c_t_coder, .int c_t_maybeLatin1, .int c_t_count]))]) [0] (by decide) rfl
  refine hp_n (wr := []) (va_runI (As := [.int (16 : Int32)]) (rest := []) hcf (c_J5_init_d00df l D cyJ cyB adK adV s.heap.size a_t c_t_coder c_t_maybeLatin1 c_t_count (16 : Int32) c_t_coder_3 n_t_value_3 f_t_value_3 hc3) (cwI 1 hts gJ4_init_da8c8_J5_init_d00df rfl rfl rfl (hts (.initialized RJ5) (by decide +kernel)) (hts (.methodLink RJ4 1 yJ5_init_d00df) (by decide +kernel)) (hts (.instanceMethod yJ5_init_d00df) (by decide +kernel)) rfl (by decide +kernel) ⟨Nat.le_of_ble_eq_true rfl, Nat.le_of_ble_eq_true rfl⟩) ⟨bl_PDT, pr_PDT hPc hK0 hDc hnw hT hS (va_free hD hS hA [0] rfl)⟩ rfl rfl hl.1 rfl (lv_room (Nat.le_of_ble_eq_true rfl)) dJ4_init_da8c8_3 ⟨Nat.le_of_ble_eq_true rfl, Nat.le_of_ble_eq_true rfl⟩) hP hD hS hA [0] [] rfl rfl (by decide) (by decide) (fun u3 H locs hP hD hS => ?_)
  obtain ⟨b_t_value_3, rfl⟩ : ∃ z : Nat, z = u3 := ⟨_, rfl⟩
  have hP : va_P D vwCl [(a_t, .inr (1, [.ref b_t_value_3, .int c_t_coder_3, .int c_t_maybeLatin1, .int c_t_count])), (b_t_value_3, .inl (cyB, n_t_value_3, .inl f_t_value_3))] H := hP
  have hD : va_D A [(a_t, .inr (1, [.ref b_t_value_3, .int c_t_coder_3, .int c_t_maybeLatin1, .int c_t_count])), (b_t_value_3, .inl (cyB, n_t_value_3, .inl f_t_value_3))] := hD
  obtain ⟨e0, e1, e2⟩ := tup3 h
  subst e0
  subst e1
  subst e2
  have hP9 : va_P D vwCl [(a_t, .inr (1, [.ref b_t_value_3, .int c_t_coder_3, .int c_t_maybeLatin1, .int c_t_count])), (b_t_value_3, .inl (cyB, n_t_value_3, .inl f_t_value_3))] H := hP.sub [0, 1] rfl
  have hD9 : va_D A [(a_t, .inr (1, [.ref b_t_value_3, .int c_t_coder_3, .int c_t_maybeLatin1, .int c_t_count])), (b_t_value_3, .inl (cyB, n_t_value_3, .inl f_t_value_3))] := hD.sub [0, 1] (by decide) rfl
  exact W.vret hx hb hr (fun t ht hW => ⟨⟨b_t_value_3, rfl, trivial, wQA_of ht hP9 hD9⟩, hS.F ht⟩) hS.2.2 dJ4_init_da8c8_6

noncomputable abbrev rmJ8_newLength_cabcc : Room := { frames := 1, cells := 0, slots := 0, locals := 30 }
theorem ydJ8_newLength_cabcc : yJ8_newLength_cabcc.cls ≠ "java/lang/invoke/MethodHandle" ∧ yJ8_newLength_cabcc.cls ≠ "java/lang/invoke/VarHandle" ∧ (parseMethodDescriptor yJ8_newLength_cabcc.desc).map (fun d => d.parameters.length) = some 3 := by decide +kernel
noncomputable def F_J8_newLength_cabcc (p0 : Int32) (p1 : Int32) (p2 : Int32) : Option (Int32) :=
 bnd (p0 + (if p1 < p2 then p2 else p1)) (fun x3_7 =>
 (if x3_7 ≤ (0 : Int32) then
 none
else
 (if (2147483639 : Int32) < x3_7 then
 none
else
 some x3_7)))
set_option maxHeartbeats 4000000 in
set_option maxRecDepth 100000 in
theorem c_J8_newLength_cabcc (l : Launch) (p0 : Int32) (p1 : Int32) (p2 : Int32) (r0 : Int32) (hF : F_J8_newLength_cabcc p0 p1 p2 = some r0) : Met l yJ8_newLength_cabcc wsJ8_newLength_cabcc rmJ8_newLength_cabcc (va_Pc [.int p0, .int p1, .int p2] NW) (k2_QcV (.int r0)) 0 0 (fun _ => False) := by
  refine Met.ofW (cc := cJ8_newLength_cabcc) (maxL := 4) (ret := (some .int)) (by decide) rfl ?_
  intro p e s m args below meth c s₁ B hml hv
  obtain ⟨rfl, hnw⟩ := hv
  have hx := B.exec
  have hb := B.bytes
  have hr := B.returns
  have hts := atoms_spec (ws := wsJ8_newLength_cabcc) B.pre
  have hown : s.vm.findClass RJ8 = some m.cls := findClass_of_methodNamed B.named
  have hlocks := B.notSynchronized
  have hcf : CallFix _ _ _ _ _ _ _ _ _ := ⟨hx, hb, hml, hown, hts⟩
  have hl := lv_entry ([.int p0, .int p1, .int p2]) (n := 4) (Nat.le_of_ble_eq_true rfl)
  rw [lg_entry_eq]
  generalize (lg_sl ([.int p0, .int p1, .int p2]) ++ List.replicate (4 - (lg_sl ([.int p0, .int p1, .int p2])).length) Slot.unset).toArray = ls at hl ⊢
  have hl : lv_has ls 4 [(0, .int p0), (1, .int p1), (2, .int p2)] := hl
  have h := hF
  clear hF
  unfold F_J8_newLength_cabcc at h
  refine lv_iload_n hx hb dJ8_newLength_cabcc_0 rfl (lv_at hl 0 rfl) ?_
  refine lv_iload_n hx hb dJ8_newLength_cabcc_1 rfl (lv_at hl 1 rfl) ?_
  refine lv_iload_n hx hb dJ8_newLength_cabcc_2 rfl (lv_at hl 2 rfl) ?_
  refine va_mmax hx hb (hml.trans hl.1.symm) hown (hts (.methodLink RJ8 194 Lib.Math.max.name) (by decide +kernel)) (hts (.static Lib.Math.max.name) (by decide +kernel)) (hts (.initialized "java/lang/Math") (by decide +kernel)) (hts (.code Lib.Math.max.name Lib.Math.max.code 2 (some .int)) (by decide +kernel)) (Nat.le_of_ble_eq_true rfl) (Nat.le_of_ble_eq_true rfl) (Nat.le_of_ble_eq_true rfl) (Nat.le_of_ble_eq_true rfl) dJ8_newLength_cabcc_3 ?_
  refine lv_iadd hx hb dJ8_newLength_cabcc_6 ?_
  refine lv_topi (fun x3_7 e_x3_7 => ?_)
  have h := bnd_h e_x3_7 h
  refine lv_istore_n (lv' := [(3, .int x3_7), (0, .int p0), (1, .int p1), (2, .int p2)]) hx hb dJ8_newLength_cabcc_7 rfl hl (by decide) rfl (fun ls hl => ?_)
  refine lv_iconst (v := 0) hx hb dJ8_newLength_cabcc_8 (by decide) ?_
  refine lv_iload_n hx hb dJ8_newLength_cabcc_9 rfl (lv_at hl 0 rfl) ?_
  refine lv_icmp_ge (tgt := 21) hx hb dJ8_newLength_cabcc_10 (by decide) (fun c10 => ?_) (fun c10 => ?_)
  · have h := it_ c10 h
    cases h
  · have h := if_ c10 h
    refine lv_iload_n hx hb dJ8_newLength_cabcc_13 rfl (lv_at hl 0 rfl) ?_
    refine lv_ldc hx hb hown (hts (.constant RJ8 200 (2147483639)) (by decide +kernel)) dJ8_newLength_cabcc_14 ?_
    refine lv_icmp_gt (tgt := 21) hx hb dJ8_newLength_cabcc_16 (by decide) (fun c16 => ?_) (fun c16 => ?_)
    · have h := it_ c16 h
      cases h
    · have h := if_ c16 h
      refine lv_iload_n hx hb dJ8_newLength_cabcc_19 rfl (lv_at hl 0 rfl) ?_
      have e1 := Option.some.inj h
      subst e1
      exact W.iret hx hb hr (fun t ht _ => ⟨rfl, ht⟩) no_q dJ8_newLength_cabcc_20

noncomputable abbrev rmJ5_newCapacity_0f7a4 : Room := { frames := 2, cells := 0, slots := 0, locals := 53 }
theorem ydJ5_newCapacity_0f7a4 : yJ5_newCapacity_0f7a4.cls = RJ5 ∧ yJ5_newCapacity_0f7a4.cls ≠ "java/lang/invoke/MethodHandle" ∧ yJ5_newCapacity_0f7a4.cls ≠ "java/lang/invoke/VarHandle" ∧ (parseMethodDescriptor yJ5_newCapacity_0f7a4.desc).map (fun d => d.parameters.length) = some 1 := by decide +kernel
noncomputable def F_J5_newCapacity_0f7a4 (c_t_coder : Int32) (n_t_value : Nat) (p0 : Int32) : Option (Int32) :=
 bnd (Int32.ofNat n_t_value) (fun x2_5 =>
 bnd (p0 <<< (c_t_coder &&& 31)) (fun x3_12 =>
 bnd (x3_12 - x2_5) (fun x4_16 =>
 obn (F_J8_newLength_cabcc x2_5 x4_16 (x2_5 + ((2 : Int32) <<< (c_t_coder &&& 31)))) (fun r29 =>
 (if r29 = (2147483647 : Int32) then
 none
else
 some (r29 >>> (c_t_coder &&& 31)))))))
set_option maxHeartbeats 4000000 in
set_option maxRecDepth 100000 in
theorem c_J5_newCapacity_0f7a4 (l : Launch) (D : va_G) (cyJ cyB : ClassId) (a_t : Nat) (a_t_value : Nat) (c_t_coder : Int32) (c_t_maybeLatin1 : Int32) (c_t_count : Int32) (n_t_value : Nat) (f_t_value : Nat → Int32) (p0 : Int32) (r0 : Int32) (hF : F_J5_newCapacity_0f7a4 c_t_coder n_t_value p0 = some r0) : Met l yJ5_newCapacity_0f7a4 wsJ5_newCapacity_0f7a4 rmJ5_newCapacity_0f7a4 (va_Pc [.ref a_t, .int p0] (wPK D [(cyJ, .long), (cyB, .byte)] [(a_t, .inr (1, [.ref a_t_value, .int c_t_coder, .int c_t_maybeLatin1, .int c_t_count])), (a_t_value, .inl (cyB, n_t_value, .inl f_t_value))])) (k2_QcV (.int r0)) 0 0 (fun _ => False) := by
  refine Met.ofW (cc := cJ5_newCapacity_0f7a4) (maxL := 6) (ret := (some .int)) (by decide) rfl ?_
  intro p e s m args below meth c s₁ B hml hv
  obtain ⟨rfl, hP, hK, hnw⟩ := hv
  have hx := B.exec
  have hb := B.bytes
  have hr := B.returns
  have hts := atoms_spec (ws := wsJ5_newCapacity_0f7a4) B.pre
  have hown : s.vm.findClass RJ5 = some m.cls := findClass_of_methodNamed B.named
  have hlocks := B.notSynchronized
  have hcf : CallFix _ _ _ _ _ _ _ _ _ := ⟨hx, hb, hml, hown, hts⟩
  have hinJ4 : ∀ w ∈ u_ws RJ4 TJ4 4, w ∈ wsJ5_newCapacity_0f7a4 := by decide +kernel
  have hfl15 := hts (.fieldLink RJ5 15 "java/lang/AbstractStringBuilder" "value" "[B") (by decide +kernel)
  have hfl22 := hts (.fieldLink RJ5 22 "java/lang/AbstractStringBuilder" "coder" "B") (by decide +kernel)
  have hK0 := hK
  have hcB : s.vm.findClass "[B" = some cyB := (hK.2 1 _ rfl).2
  have hl := lv_entry ([.ref a_t, .int p0]) (n := 6) (Nat.le_of_ble_eq_true rfl)
  rw [lg_entry_eq]
  generalize (lg_sl ([.ref a_t, .int p0]) ++ List.replicate (6 - (lg_sl ([.ref a_t, .int p0])).length) Slot.unset).toArray = ls at hl ⊢
  have hl : lv_has ls 6 [(0, .ref a_t), (1, .int p0)] := hl
  have h := hF
  clear hF
  unfold F_J5_newCapacity_0f7a4 at h
  refine lv_aload_n hx hb dJ5_newCapacity_0f7a4_0 rfl (lv_at hl 0 rfl) ?_
  refine va_get (D := D) (ci := 1) (v := .ref a_t_value) (C := RJ4) (T := TJ4) (N := 4) hx hb hts hinJ4 hown hK hP 0 rfl rfl 0 (by decide) hfl15 (fun _ h9 => h9) rfl dJ5_newCapacity_0f7a4_1 ?_
  refine va_alen hx hb hK hP 1 1 rfl rfl (v := Int32.ofNat n_t_value) rfl dJ5_newCapacity_0f7a4_4 ?_
  refine lv_topi (fun x2_5 e_x2_5 => ?_)
  have h := bnd_h e_x2_5 h
  refine lv_istore_n (lv' := [(2, .int x2_5), (0, .ref a_t), (1, .int p0)]) hx hb dJ5_newCapacity_0f7a4_5 rfl hl (by decide) rfl (fun ls hl => ?_)
  refine lv_iload_n hx hb dJ5_newCapacity_0f7a4_6 rfl (lv_at hl 2 rfl) ?_
  refine lv_aload_n hx hb dJ5_newCapacity_0f7a4_7 rfl (lv_at hl 1 rfl) ?_
  refine va_get (D := D) (ci := 1) (v := .int c_t_coder) (C := RJ4) (T := TJ4) (N := 4) hx hb hts hinJ4 hown hK hP 0 rfl rfl 1 (by decide) hfl22 (fun _ h9 => h9) rfl dJ5_newCapacity_0f7a4_8 ?_
  refine lv_ishl hx hb dJ5_newCapacity_0f7a4_11 ?_
  refine lv_topi (fun x3_12 e_x3_12 => ?_)
  have h := bnd_h e_x3_12 h
  refine lv_istore_n (lv' := [(3, .int x3_12), (2, .int x2_5), (0, .ref a_t), (1, .int p0)]) hx hb dJ5_newCapacity_0f7a4_12 rfl hl (by decide) rfl (fun ls hl => ?_)
  refine lv_iload_n hx hb dJ5_newCapacity_0f7a4_13 rfl (lv_at hl 0 rfl) ?_
  refine lv_iload_n hx hb dJ5_newCapacity_0f7a4_14 rfl (lv_at hl 1 rfl) ?_
  refine lv_isub hx hb dJ5_newCapacity_0f7a4_15 ?_
  refine lv_topi (fun x4_16 e_x4_16 => ?_)
  have h := bnd_h e_x4_16 h
  refine lv_istore (lv' := [(4, .int x4_16), (3, .int x3_12), (2, .int x2_5), (0, .ref a_t), (1, .int p0)]) hx hb dJ5_newCapacity_0f7a4_16 hl (by decide) rfl (fun ls hl => ?_)
  refine lv_iload_n hx hb dJ5_newCapacity_0f7a4_18 rfl (lv_at hl 2 rfl) ?_
  refine lv_iload hx hb dJ5_newCapacity_0f7a4_19 (lv_at hl 0 rfl) ?_
  refine lv_iload_n hx hb dJ5_newCapacity_0f7a4_21 rfl (lv_at hl 2 rfl) ?_
  refine lv_iconst (v := 2) hx hb dJ5_newCapacity_0f7a4_22 (by decide) ?_
  refine lv_aload_n hx hb dJ5_newCapacity_0f7a4_23 rfl (lv_at hl 3 rfl) ?_
  refine va_get (D := D) (ci := 1) (v := .int c_t_coder) (C := RJ4) (T := TJ4) (N := 4) hx hb hts hinJ4 hown hK hP 0 rfl rfl 1 (by decide) hfl22 (fun _ h9 => h9) rfl dJ5_newCapacity_0f7a4_24 ?_
  refine lv_ishl hx hb dJ5_newCapacity_0f7a4_27 ?_
  refine lv_iadd hx hb dJ5_newCapacity_0f7a4_28 ?_
  obtain ⟨r29, hc29, h⟩ := obn_h h
  refine pz_callS (As := [.int x2_5, .int x4_16, .int (x2_5 + ((2 : Int32) <<< (c_t_coder &&& 31)))]) (rest := []) hcf (c_J8_newLength_cabcc l x2_5 x4_16 (x2_5 + ((2 : Int32) <<< (c_t_coder &&& 31))) r29 hc29) (va_cwS 3 hts gJ5_newCapacity_0f7a4_J8_newLength_cabcc rfl rfl rfl ydJ8_newLength_cabcc ⟨Nat.le_of_ble_eq_true rfl, Nat.le_of_ble_eq_true rfl⟩) hnw rfl hl.1 rfl (Nat.le_of_ble_eq_true rfl) dJ5_newCapacity_0f7a4_29 ⟨Nat.le_of_ble_eq_true rfl, Nat.le_of_ble_eq_true rfl⟩ ?_
  refine lv_istore (lv' := [(5, .int r29), (4, .int x4_16), (3, .int x3_12), (2, .int x2_5), (0, .ref a_t), (1, .int p0)]) hx hb dJ5_newCapacity_0f7a4_32 hl (by decide) rfl (fun ls hl => ?_)
  refine lv_iload hx hb dJ5_newCapacity_0f7a4_34 (lv_at hl 0 rfl) ?_
  refine lv_ldc hx hb hown (hts (.constant RJ5 39 (2147483647)) (by decide +kernel)) dJ5_newCapacity_0f7a4_36 ?_
  refine lv_icmp_ne (tgt := 51) hx hb dJ5_newCapacity_0f7a4_38 (by decide) (fun c38 => ?_) (fun c38 => ?_)
  · have h := if_ c38 h
    refine lv_iload hx hb dJ5_newCapacity_0f7a4_51 (lv_at hl 0 rfl) ?_
    refine lv_aload_n hx hb dJ5_newCapacity_0f7a4_53 rfl (lv_at hl 4 rfl) ?_
    refine va_get (D := D) (ci := 1) (v := .int c_t_coder) (C := RJ4) (T := TJ4) (N := 4) hx hb hts hinJ4 hown hK hP 0 rfl rfl 1 (by decide) hfl22 (fun _ h9 => h9) rfl dJ5_newCapacity_0f7a4_54 ?_
    refine lv_ishr hx hb dJ5_newCapacity_0f7a4_57 ?_
    have e1 := Option.some.inj h
    subst e1
    exact W.iret hx hb hr (fun t ht _ => ⟨rfl, ht⟩) no_q dJ5_newCapacity_0f7a4_58
  · have h := it_ c38 h
    cases h

noncomputable abbrev rmJ7_copyOf_9075b : Room := { frames := 1, cells := 1, slots := 300, locals := 80 }
theorem ydJ7_copyOf_9075b : yJ7_copyOf_9075b.cls ≠ "java/lang/invoke/MethodHandle" ∧ yJ7_copyOf_9075b.cls ≠ "java/lang/invoke/VarHandle" ∧ (parseMethodDescriptor yJ7_copyOf_9075b.desc).map (fun d => d.parameters.length) = some 2 := by decide +kernel
noncomputable def F_J7_copyOf_9075b (n_q0 : Nat) (f_q0 : Nat → Int32) (p1 : Int32) : Option (Nat × (Nat → Int32)) :=
 (if p1 = (Int32.ofNat n_q0) then
 none
else
 chk (¬ p1 < 0 ∧ p1.toNatClampNeg ≤ 300) (
 chk (¬ (0 : Int32) < 0 ∧ ¬ (0 : Int32) < 0 ∧ ¬ (if p1 < (Int32.ofNat n_q0) then p1 else (Int32.ofNat n_q0)) < 0 ∧ (0 : Int32).toNatClampNeg + (if p1 < (Int32.ofNat n_q0) then p1 else (Int32.ofNat n_q0)).toNatClampNeg ≤ n_q0 ∧ (0 : Int32).toNatClampNeg + (if p1 < (Int32.ofNat n_q0) then p1 else (Int32.ofNat n_q0)).toNatClampNeg ≤ p1.toNatClampNeg ∧ ∀ i, i < (if p1 < (Int32.ofNat n_q0) then p1 else (Int32.ofNat n_q0)).toNatClampNeg → fits .byte (.int (f_q0 ((0 : Int32).toNatClampNeg + i))) = true) (
 bnd (va_cpy f_q0 (fun _ => (0 : Int32)) (0 : Int32).toNatClampNeg (0 : Int32).toNatClampNeg (if p1 < (Int32.ofNat n_q0) then p1 else (Int32.ofNat n_q0)).toNatClampNeg) (fun f_n15_28 =>
 some (p1.toNatClampNeg, f_n15_28)))))
set_option maxHeartbeats 4000000 in
set_option maxRecDepth 100000 in
theorem c_J7_copyOf_9075b (l : Launch) (D : va_G) (cyJ cyB : ClassId) (sz : Nat) (a_q0 : Nat) (n_q0 : Nat) (f_q0 : Nat → Int32) (p1 : Int32) (o_n_ret : Nat) (o_f_ret : Nat → Int32) (hF : F_J7_copyOf_9075b n_q0 f_q0 p1 = some (o_n_ret, o_f_ret)) : Met l yJ7_copyOf_9075b wsJ7_copyOf_9075b rmJ7_copyOf_9075b (va_Pc [.ref a_q0, .int p1] (wPD D [(cyJ, .long), (cyB, .byte)] [(a_q0, .inl (cyB, n_q0, .inl f_q0))] sz)) (va_Qr (fun (_ : Unit) => True) (fun u r t => wQA D [(a_q0, .inl (cyB, n_q0, .inl f_q0)), (r, .inl (cyB, o_n_ret, .inl o_f_ret))] (va_A [(a_q0, .inl (cyB, n_q0, .inl f_q0))] sz) t) (va_A [(a_q0, .inl (cyB, n_q0, .inl f_q0))] sz)) 1 300 (va_A [(a_q0, .inl (cyB, n_q0, .inl f_q0))] sz) := by
  refine Met.ofW (cc := cJ7_copyOf_9075b) (maxL := 3) (ret := (some (.array .byte))) (by decide) rfl ?_
  intro p e s m args below meth c s₁ B hml hv
  obtain ⟨rfl, hsz, hP, hK, hD0, hnw⟩ := hv
  have hx := B.exec
  have hb := B.bytes
  have hr := B.returns
  have hts := atoms_spec (ws := wsJ7_copyOf_9075b) B.pre
  have hown : s.vm.findClass RJ7 = some m.cls := findClass_of_methodNamed B.named
  have hlocks := B.notSynchronized
  have hcf : CallFix _ _ _ _ _ _ _ _ _ := ⟨hx, hb, hml, hown, hts⟩
  subst hsz
  have hD := hD0.self (sz := s.heap.size)
  generalize hAe : va_A [(a_q0, .inl (cyB, n_q0, .inl f_q0))] s.heap.size = A at hD ⊢
  have hA : ∀ q : Nat, s.heap.size ≤ q → A q := fun q h => by rw [← hAe]; exact Or.inr h
  have hS : va_S A s.heap s.heap [] := va_S.rf
  have hP : va_P D vwCl [(a_q0, .inl (cyB, n_q0, .inl f_q0))] s.heap := hP
  have hK0 := hK
  have hcB : s.vm.findClass "[B" = some cyB := (hK.2 1 _ rfl).2
  have hl := lv_entry ([.ref a_q0, .int p1]) (n := 3) (Nat.le_of_ble_eq_true rfl)
  rw [lg_entry_eq]
  generalize (lg_sl ([.ref a_q0, .int p1]) ++ List.replicate (3 - (lg_sl ([.ref a_q0, .int p1])).length) Slot.unset).toArray = ls at hl ⊢
  have hl : lv_has ls 3 [(0, .ref a_q0), (1, .int p1)] := hl
  have h := hF
  clear hF
  unfold F_J7_copyOf_9075b at h
  refine lv_iload_n hx hb dJ7_copyOf_9075b_0 rfl (lv_at hl 1 rfl) ?_
  refine lv_aload_n hx hb dJ7_copyOf_9075b_1 rfl (lv_at hl 0 rfl) ?_
  refine va_alen hx hb hK hP 0 1 rfl rfl (v := Int32.ofNat n_q0) rfl dJ7_copyOf_9075b_2 ?_
  refine lv_icmp_ne (tgt := 14) hx hb dJ7_copyOf_9075b_3 (by decide) (fun c3 => ?_) (fun c3 => ?_)
  · have h := if_ c3 h
    refine lv_iload_n hx hb dJ7_copyOf_9075b_14 rfl (lv_at hl 1 rfl) ?_
    obtain ⟨hq15, h⟩ := chk_h h
    refine va_newa (atype := .byte) (ty := .byte) (a0 := (p1.toNatClampNeg, .inl (fun _ => (0 : Int32)))) (N' := p1.toNatClampNeg) hx hb (hts (.arrayClass .byte) (by decide +kernel)) rfl hK hP hD hS hA (fun _ => rfl) hq15.1 rfl (Nat.le_trans (Nat.mul_le_mul_right 1 hq15.2) (by decide)) (Nat.le_of_ble_eq_true rfl) (Nat.le_trans (Nat.add_le_add_left hq15.2 _) (Nat.le_of_ble_eq_true rfl)) dJ7_copyOf_9075b_15 (fun a_n15 cy_15 H hK hP hD hS => ?_)
    have e_cy_15 := cyb_eq hK0 hK
    subst e_cy_15
    have hK := hK0
    have hP : va_P D vwCl [(a_q0, .inl (cyB, n_q0, .inl f_q0)), (a_n15, .inl (cyB, p1.toNatClampNeg, .inl (fun _ => (0 : Int32))))] H := hP
    have hD : va_D A [(a_q0, .inl (cyB, n_q0, .inl f_q0)), (a_n15, .inl (cyB, p1.toNatClampNeg, .inl (fun _ => (0 : Int32))))] := hD
    refine W.widen (k := 1) (n := 300) (Nat.le_of_ble_eq_true rfl) (Nat.add_le_add_left hq15.2 _) ?_
    refine lv_astore_n (lv' := [(2, .ref a_n15), (0, .ref a_q0), (1, .int p1)]) hx hb dJ7_copyOf_9075b_17 rfl hl (by decide) rfl (fun ls hl => ?_)
    refine lv_aload_n hx hb dJ7_copyOf_9075b_18 rfl (lv_at hl 1 rfl) ?_
    refine lv_iconst (v := 0) hx hb dJ7_copyOf_9075b_19 (by decide) ?_
    refine lv_aload_n hx hb dJ7_copyOf_9075b_20 rfl (lv_at hl 0 rfl) ?_
    refine lv_iconst (v := 0) hx hb dJ7_copyOf_9075b_21 (by decide) ?_
    refine lv_aload_n hx hb dJ7_copyOf_9075b_22 rfl (lv_at hl 1 rfl) ?_
    refine va_alen hx hb hK hP 0 1 rfl rfl (v := Int32.ofNat n_q0) rfl dJ7_copyOf_9075b_23 ?_
    refine lv_iload_n hx hb dJ7_copyOf_9075b_24 rfl (lv_at hl 2 rfl) ?_
    refine va_mmin hx hb (hml.trans hl.1.symm) hown (hts (.methodLink RJ7 304 Lib.Math.min.name) (by decide +kernel)) (hts (.static Lib.Math.min.name) (by decide +kernel)) (hts (.initialized "java/lang/Math") (by decide +kernel)) (hts (.code Lib.Math.min.name Lib.Math.min.code 2 (some .int)) (by decide +kernel)) (Nat.le_of_ble_eq_true rfl) (Nat.le_of_ble_eq_true rfl) (Nat.le_of_ble_eq_true rfl) (Nat.le_of_ble_eq_true rfl) dJ7_copyOf_9075b_25 ?_
    obtain ⟨hq28, h⟩ := chk_h h
    refine va_copyi hx hb (hml.trans hl.1.symm) hown (hts (.methodLink RJ7 150 arraycopyName) (by decide +kernel)) (hts (.native arraycopyName) (by decide +kernel)) (hts (.static arraycopyName) (by decide +kernel)) (hts (.initialized "java/lang/System") (by decide +kernel)) hK hP hD hS 0 1 1 1 rfl rfl rfl rfl rfl hq28.1 hq28.2.1 hq28.2.2.1 hq28.2.2.2.1 hq28.2.2.2.2.1 hq28.2.2.2.2.2 (Nat.le_of_ble_eq_true rfl) (by decide +kernel) dJ7_copyOf_9075b_28 (fun H locs hP hD hS => ?_)
    obtain ⟨f_n15_28, e_f_n15_28⟩ : ∃ z, z = va_cpy f_q0 (fun _ => (0 : Int32)) (0 : Int32).toNatClampNeg (0 : Int32).toNatClampNeg (if p1 < (Int32.ofNat n_q0) then p1 else (Int32.ofNat n_q0)).toNatClampNeg := ⟨_, rfl⟩
    have h := bnd_h e_f_n15_28 h
    have hP : va_P D vwCl [(a_q0, .inl (cyB, n_q0, .inl f_q0)), (a_n15, .inl (cyB, p1.toNatClampNeg, .inl f_n15_28))] H := by rw [e_f_n15_28]; exact hP
    have hD : va_D A [(a_q0, .inl (cyB, n_q0, .inl f_q0)), (a_n15, .inl (cyB, p1.toNatClampNeg, .inl f_n15_28))] := by rw [e_f_n15_28]; exact hD
    refine lv_aload_n hx hb dJ7_copyOf_9075b_31 rfl (lv_at hl 0 rfl) ?_
    obtain ⟨e0, e1⟩ := tup2 h
    subst e0
    subst e1
    have hP9 : va_P D vwCl [(a_q0, .inl (cyB, n_q0, .inl f_q0)), (a_n15, .inl (cyB, p1.toNatClampNeg, .inl f_n15_28))] H := hP.sub [0, 1] rfl
    have hD9 : va_D A [(a_q0, .inl (cyB, n_q0, .inl f_q0)), (a_n15, .inl (cyB, p1.toNatClampNeg, .inl f_n15_28))] := hD.sub [0, 1] (by decide) rfl
    exact W.aret (v := .ref a_n15) hx hb hr (Or.inr ⟨_, rfl⟩) (Or.inr ⟨_, rfl⟩) (fun t ht hW => ⟨⟨(), a_n15, rfl, trivial, wQA_of ht hP9 hD9⟩, hS.F ht⟩) hS.2.2 dJ7_copyOf_9075b_32
  · have h := it_ c3 h
    cases h

noncomputable abbrev rmJ5_ensureCapacityInternal_d00df : Room := { frames := 3, cells := 1, slots := 300, locals := 102 }
theorem ydJ5_ensureCapacityInternal_d00df : yJ5_ensureCapacityInternal_d00df.cls = RJ5 ∧ yJ5_ensureCapacityInternal_d00df.cls ≠ "java/lang/invoke/MethodHandle" ∧ yJ5_ensureCapacityInternal_d00df.cls ≠ "java/lang/invoke/VarHandle" ∧ (parseMethodDescriptor yJ5_ensureCapacityInternal_d00df.desc).map (fun d => d.parameters.length) = some 1 := by decide +kernel
noncomputable def F_J5_ensureCapacityInternal_d00df (c_t_coder : Int32) (n_t_value : Nat) (f_t_value : Nat → Int32) (p0 : Int32) : Option (Nat × (Nat → Int32)) :=
 bnd ((Int32.ofNat n_t_value) >>> (c_t_coder &&& 31)) (fun x2_10 =>
 (if (p0 - x2_10) ≤ 0 then
 some (n_t_value, f_t_value)
else
 obn (F_J5_newCapacity_0f7a4 c_t_coder n_t_value p0) (fun r24 =>
 obn2 (F_J7_copyOf_9075b n_t_value f_t_value (r24 <<< (c_t_coder &&& 31))) (fun n_ret32_32 f_ret32_32 =>
 some (n_ret32_32, f_ret32_32)))))
set_option maxHeartbeats 4000000 in
set_option maxRecDepth 100000 in
theorem c_J5_ensureCapacityInternal_d00df (l : Launch) (D : va_G) (cyJ cyB : ClassId) (sz : Nat) (a_t : Nat) (a_t_value : Nat) (c_t_coder : Int32) (c_t_maybeLatin1 : Int32) (c_t_count : Int32) (n_t_value : Nat) (f_t_value : Nat → Int32) (p0 : Int32) (o_n_t_value : Nat) (o_f_t_value : Nat → Int32) (hF : F_J5_ensureCapacityInternal_d00df c_t_coder n_t_value f_t_value p0 = some (o_n_t_value, o_f_t_value)) : Met l yJ5_ensureCapacityInternal_d00df wsJ5_ensureCapacityInternal_d00df rmJ5_ensureCapacityInternal_d00df (va_Pc [.ref a_t, .int p0] (wPD D [(cyJ, .long), (cyB, .byte)] [(a_t, .inr (1, [.ref a_t_value, .int c_t_coder, .int c_t_maybeLatin1, .int c_t_count])), (a_t_value, .inl (cyB, n_t_value, .inl f_t_value))] sz)) (va_Qv (fun (_ : Nat) => True) (fun u t => wQA D [(a_t, .inr (1, [.ref u, .int c_t_coder, .int c_t_maybeLatin1, .int c_t_count])), (u, .inl (cyB, o_n_t_value, .inl o_f_t_value))] (va_A [(a_t, .inr (1, [.ref a_t_value, .int c_t_coder, .int c_t_maybeLatin1, .int c_t_count])), (a_t_value, .inl (cyB, n_t_value, .inl f_t_value))] sz) t) (va_A [(a_t, .inr (1, [.ref a_t_value, .int c_t_coder, .int c_t_maybeLatin1, .int c_t_count])), (a_t_value, .inl (cyB, n_t_value, .inl f_t_value))] sz)) 1 300 (va_A [(a_t, .inr (1, [.ref a_t_value, .int c_t_coder, .int c_t_maybeLatin1, .int c_t_count])), (a_t_value, .inl (cyB, n_t_value, .inl f_t_value))] sz) := by
  refine Met.ofW (cc := cJ5_ensureCapacityInternal_d00df) (maxL := 3) (ret := none) (by decide) rfl ?_
  intro p e s m args below meth c s₁ B hml hv
  obtain ⟨rfl, hsz, hP, hK, hD0, hnw⟩ := hv
  have hx := B.exec
  have hb := B.bytes
  have hr := B.returns
  have hts := atoms_spec (ws := wsJ5_ensureCapacityInternal_d00df) B.pre
  have hown : s.vm.findClass RJ5 = some m.cls := findClass_of_methodNamed B.named
  have hlocks := B.notSynchronized
  have hcf : CallFix _ _ _ _ _ _ _ _ _ := ⟨hx, hb, hml, hown, hts⟩
  have hinJ4 : ∀ w ∈ u_ws RJ4 TJ4 4, w ∈ wsJ5_ensureCapacityInternal_d00df := by decide +kernel
  have hfl15 := hts (.fieldLink RJ5 15 "java/lang/AbstractStringBuilder" "value" "[B") (by decide +kernel)
  have hfl22 := hts (.fieldLink RJ5 22 "java/lang/AbstractStringBuilder" "coder" "B") (by decide +kernel)
  subst hsz
  have hD := hD0.self (sz := s.heap.size)
  generalize hAe : va_A [(a_t, .inr (1, [.ref a_t_value, .int c_t_coder, .int c_t_maybeLatin1, .int c_t_count])), (a_t_value, .inl (cyB, n_t_value, .inl f_t_value))] s.heap.size = A at hD ⊢
  have hA : ∀ q : Nat, s.heap.size ≤ q → A q := fun q h => by rw [← hAe]; exact Or.inr h
  have hS : va_S A s.heap s.heap [] := va_S.rf
  have hP : va_P D vwCl [(a_t, .inr (1, [.ref a_t_value, .int c_t_coder, .int c_t_maybeLatin1, .int c_t_count])), (a_t_value, .inl (cyB, n_t_value, .inl f_t_value))] s.heap := hP
  have hK0 := hK
  have hcB : s.vm.findClass "[B" = some cyB := (hK.2 1 _ rfl).2
  have hl := lv_entry ([.ref a_t, .int p0]) (n := 3) (Nat.le_of_ble_eq_true rfl)
  rw [lg_entry_eq]
  generalize (lg_sl ([.ref a_t, .int p0]) ++ List.replicate (3 - (lg_sl ([.ref a_t, .int p0])).length) Slot.unset).toArray = ls at hl ⊢
  have hl : lv_has ls 3 [(0, .ref a_t), (1, .int p0)] := hl
  have h := hF
  clear hF
  unfold F_J5_ensureCapacityInternal_d00df at h
  refine lv_aload_n hx hb dJ5_ensureCapacityInternal_d00df_0 rfl (lv_at hl 0 rfl) ?_
  refine va_get (D := D) (ci := 1) (v := .ref a_t_value) (C := RJ4) (T := TJ4) (N := 4) hx hb hts hinJ4 hown hK hP 0 rfl rfl 0 (by decide) hfl15 (fun _ h9 => h9) rfl dJ5_ensureCapacityInternal_d00df_1 ?_
  refine va_alen hx hb hK hP 1 1 rfl rfl (v := Int32.ofNat n_t_value) rfl dJ5_ensureCapacityInternal_d00df_4 ?_
  refine lv_aload_n hx hb dJ5_ensureCapacityInternal_d00df_5 rfl (lv_at hl 0 rfl) ?_
  refine va_get (D := D) (ci := 1) (v := .int c_t_coder) (C := RJ4) (T := TJ4) (N := 4) hx hb hts hinJ4 hown hK hP 0 rfl rfl 1 (by decide) hfl22 (fun _ h9 => h9) rfl dJ5_ensureCapacityInternal_d00df_6 ?_
  refine lv_ishr hx hb dJ5_ensureCapacityInternal_d00df_9 ?_
  refine lv_topi (fun x2_10 e_x2_10 => ?_)
  have h := bnd_h e_x2_10 h
  refine lv_istore_n (lv' := [(2, .int x2_10), (0, .ref a_t), (1, .int p0)]) hx hb dJ5_ensureCapacityInternal_d00df_10 rfl hl (by decide) rfl (fun ls hl => ?_)
  refine lv_iload_n hx hb dJ5_ensureCapacityInternal_d00df_11 rfl (lv_at hl 2 rfl) ?_
  refine lv_iload_n hx hb dJ5_ensureCapacityInternal_d00df_12 rfl (lv_at hl 0 rfl) ?_
  refine lv_isub hx hb dJ5_ensureCapacityInternal_d00df_13 ?_
  refine lv_if_le (tgt := 38) hx hb dJ5_ensureCapacityInternal_d00df_14 (by decide) (fun c14 => ?_) (fun c14 => ?_)
  · have h := it_ c14 h
    obtain ⟨e0, e1⟩ := tup2 h
    subst e0
    subst e1
    have hP9 : va_P D vwCl [(a_t, .inr (1, [.ref a_t_value, .int c_t_coder, .int c_t_maybeLatin1, .int c_t_count])), (a_t_value, .inl (cyB, n_t_value, .inl f_t_value))] s.heap := hP.sub [0, 1] rfl
    have hD9 : va_D A [(a_t, .inr (1, [.ref a_t_value, .int c_t_coder, .int c_t_maybeLatin1, .int c_t_count])), (a_t_value, .inl (cyB, n_t_value, .inl f_t_value))] := hD.sub [0, 1] (by decide) rfl
    refine W.widen (k := 1) (n := 300) (Nat.le_of_ble_eq_true rfl) (Nat.le_of_ble_eq_true rfl) ?_
    exact W.vret hx hb hr (fun t ht hW => ⟨⟨a_t_value, rfl, trivial, wQA_of ht hP9 hD9⟩, hS.F ht⟩) hS.2.2 dJ5_ensureCapacityInternal_d00df_38
  · have h := if_ c14 h
    refine lv_aload_n hx hb dJ5_ensureCapacityInternal_d00df_17 rfl (lv_at hl 1 rfl) ?_
    refine lv_aload_n hx hb dJ5_ensureCapacityInternal_d00df_18 rfl (lv_at hl 1 rfl) ?_
    refine va_get (D := D) (ci := 1) (v := .ref a_t_value) (C := RJ4) (T := TJ4) (N := 4) hx hb hts hinJ4 hown hK hP 0 rfl rfl 0 (by decide) hfl15 (fun _ h9 => h9) rfl dJ5_ensureCapacityInternal_d00df_19 ?_
    refine lv_aload_n hx hb dJ5_ensureCapacityInternal_d00df_22 rfl (lv_at hl 1 rfl) ?_
    refine lv_iload_n hx hb dJ5_ensureCapacityInternal_d00df_23 rfl (lv_at hl 2 rfl) ?_
    obtain ⟨r24, hc24, h⟩ := obn_h h
    have hPc : va_P D vwCl [(a_t, .inr (1, [.ref a_t_value, .int c_t_coder, .int c_t_maybeLatin1, .int c_t_count])), (a_t_value, .inl (cyB, n_t_value, .inl f_t_value))] s.heap := hP.sub [0, 1] rfl
    refine rg_callU (As := [.int p0]) (rest := [.ref a_t_value, .ref a_t]) hcf (c_J5_newCapacity_0f7a4 l D cyJ cyB a_t a_t_value c_t_coder c_t_maybeLatin1 c_t_count n_t_value f_t_value p0 r24 hc24) (va_cwU 1 hts gJ5_ensureCapacityInternal_d00df_J5_newCapacity_0f7a4_u104J4 rfl rfl rfl rfl (by decide +kernel) ⟨Nat.le_of_ble_eq_true rfl, Nat.le_of_ble_eq_true rfl⟩) ⟨bl_PK, (va_recv hK hP (ci := 1) (q0 := 0) rfl rfl), pr_PK hPc hK0 hnw⟩ rfl hl.1 rfl (Nat.le_of_ble_eq_true rfl) dJ5_ensureCapacityInternal_d00df_24 ⟨Nat.le_of_ble_eq_true rfl, Nat.le_of_ble_eq_true rfl⟩ ?_
    refine lv_aload_n hx hb dJ5_ensureCapacityInternal_d00df_27 rfl (lv_at hl 1 rfl) ?_
    refine va_get (D := D) (ci := 1) (v := .int c_t_coder) (C := RJ4) (T := TJ4) (N := 4) hx hb hts hinJ4 hown hK hP 0 rfl rfl 1 (by decide) hfl22 (fun _ h9 => h9) rfl dJ5_ensureCapacityInternal_d00df_28 ?_
    refine lv_ishl hx hb dJ5_ensureCapacityInternal_d00df_31 ?_
    obtain ⟨n_ret32_32, f_ret32_32, hc32, h⟩ := obn2_h h
    have hPc := hP.sub (ws' := [(a_t_value, .inl (cyB, n_t_value, .inl f_t_value))]) [1] rfl
    have hDc := hD.sub (ws' := [(a_t_value, .inl (cyB, n_t_value, .inl f_t_value))]) [1] (by decide) rfl
    refine hp_r (wr := [(a_t, .inr (1, [.ref a_t_value, .int c_t_coder, .int c_t_maybeLatin1, .int c_t_count]))]) (va_runS (As := [.ref a_t_value, .int (r24 <<< (c_t_coder &&& 31))]) (rest := [.ref a_t]) hcf (c_J7_copyOf_9075b l D cyJ cyB s.heap.size a_t_value n_t_value f_t_value (r24 <<< (c_t_coder &&& 31)) n_ret32_32 f_ret32_32 hc32) (va_cwS 2 hts gJ5_ensureCapacityInternal_d00df_J7_copyOf_9075b rfl rfl rfl ydJ7_copyOf_9075b ⟨Nat.le_of_ble_eq_true rfl, Nat.le_of_ble_eq_true rfl⟩) ⟨bl_PD, pr_PD hPc hK0 hDc hnw ⟩ rfl rfl hl.1 rfl (lv_room (Nat.le_of_ble_eq_true rfl)) dJ5_ensureCapacityInternal_d00df_32 ⟨Nat.le_of_ble_eq_true rfl, Nat.le_of_ble_eq_true rfl⟩) hP hD hS hA [1] [0] rfl rfl (by decide) (by decide) (fun u32 b_ret32_32 H locs hP hD hS => ?_)
    have hP : va_P D vwCl [(a_t, .inr (1, [.ref a_t_value, .int c_t_coder, .int c_t_maybeLatin1, .int c_t_count])), (a_t_value, .inl (cyB, n_t_value, .inl f_t_value)), (b_ret32_32, .inl (cyB, n_ret32_32, .inl f_ret32_32))] H := hP
    have hD : va_D A [(a_t, .inr (1, [.ref a_t_value, .int c_t_coder, .int c_t_maybeLatin1, .int c_t_count])), (a_t_value, .inl (cyB, n_t_value, .inl f_t_value)), (b_ret32_32, .inl (cyB, n_ret32_32, .inl f_ret32_32))] := hD
    refine va_put (D := D) (ci := 1) (v := .ref b_ret32_32) (ty := tyJ4 0) (C := RJ4) (T := TJ4) (N := 4) hx hb hts hinJ4 tyJ4 tyJ4_ok nmJ4 hown hK hP hD hS 0 rfl rfl 0 (by decide) hfl15 (fun _ h9 => h9) rfl (by decide +kernel) rfl rfl (Nat.le_of_ble_eq_true rfl) dJ5_ensureCapacityInternal_d00df_35 (fun H locs hP hD hS => ?_)
    have hP : va_P D vwCl [(a_t, .inr (1, [.ref b_ret32_32, .int c_t_coder, .int c_t_maybeLatin1, .int c_t_count])), (a_t_value, .inl (cyB, n_t_value, .inl f_t_value)), (b_ret32_32, .inl (cyB, n_ret32_32, .inl f_ret32_32))] H := hP
    have hD : va_D A [(a_t, .inr (1, [.ref b_ret32_32, .int c_t_coder, .int c_t_maybeLatin1, .int c_t_count])), (a_t_value, .inl (cyB, n_t_value, .inl f_t_value)), (b_ret32_32, .inl (cyB, n_ret32_32, .inl f_ret32_32))] := hD
    have hP : va_P D vwCl [(a_t, .inr (1, [.ref b_ret32_32, .int c_t_coder, .int c_t_maybeLatin1, .int c_t_count])), (b_ret32_32, .inl (cyB, n_ret32_32, .inl f_ret32_32))] H := hP.sub [0, 2] rfl
    have hD : va_D A [(a_t, .inr (1, [.ref b_ret32_32, .int c_t_coder, .int c_t_maybeLatin1, .int c_t_count])), (b_ret32_32, .inl (cyB, n_ret32_32, .inl f_ret32_32))] := hD.sub [0, 2] (by decide) rfl
    obtain ⟨e0, e1⟩ := tup2 h
    subst e0
    subst e1
    have hP9 : va_P D vwCl [(a_t, .inr (1, [.ref b_ret32_32, .int c_t_coder, .int c_t_maybeLatin1, .int c_t_count])), (b_ret32_32, .inl (cyB, n_ret32_32, .inl f_ret32_32))] H := hP.sub [0, 1] rfl
    have hD9 : va_D A [(a_t, .inr (1, [.ref b_ret32_32, .int c_t_coder, .int c_t_maybeLatin1, .int c_t_count])), (b_ret32_32, .inl (cyB, n_ret32_32, .inl f_ret32_32))] := hD.sub [0, 1] (by decide) rfl
    exact W.vret hx hb hr (fun t ht hW => ⟨⟨b_ret32_32, rfl, trivial, wQA_of ht hP9 hD9⟩, hS.F ht⟩) hS.2.2 dJ5_ensureCapacityInternal_d00df_38

noncomputable abbrev rmJ5_isLatin1_aae02 : Room := { frames := 0, cells := 0, slots := 0, locals := 0 }
theorem ydJ5_isLatin1_aae02 : yJ5_isLatin1_aae02.cls = RJ5 ∧ yJ5_isLatin1_aae02.cls ≠ "java/lang/invoke/MethodHandle" ∧ yJ5_isLatin1_aae02.cls ≠ "java/lang/invoke/VarHandle" ∧ (parseMethodDescriptor yJ5_isLatin1_aae02.desc).map (fun d => d.parameters.length) = some 0 := by decide +kernel
noncomputable def F_J5_isLatin1_aae02 (c_t_coder : Int32) : Option (Int32) :=
 (if c_t_coder = 0 then
 some (1 : Int32)
else
 some (0 : Int32))
set_option maxHeartbeats 4000000 in
set_option maxRecDepth 100000 in
theorem c_J5_isLatin1_aae02 (l : Launch) (D : va_G) (cyJ cyB : ClassId) (adK adV : Nat → Nat) (a_t : Nat) (a_t_value : Nat) (c_t_coder : Int32) (c_t_maybeLatin1 : Int32) (c_t_count : Int32) (r0 : Int32) (hF : F_J5_isLatin1_aae02 c_t_coder = some r0) : Met l yJ5_isLatin1_aae02 wsJ5_isLatin1_aae02 rmJ5_isLatin1_aae02 (va_Pc [.ref a_t] (wPKT D [(cyJ, .long), (cyB, .byte)] [(a_t, .inr (1, [.ref a_t_value, .int c_t_coder, .int c_t_maybeLatin1, .int c_t_count]))] adK adV)) (k2_QcV (.int r0)) 0 0 (fun _ => False) := by
  refine Met.ofW (cc := cJ5_isLatin1_aae02) (maxL := 1) (ret := (some .boolean)) (by decide) rfl ?_
  intro p e s m args below meth c s₁ B hml hv
  obtain ⟨rfl, ⟨hP, hK, hnw⟩, hT⟩ := hv
  have hx := B.exec
  have hb := B.bytes
  have hr := B.returns
  have hts := atoms_spec (ws := wsJ5_isLatin1_aae02) B.pre
  have hown : s.vm.findClass RJ5 = some m.cls := findClass_of_methodNamed B.named
  have hlocks := B.notSynchronized
  have hcf : CallFix _ _ _ _ _ _ _ _ _ := ⟨hx, hb, hml, hown, hts⟩
  have hinJ4 : ∀ w ∈ u_ws RJ4 TJ4 4, w ∈ wsJ5_isLatin1_aae02 := by decide +kernel
  have hfl22 := hts (.fieldLink RJ5 22 "java/lang/AbstractStringBuilder" "coder" "B") (by decide +kernel)
  have hS0 : va_S (fun _ : Nat => False) s.heap s.heap [] := va_S.rf
  have hK0 := hK
  have hcB : s.vm.findClass "[B" = some cyB := (hK.2 1 _ rfl).2
  have hl := lv_entry ([.ref a_t]) (n := 1) (Nat.le_of_ble_eq_true rfl)
  rw [lg_entry_eq]
  generalize (lg_sl ([.ref a_t]) ++ List.replicate (1 - (lg_sl ([.ref a_t])).length) Slot.unset).toArray = ls at hl ⊢
  have hl : lv_has ls 1 [(0, .ref a_t)] := hl
  have h := hF
  clear hF
  unfold F_J5_isLatin1_aae02 at h
  refine va_gets (v := .int 1) hx hb hT.1 hS0 hown (hts (.fieldLink RJ5 18 "java/lang/String" "COMPACT_STRINGS" "Z") (by decide +kernel)) (fun _ h9 => h9) dJ5_isLatin1_aae02_0 ?_
  refine lv_if_eq (tgt := 17) hx hb dJ5_isLatin1_aae02_3 (by decide) (fun c3 => absurd c3 (by decide)) (fun c3 => ?_)
  refine lv_aload_n hx hb dJ5_isLatin1_aae02_6 rfl (lv_at hl 0 rfl) ?_
  refine va_get (D := D) (ci := 1) (v := .int c_t_coder) (C := RJ4) (T := TJ4) (N := 4) hx hb hts hinJ4 hown hK hP 0 rfl rfl 1 (by decide) hfl22 (fun _ h9 => h9) rfl dJ5_isLatin1_aae02_7 ?_
  refine lv_if_ne (tgt := 17) hx hb dJ5_isLatin1_aae02_10 (by decide) (fun c10 => ?_) (fun c10 => ?_)
  · have h := if_ c10 h
    refine lv_iconst (v := 0) hx hb dJ5_isLatin1_aae02_17 (by decide) ?_
    have e1 := Option.some.inj h
    subst e1
    exact W.zret hx hb hr narrow_b0 (fun t ht _ => ⟨rfl, ht⟩) no_q dJ5_isLatin1_aae02_18
  · have h := it_ c10 h
    refine lv_iconst (v := 1) hx hb dJ5_isLatin1_aae02_13 (by decide) ?_
    refine lv_goto (tgt := 18) hx hb dJ5_isLatin1_aae02_14 (by decide) ?_
    have e1 := Option.some.inj h
    subst e1
    exact W.zret hx hb hr narrow_b1 (fun t ht _ => ⟨rfl, ht⟩) no_q dJ5_isLatin1_aae02_18

noncomputable abbrev rmJ1_canEncode_fc78d : Room := { frames := 0, cells := 0, slots := 0, locals := 0 }
theorem ydJ1_canEncode_fc78d : yJ1_canEncode_fc78d.cls ≠ "java/lang/invoke/MethodHandle" ∧ yJ1_canEncode_fc78d.cls ≠ "java/lang/invoke/VarHandle" ∧ (parseMethodDescriptor yJ1_canEncode_fc78d.desc).map (fun d => d.parameters.length) = some 1 := by decide +kernel
noncomputable def F_J1_canEncode_fc78d (p0 : Int32) : Option (Int32) :=
 (if (255 : Int32) < p0 then
 some (0 : Int32)
else
 some (1 : Int32))
set_option maxHeartbeats 4000000 in
set_option maxRecDepth 100000 in
theorem c_J1_canEncode_fc78d (l : Launch) (p0 : Int32) (r0 : Int32) (hF : F_J1_canEncode_fc78d p0 = some r0) : Met l yJ1_canEncode_fc78d wsJ1_canEncode_fc78d rmJ1_canEncode_fc78d (va_Pc [.int p0] NW) (k2_QcV (.int r0)) 0 0 (fun _ => False) := by
  refine Met.ofW (cc := cJ1_canEncode_fc78d) (maxL := 1) (ret := (some .boolean)) (by decide) rfl ?_
  intro p e s m args below meth c s₁ B hml hv
  obtain ⟨rfl, hnw⟩ := hv
  have hx := B.exec
  have hb := B.bytes
  have hr := B.returns
  have hts := atoms_spec (ws := wsJ1_canEncode_fc78d) B.pre
  have hown : s.vm.findClass RJ1 = some m.cls := findClass_of_methodNamed B.named
  have hlocks := B.notSynchronized
  have hcf : CallFix _ _ _ _ _ _ _ _ _ := ⟨hx, hb, hml, hown, hts⟩
  have hl := lv_entry ([.int p0]) (n := 1) (Nat.le_of_ble_eq_true rfl)
  rw [lg_entry_eq]
  generalize (lg_sl ([.int p0]) ++ List.replicate (1 - (lg_sl ([.int p0])).length) Slot.unset).toArray = ls at hl ⊢
  have hl : lv_has ls 1 [(0, .int p0)] := hl
  have h := hF
  clear hF
  unfold F_J1_canEncode_fc78d at h
  refine lv_iload_n hx hb dJ1_canEncode_fc78d_0 rfl (lv_at hl 0 rfl) ?_
  refine lv_sipush (v := 255) hx hb dJ1_canEncode_fc78d_1 (by decide) ?_
  refine lv_icmp_gt (tgt := 11) hx hb dJ1_canEncode_fc78d_4 (by decide) (fun c4 => ?_) (fun c4 => ?_)
  · have h := it_ c4 h
    refine lv_iconst (v := 0) hx hb dJ1_canEncode_fc78d_11 (by decide) ?_
    have e1 := Option.some.inj h
    subst e1
    exact W.zret hx hb hr narrow_b0 (fun t ht _ => ⟨rfl, ht⟩) no_q dJ1_canEncode_fc78d_12
  · have h := if_ c4 h
    refine lv_iconst (v := 1) hx hb dJ1_canEncode_fc78d_7 (by decide) ?_
    refine lv_goto (tgt := 12) hx hb dJ1_canEncode_fc78d_8 (by decide) ?_
    have e1 := Option.some.inj h
    subst e1
    exact W.zret hx hb hr narrow_b1 (fun t ht _ => ⟨rfl, ht⟩) no_q dJ1_canEncode_fc78d_12

noncomputable abbrev rmJ5_append_3fe6f : Room := { frames := 4, cells := 1, slots := 300, locals := 124 }
theorem ydJ5_append_3fe6f : yJ5_append_3fe6f.cls = RJ5 ∧ yJ5_append_3fe6f.cls ≠ "java/lang/invoke/MethodHandle" ∧ yJ5_append_3fe6f.cls ≠ "java/lang/invoke/VarHandle" ∧ (parseMethodDescriptor yJ5_append_3fe6f.desc).map (fun d => d.parameters.length) = some 1 := by decide +kernel
noncomputable def F_J5_append_3fe6f (c_t_coder : Int32) (c_t_count : Int32) (n_t_value : Nat) (f_t_value : Nat → Int32) (p0 : Int32) : Option (Int32 × Nat × (Nat → Int32)) :=
 obn2 (F_J5_ensureCapacityInternal_d00df c_t_coder n_t_value f_t_value (c_t_count + (1 : Int32))) (fun n_t_value_7 f_t_value_7 =>
 obn (F_J5_isLatin1_aae02 c_t_coder) (fun r11 =>
 (if r11 = 0 then
 none
else
 obn (F_J1_canEncode_fc78d p0) (fun r18 =>
 (if r18 = 0 then
 none
else
 bnd (c_t_count + (1 : Int32)) (fun c_t_count_36 =>
 chk (¬ (c_t_count < 0 ∨ n_t_value_7 ≤ c_t_count.toNatClampNeg)) (
 bnd (upd f_t_value_7 c_t_count.toNatClampNeg (vp_nar .byte p0.toInt8.toInt32)) (fun f_t_value_41 =>
 some (c_t_count_36, n_t_value_7, f_t_value_41)))))))))
set_option maxHeartbeats 4000000 in
set_option maxRecDepth 100000 in
theorem c_J5_append_3fe6f (l : Launch) (D : va_G) (cyJ cyB : ClassId) (adK adV : Nat → Nat) (sz : Nat) (a_t : Nat) (a_t_value : Nat) (c_t_coder : Int32) (c_t_maybeLatin1 : Int32) (c_t_count : Int32) (n_t_value : Nat) (f_t_value : Nat → Int32) (p0 : Int32) (o_c_t_count : Int32) (o_n_t_value : Nat) (o_f_t_value : Nat → Int32) (hF : F_J5_append_3fe6f c_t_coder c_t_count n_t_value f_t_value p0 = some (o_c_t_count, o_n_t_value, o_f_t_value)) : Met l yJ5_append_3fe6f wsJ5_append_3fe6f rmJ5_append_3fe6f (va_Pc [.ref a_t, .int p0] (wPDT D [(cyJ, .long), (cyB, .byte)] [(a_t, .inr (1, [.ref a_t_value, .int c_t_coder, .int c_t_maybeLatin1, .int c_t_count])), (a_t_value, .inl (cyB, n_t_value, .inl f_t_value))] adK adV sz)) (va_Qr (fun (_ : Nat) => True) (fun u r t => r = a_t ∧ wQA D [(a_t, .inr (1, [.ref u, .int c_t_coder, .int c_t_maybeLatin1, .int o_c_t_count])), (u, .inl (cyB, o_n_t_value, .inl o_f_t_value))] (va_A [(a_t, .inr (1, [.ref a_t_value, .int c_t_coder, .int c_t_maybeLatin1, .int c_t_count])), (a_t_value, .inl (cyB, n_t_value, .inl f_t_value))] sz) t) (va_A [(a_t, .inr (1, [.ref a_t_value, .int c_t_coder, .int c_t_maybeLatin1, .int c_t_count])), (a_t_value, .inl (cyB, n_t_value, .inl f_t_value))] sz)) 1 300 (va_A [(a_t, .inr (1, [.ref a_t_value, .int c_t_coder, .int c_t_maybeLatin1, .int c_t_count])), (a_t_value, .inl (cyB, n_t_value, .inl f_t_value))] sz) := by
  refine Met.ofW (cc := cJ5_append_3fe6f) (maxL := 2) (ret := (some (.object "java/lang/AbstractStringBuilder"))) (by decide) rfl ?_
  intro p e s m args below meth c s₁ B hml hv
  obtain ⟨rfl, ⟨⟨hsz, hP, hK, hD0, hnw⟩, hT⟩⟩ := hv
  have hx := B.exec
  have hb := B.bytes
  have hr := B.returns
  have hts := atoms_spec (ws := wsJ5_append_3fe6f) B.pre
  have hown : s.vm.findClass RJ5 = some m.cls := findClass_of_methodNamed B.named
  have hlocks := B.notSynchronized
  have hcf : CallFix _ _ _ _ _ _ _ _ _ := ⟨hx, hb, hml, hown, hts⟩
  have hinJ4 : ∀ w ∈ u_ws RJ4 TJ4 4, w ∈ wsJ5_append_3fe6f := by decide +kernel
  have hfl79 := hts (.fieldLink RJ5 79 "java/lang/AbstractStringBuilder" "count" "I") (by decide +kernel)
  have hfl15 := hts (.fieldLink RJ5 15 "java/lang/AbstractStringBuilder" "value" "[B") (by decide +kernel)
  subst hsz
  have hD := hD0.self (sz := s.heap.size)
  generalize hAe : va_A [(a_t, .inr (1, [.ref a_t_value, .int c_t_coder, .int c_t_maybeLatin1, .int c_t_count])), (a_t_value, .inl (cyB, n_t_value, .inl f_t_value))] s.heap.size = A at hD hT ⊢
  have hA : ∀ q : Nat, s.heap.size ≤ q → A q := fun q h => by rw [← hAe]; exact Or.inr h
  have hS : va_S A s.heap s.heap [] := va_S.rf
  have hP : va_P D vwCl [(a_t, .inr (1, [.ref a_t_value, .int c_t_coder, .int c_t_maybeLatin1, .int c_t_count])), (a_t_value, .inl (cyB, n_t_value, .inl f_t_value))] s.heap := hP
  have hK0 := hK
  have hcB : s.vm.findClass "[B" = some cyB := (hK.2 1 _ rfl).2
  have hl := lv_entry ([.ref a_t, .int p0]) (n := 2) (Nat.le_of_ble_eq_true rfl)
  rw [lg_entry_eq]
  generalize (lg_sl ([.ref a_t, .int p0]) ++ List.replicate (2 - (lg_sl ([.ref a_t, .int p0])).length) Slot.unset).toArray = ls at hl ⊢
  have hl : lv_has ls 2 [(0, .ref a_t), (1, .int p0)] := hl
  have h := hF
  clear hF
  unfold F_J5_append_3fe6f at h
  refine lv_aload_n hx hb dJ5_append_3fe6f_0 rfl (lv_at hl 0 rfl) ?_
  refine lv_aload_n hx hb dJ5_append_3fe6f_1 rfl (lv_at hl 0 rfl) ?_
  refine va_get (D := D) (ci := 1) (v := .int c_t_count) (C := RJ4) (T := TJ4) (N := 4) hx hb hts hinJ4 hown hK hP 0 rfl rfl 3 (by decide) hfl79 (fun _ h9 => h9) rfl dJ5_append_3fe6f_2 ?_
  refine lv_iconst (v := 1) hx hb dJ5_append_3fe6f_5 (by decide) ?_
  refine lv_iadd hx hb dJ5_append_3fe6f_6 ?_
  obtain ⟨n_t_value_7, f_t_value_7, hc7, h⟩ := obn2_h h
  have hPc := hP.sub (ws' := [(a_t, .inr (1, [.ref a_t_value, .int c_t_coder, .int c_t_maybeLatin1, .int c_t_count])), (a_t_value, .inl (cyB, n_t_value, .inl f_t_value))]) [0, 1] rfl
  have hDc := hD.sub (ws' := [(a_t, .inr (1, [.ref a_t_value, .int c_t_coder, .int c_t_maybeLatin1, .int c_t_count])), (a_t_value, .inl (cyB, n_t_value, .inl f_t_value))]) [0, 1] (by decide) rfl
  refine hp_n (wr := []) (va_runU (As := [.int (c_t_count + (1 : Int32))]) (rest := []) hcf (c_J5_ensureCapacityInternal_d00df l D cyJ cyB s.heap.size a_t a_t_value c_t_coder c_t_maybeLatin1 c_t_count n_t_value f_t_value (c_t_count + (1 : Int32)) n_t_value_7 f_t_value_7 hc7) (va_cwU 1 hts gJ5_append_3fe6f_J5_ensureCapacityInternal_d00df_u100J4 rfl rfl rfl rfl (by decide +kernel) ⟨Nat.le_of_ble_eq_true rfl, Nat.le_of_ble_eq_true rfl⟩) ⟨bl_PD, (va_recv hK hP (ci := 1) (q0 := 0) rfl rfl), pr_PD hPc hK0 hDc hnw ⟩ rfl rfl hl.1 rfl (lv_room (Nat.le_of_ble_eq_true rfl)) dJ5_append_3fe6f_7 ⟨Nat.le_of_ble_eq_true rfl, Nat.le_of_ble_eq_true rfl⟩) hP hD hS hA [0, 1] [] rfl rfl (by decide) (by decide) (fun u7 H locs hP hD hS => ?_)
  obtain ⟨b_t_value_7, rfl⟩ : ∃ z : Nat, z = u7 := ⟨_, rfl⟩
  have hP : va_P D vwCl [(a_t, .inr (1, [.ref b_t_value_7, .int c_t_coder, .int c_t_maybeLatin1, .int c_t_count])), (b_t_value_7, .inl (cyB, n_t_value_7, .inl f_t_value_7))] H := hP
  have hD : va_D A [(a_t, .inr (1, [.ref b_t_value_7, .int c_t_coder, .int c_t_maybeLatin1, .int c_t_count])), (b_t_value_7, .inl (cyB, n_t_value_7, .inl f_t_value_7))] := hD
  refine lv_aload_n hx hb dJ5_append_3fe6f_10 rfl (lv_at hl 0 rfl) ?_
  obtain ⟨r11, hc11, h⟩ := obn_h h
  have hPc : va_P D vwCl [(a_t, .inr (1, [.ref b_t_value_7, .int c_t_coder, .int c_t_maybeLatin1, .int c_t_count]))] H := hP.sub [0] rfl
  refine rg_callU (As := []) (rest := []) hcf (c_J5_isLatin1_aae02 l D cyJ cyB adK adV a_t b_t_value_7 c_t_coder c_t_maybeLatin1 c_t_count r11 hc11) (va_cwU 0 hts gJ5_append_3fe6f_J5_isLatin1_aae02_u83J4 rfl rfl rfl rfl (by decide +kernel) ⟨Nat.le_of_ble_eq_true rfl, Nat.le_of_ble_eq_true rfl⟩) ⟨bl_PKT, (va_recv hK hP (ci := 1) (q0 := 0) rfl rfl), pr_PKT hPc hK0 hnw hT hS⟩ rfl hl.1 rfl (Nat.le_of_ble_eq_true rfl) dJ5_append_3fe6f_11 ⟨Nat.le_of_ble_eq_true rfl, Nat.le_of_ble_eq_true rfl⟩ ?_
  refine lv_if_eq (tgt := 45) hx hb dJ5_append_3fe6f_14 (by decide) (fun c14 => ?_) (fun c14 => ?_)
  · have h := it_ c14 h
    cases h
  · have h := if_ c14 h
    refine lv_iload_n hx hb dJ5_append_3fe6f_17 rfl (lv_at hl 1 rfl) ?_
    obtain ⟨r18, hc18, h⟩ := obn_h h
    refine pz_callS (As := [.int p0]) (rest := []) hcf (c_J1_canEncode_fc78d l p0 r18 hc18) (va_cwS 1 hts gJ5_append_3fe6f_J1_canEncode_fc78d rfl rfl rfl ydJ1_canEncode_fc78d ⟨Nat.le_of_ble_eq_true rfl, Nat.le_of_ble_eq_true rfl⟩) hnw rfl hl.1 rfl (Nat.le_of_ble_eq_true rfl) dJ5_append_3fe6f_18 ⟨Nat.le_of_ble_eq_true rfl, Nat.le_of_ble_eq_true rfl⟩ ?_
    refine lv_if_eq (tgt := 45) hx hb dJ5_append_3fe6f_21 (by decide) (fun c21 => ?_) (fun c21 => ?_)
    · have h := it_ c21 h
      cases h
    · have h := if_ c21 h
      refine lv_aload_n hx hb dJ5_append_3fe6f_24 rfl (lv_at hl 0 rfl) ?_
      refine va_get (D := D) (ci := 1) (v := .ref b_t_value_7) (C := RJ4) (T := TJ4) (N := 4) hx hb hts hinJ4 hown hK hP 0 rfl rfl 0 (by decide) hfl15 (fun _ h9 => h9) rfl dJ5_append_3fe6f_25 ?_
      refine lv_aload_n hx hb dJ5_append_3fe6f_28 rfl (lv_at hl 0 rfl) ?_
      refine lv_dup hx hb dJ5_append_3fe6f_29 rfl ?_
      refine va_get (D := D) (ci := 1) (v := .int c_t_count) (C := RJ4) (T := TJ4) (N := 4) hx hb hts hinJ4 hown hK hP 0 rfl rfl 3 (by decide) hfl79 (fun _ h9 => h9) rfl dJ5_append_3fe6f_30 ?_
      refine lv_dup_x1 hx hb dJ5_append_3fe6f_33 rfl rfl ?_
      refine lv_iconst (v := 1) hx hb dJ5_append_3fe6f_34 (by decide) ?_
      refine lv_iadd hx hb dJ5_append_3fe6f_35 ?_
      refine lv_topi (fun c_t_count_36 e_c_t_count_36 => ?_)
      have h := bnd_h e_c_t_count_36 h
      refine va_put (D := D) (ci := 1) (v := .int c_t_count_36) (ty := tyJ4 3) (C := RJ4) (T := TJ4) (N := 4) hx hb hts hinJ4 tyJ4 tyJ4_ok nmJ4 hown hK hP hD hS 0 rfl rfl 3 (by decide) hfl79 (fun _ h9 => h9) rfl (by decide +kernel) rfl rfl (Nat.le_of_ble_eq_true rfl) dJ5_append_3fe6f_36 (fun H locs hP hD hS => ?_)
      have hP : va_P D vwCl [(a_t, .inr (1, [.ref b_t_value_7, .int c_t_coder, .int c_t_maybeLatin1, .int c_t_count_36])), (b_t_value_7, .inl (cyB, n_t_value_7, .inl f_t_value_7))] H := hP
      have hD : va_D A [(a_t, .inr (1, [.ref b_t_value_7, .int c_t_coder, .int c_t_maybeLatin1, .int c_t_count_36])), (b_t_value_7, .inl (cyB, n_t_value_7, .inl f_t_value_7))] := hD
      refine lv_iload_n hx hb dJ5_append_3fe6f_39 rfl (lv_at hl 1 rfl) ?_
      refine lv_i2b (v := p0.toInt8.toInt32) hx hb dJ5_append_3fe6f_40 rfl ?_
      obtain ⟨hq41, h⟩ := chk_h h
      refine va_bast hx hb hK hP hD hS 1 1 rfl rfl hq41 dJ5_append_3fe6f_41 (fun H locs hP hD hS => ?_)
      obtain ⟨f_t_value_41, e_f_t_value_41⟩ : ∃ z, z = upd f_t_value_7 c_t_count.toNatClampNeg (vp_nar .byte p0.toInt8.toInt32) := ⟨_, rfl⟩
      have h := bnd_h e_f_t_value_41 h
      have hP : va_P D vwCl [(a_t, .inr (1, [.ref b_t_value_7, .int c_t_coder, .int c_t_maybeLatin1, .int c_t_count_36])), (b_t_value_7, .inl (cyB, n_t_value_7, .inl f_t_value_41))] H := by rw [e_f_t_value_41]; exact hP
      have hD : va_D A [(a_t, .inr (1, [.ref b_t_value_7, .int c_t_coder, .int c_t_maybeLatin1, .int c_t_count_36])), (b_t_value_7, .inl (cyB, n_t_value_7, .inl f_t_value_41))] := by rw [e_f_t_value_41]; exact hD
      refine lv_goto (tgt := 75) hx hb dJ5_append_3fe6f_42 (by decide) ?_
      refine lv_aload_n hx hb dJ5_append_3fe6f_75 rfl (lv_at hl 0 rfl) ?_
      obtain ⟨e0, e1, e2⟩ := tup3 h
      subst e0
      subst e1
      subst e2
      have hP9 : va_P D vwCl [(a_t, .inr (1, [.ref b_t_value_7, .int c_t_coder, .int c_t_maybeLatin1, .int c_t_count_36])), (b_t_value_7, .inl (cyB, n_t_value_7, .inl f_t_value_41))] H := hP.sub [0, 1] rfl
      have hD9 : va_D A [(a_t, .inr (1, [.ref b_t_value_7, .int c_t_coder, .int c_t_maybeLatin1, .int c_t_count_36])), (b_t_value_7, .inl (cyB, n_t_value_7, .inl f_t_value_41))] := hD.sub [0, 1] (by decide) rfl
      exact W.aret (v := .ref a_t) hx hb hr (Or.inl ⟨_, rfl⟩) (Or.inr ⟨_, rfl⟩) (fun t ht hW => ⟨⟨b_t_value_7, a_t, rfl, trivial, ⟨rfl, wQA_of ht hP9 hD9⟩⟩, hS.F ht⟩) hS.2.2 dJ5_append_3fe6f_76

noncomputable abbrev rmJ4_append_cf468 : Room := { frames := 5, cells := 1, slots := 300, locals := 145 }
theorem ydJ4_append_cf468 : yJ4_append_cf468.cls = RJ4 ∧ yJ4_append_cf468.cls ≠ "java/lang/invoke/MethodHandle" ∧ yJ4_append_cf468.cls ≠ "java/lang/invoke/VarHandle" ∧ (parseMethodDescriptor yJ4_append_cf468.desc).map (fun d => d.parameters.length) = some 1 := by decide +kernel
noncomputable def F_J4_append_cf468 (c_t_coder : Int32) (c_t_count : Int32) (n_t_value : Nat) (f_t_value : Nat → Int32) (p0 : Int32) : Option (Int32 × Nat × (Nat → Int32)) :=
 obn3 (F_J5_append_3fe6f c_t_coder c_t_count n_t_value f_t_value p0) (fun c_t_count_2 n_t_value_2 f_t_value_2 =>
 some (c_t_count_2, n_t_value_2, f_t_value_2))
set_option maxHeartbeats 4000000 in
set_option maxRecDepth 100000 in
theorem c_J4_append_cf468 (l : Launch) (D : va_G) (cyJ cyB : ClassId) (adK adV : Nat → Nat) (sz : Nat) (a_t : Nat) (a_t_value : Nat) (c_t_coder : Int32) (c_t_maybeLatin1 : Int32) (c_t_count : Int32) (n_t_value : Nat) (f_t_value : Nat → Int32) (p0 : Int32) (o_c_t_count : Int32) (o_n_t_value : Nat) (o_f_t_value : Nat → Int32) (hF : F_J4_append_cf468 c_t_coder c_t_count n_t_value f_t_value p0 = some (o_c_t_count, o_n_t_value, o_f_t_value)) : Met l yJ4_append_cf468 wsJ4_append_cf468 rmJ4_append_cf468 (va_Pc [.ref a_t, .int p0] (wPDT D [(cyJ, .long), (cyB, .byte)] [(a_t, .inr (1, [.ref a_t_value, .int c_t_coder, .int c_t_maybeLatin1, .int c_t_count])), (a_t_value, .inl (cyB, n_t_value, .inl f_t_value))] adK adV sz)) (va_Qr (fun (_ : Nat) => True) (fun u r t => r = a_t ∧ wQA D [(a_t, .inr (1, [.ref u, .int c_t_coder, .int c_t_maybeLatin1, .int o_c_t_count])), (u, .inl (cyB, o_n_t_value, .inl o_f_t_value))] (va_A [(a_t, .inr (1, [.ref a_t_value, .int c_t_coder, .int c_t_maybeLatin1, .int c_t_count])), (a_t_value, .inl (cyB, n_t_value, .inl f_t_value))] sz) t) (va_A [(a_t, .inr (1, [.ref a_t_value, .int c_t_coder, .int c_t_maybeLatin1, .int c_t_count])), (a_t_value, .inl (cyB, n_t_value, .inl f_t_value))] sz)) 1 300 (va_A [(a_t, .inr (1, [.ref a_t_value, .int c_t_coder, .int c_t_maybeLatin1, .int c_t_count])), (a_t_value, .inl (cyB, n_t_value, .inl f_t_value))] sz) := by
  refine Met.ofW (cc := cJ4_append_cf468) (maxL := 2) (ret := (some (.object "java/lang/StringBuilder"))) (by decide) rfl ?_
  intro p e s m args below meth c s₁ B hml hv
  obtain ⟨rfl, ⟨⟨hsz, hP, hK, hD0, hnw⟩, hT⟩⟩ := hv
  have hx := B.exec
  have hb := B.bytes
  have hr := B.returns
  have hts := atoms_spec (ws := wsJ4_append_cf468) B.pre
  have hown : s.vm.findClass RJ4 = some m.cls := findClass_of_methodNamed B.named
  have hlocks := B.notSynchronized
  have hcf : CallFix _ _ _ _ _ _ _ _ _ := ⟨hx, hb, hml, hown, hts⟩
  subst hsz
  have hD := hD0.self (sz := s.heap.size)
  generalize hAe : va_A [(a_t, .inr (1, [.ref a_t_value, .int c_t_coder, .int c_t_maybeLatin1, .int c_t_count])), (a_t_value, .inl (cyB, n_t_value, .inl f_t_value))] s.heap.size = A at hD hT ⊢
  have hA : ∀ q : Nat, s.heap.size ≤ q → A q := fun q h => by rw [← hAe]; exact Or.inr h
  have hS : va_S A s.heap s.heap [] := va_S.rf
  have hP : va_P D vwCl [(a_t, .inr (1, [.ref a_t_value, .int c_t_coder, .int c_t_maybeLatin1, .int c_t_count])), (a_t_value, .inl (cyB, n_t_value, .inl f_t_value))] s.heap := hP
  have hK0 := hK
  have hcB : s.vm.findClass "[B" = some cyB := (hK.2 1 _ rfl).2
  have hl := lv_entry ([.ref a_t, .int p0]) (n := 2) (Nat.le_of_ble_eq_true rfl)
  rw [lg_entry_eq]
  generalize (lg_sl ([.ref a_t, .int p0]) ++ List.replicate (2 - (lg_sl ([.ref a_t, .int p0])).length) Slot.unset).toArray = ls at hl ⊢
  have hl : lv_has ls 2 [(0, .ref a_t), (1, .int p0)] := hl
  have h := hF
  clear hF
  unfold F_J4_append_cf468 at h
  refine lv_aload_n hx hb dJ4_append_cf468_0 rfl (lv_at hl 0 rfl) ?_
  refine lv_iload_n hx hb dJ4_append_cf468_1 rfl (lv_at hl 1 rfl) ?_
  obtain ⟨c_t_count_2, n_t_value_2, f_t_value_2, hc2, h⟩ := obn3_h h
  have hPc := hP.sub (ws' := [(a_t, .inr (1, [.ref a_t_value, .int c_t_coder, .int c_t_maybeLatin1, .int c_t_count])), (a_t_value, .inl (cyB, n_t_value, .inl f_t_value))]) [0, 1] rfl
  have hDc := hD.sub (ws' := [(a_t, .inr (1, [.ref a_t_value, .int c_t_coder, .int c_t_maybeLatin1, .int c_t_count])), (a_t_value, .inl (cyB, n_t_value, .inl f_t_value))]) [0, 1] (by decide) rfl
  refine hp_t (wr := []) (va_runSU (hK.1 1 _ rfl).2 (As := [.int p0]) (rest := []) hcf (c_J5_append_3fe6f l D cyJ cyB adK adV s.heap.size a_t a_t_value c_t_coder c_t_maybeLatin1 c_t_count n_t_value f_t_value p0 c_t_count_2 n_t_value_2 f_t_value_2 hc2) (va_cwSU 1 hts gJ4_append_cf468_J5_append_3fe6f_s50 rfl rfl rfl (by decide +kernel) ⟨Nat.le_of_ble_eq_true rfl, Nat.le_of_ble_eq_true rfl⟩) ⟨bl_PDT, (va_recv hK hP (ci := 1) (q0 := 0) rfl rfl), pr_PDT hPc hK0 hDc hnw hT hS (va_free hD hS hA [0, 1] rfl)⟩ rfl rfl hl.1 rfl (lv_room (Nat.le_of_ble_eq_true rfl)) dJ4_append_cf468_2 ⟨Nat.le_of_ble_eq_true rfl, Nat.le_of_ble_eq_true rfl⟩) hP hD hS hA [0, 1] [] rfl rfl (by decide) (by decide) (fun u2 H locs hP hD hS => ?_)
  obtain ⟨b_t_value_2, rfl⟩ : ∃ z : Nat, z = u2 := ⟨_, rfl⟩
  have hP : va_P D vwCl [(a_t, .inr (1, [.ref b_t_value_2, .int c_t_coder, .int c_t_maybeLatin1, .int c_t_count_2])), (b_t_value_2, .inl (cyB, n_t_value_2, .inl f_t_value_2))] H := hP
  have hD : va_D A [(a_t, .inr (1, [.ref b_t_value_2, .int c_t_coder, .int c_t_maybeLatin1, .int c_t_count_2])), (b_t_value_2, .inl (cyB, n_t_value_2, .inl f_t_value_2))] := hD
  refine lv_pop hx hb dJ4_append_cf468_5 rfl ?_
  refine lv_aload_n hx hb dJ4_append_cf468_6 rfl (lv_at hl 0 rfl) ?_
  obtain ⟨e0, e1, e2⟩ := tup3 h
  subst e0
  subst e1
  subst e2
  have hP9 : va_P D vwCl [(a_t, .inr (1, [.ref b_t_value_2, .int c_t_coder, .int c_t_maybeLatin1, .int c_t_count_2])), (b_t_value_2, .inl (cyB, n_t_value_2, .inl f_t_value_2))] H := hP.sub [0, 1] rfl
  have hD9 : va_D A [(a_t, .inr (1, [.ref b_t_value_2, .int c_t_coder, .int c_t_maybeLatin1, .int c_t_count_2])), (b_t_value_2, .inl (cyB, n_t_value_2, .inl f_t_value_2))] := hD.sub [0, 1] (by decide) rfl
  exact W.aret (v := .ref a_t) hx hb hr (Or.inl ⟨_, rfl⟩) (Or.inr ⟨_, rfl⟩) (fun t ht hW => ⟨⟨b_t_value_2, a_t, rfl, trivial, ⟨rfl, wQA_of ht hP9 hD9⟩⟩, hS.F ht⟩) hS.2.2 dJ4_append_cf468_7

noncomputable abbrev rmJ5_length_8abf5 : Room := { frames := 0, cells := 0, slots := 0, locals := 0 }
theorem ydJ5_length_8abf5 : yJ5_length_8abf5.cls = RJ5 ∧ yJ5_length_8abf5.cls ≠ "java/lang/invoke/MethodHandle" ∧ yJ5_length_8abf5.cls ≠ "java/lang/invoke/VarHandle" ∧ (parseMethodDescriptor yJ5_length_8abf5.desc).map (fun d => d.parameters.length) = some 0 := by decide +kernel
noncomputable def F_J5_length_8abf5 (c_t_count : Int32) : Option (Int32) :=
 some c_t_count
set_option maxHeartbeats 4000000 in
set_option maxRecDepth 100000 in
theorem c_J5_length_8abf5 (l : Launch) (D : va_G) (cyJ cyB : ClassId) (a_t : Nat) (a_t_value : Nat) (c_t_coder : Int32) (c_t_maybeLatin1 : Int32) (c_t_count : Int32) (r0 : Int32) (hF : F_J5_length_8abf5 c_t_count = some r0) : Met l yJ5_length_8abf5 wsJ5_length_8abf5 rmJ5_length_8abf5 (va_Pc [.ref a_t] (wPK D [(cyJ, .long), (cyB, .byte)] [(a_t, .inr (1, [.ref a_t_value, .int c_t_coder, .int c_t_maybeLatin1, .int c_t_count]))])) (k2_QcV (.int r0)) 0 0 (fun _ => False) := by
  refine Met.ofW (cc := cJ5_length_8abf5) (maxL := 1) (ret := (some .int)) (by decide) rfl ?_
  intro p e s m args below meth c s₁ B hml hv
  obtain ⟨rfl, hP, hK, hnw⟩ := hv
  have hx := B.exec
  have hb := B.bytes
  have hr := B.returns
  have hts := atoms_spec (ws := wsJ5_length_8abf5) B.pre
  have hown : s.vm.findClass RJ5 = some m.cls := findClass_of_methodNamed B.named
  have hlocks := B.notSynchronized
  have hcf : CallFix _ _ _ _ _ _ _ _ _ := ⟨hx, hb, hml, hown, hts⟩
  have hinJ4 : ∀ w ∈ u_ws RJ4 TJ4 4, w ∈ wsJ5_length_8abf5 := by decide +kernel
  have hfl79 := hts (.fieldLink RJ5 79 "java/lang/AbstractStringBuilder" "count" "I") (by decide +kernel)
  have hK0 := hK
  have hcB : s.vm.findClass "[B" = some cyB := (hK.2 1 _ rfl).2
  have hl := lv_entry ([.ref a_t]) (n := 1) (Nat.le_of_ble_eq_true rfl)
  rw [lg_entry_eq]
  generalize (lg_sl ([.ref a_t]) ++ List.replicate (1 - (lg_sl ([.ref a_t])).length) Slot.unset).toArray = ls at hl ⊢
  have hl : lv_has ls 1 [(0, .ref a_t)] := hl
  have h := hF
  clear hF
  unfold F_J5_length_8abf5 at h
  refine lv_aload_n hx hb dJ5_length_8abf5_0 rfl (lv_at hl 0 rfl) ?_
  refine va_get (D := D) (ci := 1) (v := .int c_t_count) (C := RJ4) (T := TJ4) (N := 4) hx hb hts hinJ4 hown hK hP 0 rfl rfl 3 (by decide) hfl79 (fun _ h9 => h9) rfl dJ5_length_8abf5_1 ?_
  have e1 := Option.some.inj h
  subst e1
  exact W.iret hx hb hr (fun t ht _ => ⟨rfl, ht⟩) no_q dJ5_length_8abf5_4

noncomputable abbrev rmJ4_length_8abf5 : Room := { frames := 1, cells := 0, slots := 0, locals := 20 }
theorem ydJ4_length_8abf5 : yJ4_length_8abf5.cls = RJ4 ∧ yJ4_length_8abf5.cls ≠ "java/lang/invoke/MethodHandle" ∧ yJ4_length_8abf5.cls ≠ "java/lang/invoke/VarHandle" ∧ (parseMethodDescriptor yJ4_length_8abf5.desc).map (fun d => d.parameters.length) = some 0 := by decide +kernel
noncomputable def F_J4_length_8abf5 (c_t_count : Int32) : Option (Int32) :=
 obn (F_J5_length_8abf5 c_t_count) (fun r1 =>
 some r1)
set_option maxHeartbeats 4000000 in
set_option maxRecDepth 100000 in
theorem c_J4_length_8abf5 (l : Launch) (D : va_G) (cyJ cyB : ClassId) (a_t : Nat) (a_t_value : Nat) (c_t_coder : Int32) (c_t_maybeLatin1 : Int32) (c_t_count : Int32) (r0 : Int32) (hF : F_J4_length_8abf5 c_t_count = some r0) : Met l yJ4_length_8abf5 wsJ4_length_8abf5 rmJ4_length_8abf5 (va_Pc [.ref a_t] (wPK D [(cyJ, .long), (cyB, .byte)] [(a_t, .inr (1, [.ref a_t_value, .int c_t_coder, .int c_t_maybeLatin1, .int c_t_count]))])) (k2_QcV (.int r0)) 0 0 (fun _ => False) := by
  refine Met.ofW (cc := cJ4_length_8abf5) (maxL := 1) (ret := (some .int)) (by decide) rfl ?_
  intro p e s m args below meth c s₁ B hml hv
  obtain ⟨rfl, hP, hK, hnw⟩ := hv
  have hx := B.exec
  have hb := B.bytes
  have hr := B.returns
  have hts := atoms_spec (ws := wsJ4_length_8abf5) B.pre
  have hown : s.vm.findClass RJ4 = some m.cls := findClass_of_methodNamed B.named
  have hlocks := B.notSynchronized
  have hcf : CallFix _ _ _ _ _ _ _ _ _ := ⟨hx, hb, hml, hown, hts⟩
  have hK0 := hK
  have hcB : s.vm.findClass "[B" = some cyB := (hK.2 1 _ rfl).2
  have hl := lv_entry ([.ref a_t]) (n := 1) (Nat.le_of_ble_eq_true rfl)
  rw [lg_entry_eq]
  generalize (lg_sl ([.ref a_t]) ++ List.replicate (1 - (lg_sl ([.ref a_t])).length) Slot.unset).toArray = ls at hl ⊢
  have hl : lv_has ls 1 [(0, .ref a_t)] := hl
  have h := hF
  clear hF
  unfold F_J4_length_8abf5 at h
  refine lv_aload_n hx hb dJ4_length_8abf5_0 rfl (lv_at hl 0 rfl) ?_
  obtain ⟨r1, hc1, h⟩ := obn_h h
  have hPc : va_P D vwCl [(a_t, .inr (1, [.ref a_t_value, .int c_t_coder, .int c_t_maybeLatin1, .int c_t_count]))] s.heap := hP.sub [0] rfl
  refine rg_callSU (hK.1 1 _ rfl).2 (As := []) (rest := []) hcf (c_J5_length_8abf5 l D cyJ cyB a_t a_t_value c_t_coder c_t_maybeLatin1 c_t_count r1 hc1) (va_cwSU 0 hts gJ4_length_8abf5_J5_length_8abf5_s343 rfl rfl rfl (by decide +kernel) ⟨Nat.le_of_ble_eq_true rfl, Nat.le_of_ble_eq_true rfl⟩) ⟨bl_PK, (va_recv hK hP (ci := 1) (q0 := 0) rfl rfl), pr_PK hPc hK0 hnw⟩ rfl hl.1 rfl (Nat.le_of_ble_eq_true rfl) dJ4_length_8abf5_1 ⟨Nat.le_of_ble_eq_true rfl, Nat.le_of_ble_eq_true rfl⟩ ?_
  have e1 := Option.some.inj h
  subst e1
  exact W.iret hx hb hr (fun t ht _ => ⟨rfl, ht⟩) no_q dJ4_length_8abf5_4

noncomputable abbrev rmJ6_stringSize_0f7a4 : Room := { frames := 0, cells := 0, slots := 0, locals := 0 }
theorem ydJ6_stringSize_0f7a4 : yJ6_stringSize_0f7a4.cls ≠ "java/lang/invoke/MethodHandle" ∧ yJ6_stringSize_0f7a4.cls ≠ "java/lang/invoke/VarHandle" ∧ (parseMethodDescriptor yJ6_stringSize_0f7a4.desc).map (fun d => d.parameters.length) = some 1 := by decide +kernel
noncomputable def S_J6_stringSize_0f7a4_16 (z0_16 : Int32) (k27 : Int32 → Option (Int32)) (k42 : Unit → Option (Int32)) (ih16 : Int32 → Int32 → Option (Int32)) (y2_16 : Int32) (y3_16 : Int32) : Option (Int32) :=
 (if (10 : Int32) ≤ y3_16 then
 k42 ()
else
 (if z0_16 ≤ y2_16 then
 bnd ((10 : Int32) * y2_16) (fun x2_35 =>
 bnd (y3_16 + 1) (fun x3_36 =>
 ih16 x2_35 x3_36))
else
 k27 y3_16))
noncomputable def F_J6_stringSize_0f7a4 (p0 : Int32) : Option (Int32) :=
 (if p0 < 0 then
 LQ2 (S_J6_stringSize_0f7a4_16 p0 (fun y3_16_27 =>
 some (y3_16_27 + (1 : Int32))) (fun _ =>
 some ((10 : Int32) + (1 : Int32)))) 20000 (-10 : Int32) (1 : Int32)
else
 bnd (-p0) (fun x0_10 =>
 LQ2 (S_J6_stringSize_0f7a4_16 x0_10 (fun y3_16_27 =>
 some (y3_16_27 + (0 : Int32))) (fun _ =>
 some ((10 : Int32) + (0 : Int32)))) 20000 (-10 : Int32) (1 : Int32)))
set_option maxHeartbeats 4000000 in
set_option maxRecDepth 100000 in
theorem c_J6_stringSize_0f7a4 (l : Launch) (p0 : Int32) (r0 : Int32) (hF : F_J6_stringSize_0f7a4 p0 = some r0) : Met l yJ6_stringSize_0f7a4 wsJ6_stringSize_0f7a4 rmJ6_stringSize_0f7a4 (va_Pc [.int p0] NW) (k2_QcV (.int r0)) 0 0 (fun _ => False) := by
  refine Met.ofW (cc := cJ6_stringSize_0f7a4) (maxL := 4) (ret := (some .int)) (by decide) rfl ?_
  intro p e s m args below meth c s₁ B hml hv
  obtain ⟨rfl, hnw⟩ := hv
  have hx := B.exec
  have hb := B.bytes
  have hr := B.returns
  have hts := atoms_spec (ws := wsJ6_stringSize_0f7a4) B.pre
  have hown : s.vm.findClass RJ6 = some m.cls := findClass_of_methodNamed B.named
  have hlocks := B.notSynchronized
  have hcf : CallFix _ _ _ _ _ _ _ _ _ := ⟨hx, hb, hml, hown, hts⟩
  have hl := lv_entry ([.int p0]) (n := 4) (Nat.le_of_ble_eq_true rfl)
  rw [lg_entry_eq]
  generalize (lg_sl ([.int p0]) ++ List.replicate (4 - (lg_sl ([.int p0])).length) Slot.unset).toArray = ls at hl ⊢
  have hl : lv_has ls 4 [(0, .int p0)] := hl
  have h := hF
  clear hF
  unfold F_J6_stringSize_0f7a4 at h
  refine lv_iconst (v := 1) hx hb dJ6_stringSize_0f7a4_0 (by decide) ?_
  refine lv_istore_n (lv' := [(1, .int (1 : Int32)), (0, .int p0)]) hx hb dJ6_stringSize_0f7a4_1 rfl hl (by decide) rfl (fun ls hl => ?_)
  refine lv_iload_n hx hb dJ6_stringSize_0f7a4_2 rfl (lv_at hl 1 rfl) ?_
  refine lv_if_lt (tgt := 11) hx hb dJ6_stringSize_0f7a4_3 (by decide) (fun c3 => ?_) (fun c3 => ?_)
  · have h := it_ c3 h
    refine lv_bipush (v := -10) hx hb dJ6_stringSize_0f7a4_11 (by decide) ?_
    refine lv_istore_n (lv' := [(2, .int (-10 : Int32)), (1, .int (1 : Int32)), (0, .int p0)]) hx hb dJ6_stringSize_0f7a4_13 rfl hl (by decide) rfl (fun ls hl => ?_)
    refine lv_iconst (v := 1) hx hb dJ6_stringSize_0f7a4_14 (by decide) ?_
    refine lv_istore_n (lv' := [(3, .int (1 : Int32)), (2, .int (-10 : Int32)), (1, .int (1 : Int32)), (0, .int p0)]) hx hb dJ6_stringSize_0f7a4_15 rfl hl (by decide) rfl (fun ls hl => ?_)
    refine LQ2_k2 (M := fun (y2_16 : Int32) (y3_16 : Int32) => ∀ (ls : Array Slot), lv_has ls 4 [(0, .int p0), (1, .int (1 : Int32)), (2, .int y2_16), (3, .int y3_16)] → W p l e rmJ6_stringSize_0f7a4 s m ([.int p0] : List Value).toArray below meth c s.heap [] 0 0 (MQ below (k2_QcV (.int r0)) ([.int p0] : List Value).toArray s 0 0 (fun _ => False)) (F0 m 16 ls [])) ?_ _ _ _ h ls (lv_sub hl [3, 2, 1, 0] rfl)
    intro k27 hk27 k42 hk42 ih16 hih16 y2_16 y3_16 h ls hl
    unfold S_J6_stringSize_0f7a4_16 at h
    refine lv_iload_n hx hb dJ6_stringSize_0f7a4_16 rfl (lv_at hl 3 rfl) ?_
    refine lv_bipush (v := 10) hx hb dJ6_stringSize_0f7a4_17 (by decide) ?_
    refine lv_icmp_ge (tgt := 42) hx hb dJ6_stringSize_0f7a4_19 (by decide) (fun c19 => ?_) (fun c19 => ?_)
    · have h := it_ c19 h
      rw [hk42] at h
      refine lv_bipush (v := 10) hx hb dJ6_stringSize_0f7a4_42 (by decide) ?_
      refine lv_iload_n hx hb dJ6_stringSize_0f7a4_44 rfl (lv_at hl 1 rfl) ?_
      refine lv_iadd hx hb dJ6_stringSize_0f7a4_45 ?_
      have e1 := Option.some.inj h
      subst e1
      exact W.iret hx hb hr (fun t ht _ => ⟨rfl, ht⟩) no_q dJ6_stringSize_0f7a4_46
    · have h := if_ c19 h
      refine lv_iload_n hx hb dJ6_stringSize_0f7a4_22 rfl (lv_at hl 0 rfl) ?_
      refine lv_iload_n hx hb dJ6_stringSize_0f7a4_23 rfl (lv_at hl 2 rfl) ?_
      refine lv_icmp_le (tgt := 31) hx hb dJ6_stringSize_0f7a4_24 (by decide) (fun c24 => ?_) (fun c24 => ?_)
      · have h := it_ c24 h
        refine lv_bipush (v := 10) hx hb dJ6_stringSize_0f7a4_31 (by decide) ?_
        refine lv_iload_n hx hb dJ6_stringSize_0f7a4_33 rfl (lv_at hl 2 rfl) ?_
        refine lv_imul hx hb dJ6_stringSize_0f7a4_34 ?_
        refine lv_topi (fun x2_35 e_x2_35 => ?_)
        have h := bnd_h e_x2_35 h
        refine lv_istore_n (lv' := [(2, .int x2_35), (0, .int p0), (1, .int (1 : Int32)), (3, .int y3_16)]) hx hb dJ6_stringSize_0f7a4_35 rfl hl (by decide) rfl (fun ls hl => ?_)
        obtain ⟨x3_36, e_x3_36⟩ : ∃ z : Int32, z = y3_16 + 1 := ⟨_, rfl⟩
        have h := bnd_h e_x3_36 h
        refine lv_iinc (v := x3_36) (lv' := [(3, .int x3_36), (2, .int x2_35), (0, .int p0), (1, .int (1 : Int32))]) hx hb dJ6_stringSize_0f7a4_36 hl (k := 3) rfl (by rw [e_x3_36]; rfl) (by decide) rfl (fun ls hl => ?_)
        refine lv_goto (tgt := 16) hx hb dJ6_stringSize_0f7a4_39 (by decide) ?_
        exact hih16 x2_35 x3_36 h ls (lv_sub hl [2, 3, 1, 0] rfl)
      · have h := if_ c24 h
        rw [hk27] at h
        refine lv_iload_n hx hb dJ6_stringSize_0f7a4_27 rfl (lv_at hl 3 rfl) ?_
        refine lv_iload_n hx hb dJ6_stringSize_0f7a4_28 rfl (lv_at hl 1 rfl) ?_
        refine lv_iadd hx hb dJ6_stringSize_0f7a4_29 ?_
        have e1 := Option.some.inj h
        subst e1
        exact W.iret hx hb hr (fun t ht _ => ⟨rfl, ht⟩) no_q dJ6_stringSize_0f7a4_30
  · have h := if_ c3 h
    refine lv_iconst (v := 0) hx hb dJ6_stringSize_0f7a4_6 (by decide) ?_
    refine lv_istore_n (lv' := [(1, .int (0 : Int32)), (0, .int p0)]) hx hb dJ6_stringSize_0f7a4_7 rfl hl (by decide) rfl (fun ls hl => ?_)
    refine lv_iload_n hx hb dJ6_stringSize_0f7a4_8 rfl (lv_at hl 1 rfl) ?_
    refine lv_ineg hx hb dJ6_stringSize_0f7a4_9 ?_
    refine lv_topi (fun x0_10 e_x0_10 => ?_)
    have h := bnd_h e_x0_10 h
    refine lv_istore_n (lv' := [(0, .int x0_10), (1, .int (0 : Int32))]) hx hb dJ6_stringSize_0f7a4_10 rfl hl (by decide) rfl (fun ls hl => ?_)
    refine lv_bipush (v := -10) hx hb dJ6_stringSize_0f7a4_11 (by decide) ?_
    refine lv_istore_n (lv' := [(2, .int (-10 : Int32)), (0, .int x0_10), (1, .int (0 : Int32))]) hx hb dJ6_stringSize_0f7a4_13 rfl hl (by decide) rfl (fun ls hl => ?_)
    refine lv_iconst (v := 1) hx hb dJ6_stringSize_0f7a4_14 (by decide) ?_
    refine lv_istore_n (lv' := [(3, .int (1 : Int32)), (2, .int (-10 : Int32)), (0, .int x0_10), (1, .int (0 : Int32))]) hx hb dJ6_stringSize_0f7a4_15 rfl hl (by decide) rfl (fun ls hl => ?_)
    refine LQ2_k2 (M := fun (y2_16 : Int32) (y3_16 : Int32) => ∀ (ls : Array Slot), lv_has ls 4 [(0, .int x0_10), (1, .int (0 : Int32)), (2, .int y2_16), (3, .int y3_16)] → W p l e rmJ6_stringSize_0f7a4 s m ([.int p0] : List Value).toArray below meth c s.heap [] 0 0 (MQ below (k2_QcV (.int r0)) ([.int p0] : List Value).toArray s 0 0 (fun _ => False)) (F0 m 16 ls [])) ?_ _ _ _ h ls (lv_sub hl [2, 3, 1, 0] rfl)
    intro k27 hk27 k42 hk42 ih16 hih16 y2_16 y3_16 h ls hl
    unfold S_J6_stringSize_0f7a4_16 at h
    refine lv_iload_n hx hb dJ6_stringSize_0f7a4_16 rfl (lv_at hl 3 rfl) ?_
    refine lv_bipush (v := 10) hx hb dJ6_stringSize_0f7a4_17 (by decide) ?_
    refine lv_icmp_ge (tgt := 42) hx hb dJ6_stringSize_0f7a4_19 (by decide) (fun c19 => ?_) (fun c19 => ?_)
    · have h := it_ c19 h
      rw [hk42] at h
      refine lv_bipush (v := 10) hx hb dJ6_stringSize_0f7a4_42 (by decide) ?_
      refine lv_iload_n hx hb dJ6_stringSize_0f7a4_44 rfl (lv_at hl 1 rfl) ?_
      refine lv_iadd hx hb dJ6_stringSize_0f7a4_45 ?_
      have e1 := Option.some.inj h
      subst e1
      exact W.iret hx hb hr (fun t ht _ => ⟨rfl, ht⟩) no_q dJ6_stringSize_0f7a4_46
    · have h := if_ c19 h
      refine lv_iload_n hx hb dJ6_stringSize_0f7a4_22 rfl (lv_at hl 0 rfl) ?_
      refine lv_iload_n hx hb dJ6_stringSize_0f7a4_23 rfl (lv_at hl 2 rfl) ?_
      refine lv_icmp_le (tgt := 31) hx hb dJ6_stringSize_0f7a4_24 (by decide) (fun c24 => ?_) (fun c24 => ?_)
      · have h := it_ c24 h
        refine lv_bipush (v := 10) hx hb dJ6_stringSize_0f7a4_31 (by decide) ?_
        refine lv_iload_n hx hb dJ6_stringSize_0f7a4_33 rfl (lv_at hl 2 rfl) ?_
        refine lv_imul hx hb dJ6_stringSize_0f7a4_34 ?_
        refine lv_topi (fun x2_35 e_x2_35 => ?_)
        have h := bnd_h e_x2_35 h
        refine lv_istore_n (lv' := [(2, .int x2_35), (0, .int x0_10), (1, .int (0 : Int32)), (3, .int y3_16)]) hx hb dJ6_stringSize_0f7a4_35 rfl hl (by decide) rfl (fun ls hl => ?_)
        obtain ⟨x3_36, e_x3_36⟩ : ∃ z : Int32, z = y3_16 + 1 := ⟨_, rfl⟩
        have h := bnd_h e_x3_36 h
        refine lv_iinc (v := x3_36) (lv' := [(3, .int x3_36), (2, .int x2_35), (0, .int x0_10), (1, .int (0 : Int32))]) hx hb dJ6_stringSize_0f7a4_36 hl (k := 3) rfl (by rw [e_x3_36]; rfl) (by decide) rfl (fun ls hl => ?_)
        refine lv_goto (tgt := 16) hx hb dJ6_stringSize_0f7a4_39 (by decide) ?_
        exact hih16 x2_35 x3_36 h ls (lv_sub hl [2, 3, 1, 0] rfl)
      · have h := if_ c24 h
        rw [hk27] at h
        refine lv_iload_n hx hb dJ6_stringSize_0f7a4_27 rfl (lv_at hl 3 rfl) ?_
        refine lv_iload_n hx hb dJ6_stringSize_0f7a4_28 rfl (lv_at hl 1 rfl) ?_
        refine lv_iadd hx hb dJ6_stringSize_0f7a4_29 ?_
        have e1 := Option.some.inj h
        subst e1
        exact W.iret hx hb hr (fun t ht _ => ⟨rfl, ht⟩) no_q dJ6_stringSize_0f7a4_30

noncomputable abbrev rmJ6_getChars_ba4f3 : Room := { frames := 0, cells := 0, slots := 0, locals := 0 }
theorem ydJ6_getChars_ba4f3 : yJ6_getChars_ba4f3.cls ≠ "java/lang/invoke/MethodHandle" ∧ yJ6_getChars_ba4f3.cls ≠ "java/lang/invoke/VarHandle" ∧ (parseMethodDescriptor yJ6_getChars_ba4f3.desc).map (fun d => d.parameters.length) = some 3 := by decide +kernel
noncomputable def S_J6_getChars_ba4f3_22 (k72 : Int32 → Int32 → Option (Int32 × (Nat → Int32))) (ih22 : Int32 → Int32 → Option (Int32 × (Nat → Int32))) (y0_22 : Int32) (y5_22 : Int32) : Option (Int32 × (Nat → Int32)) :=
 (if (-100 : Int32) < y0_22 then
 k72 y0_22 y5_22
else
 none)
noncomputable def F_J6_getChars_ba4f3 (n_q2 : Nat) (f_q2 : Nat → Int32) (p0 : Int32) (p1 : Int32) : Option (Int32 × (Nat → Int32)) :=
 (if 0 ≤ p0 then
 bnd (-p0) (fun x0_21 =>
 LQ2 (S_J6_getChars_ba4f3_22 (fun y0_22_72 y5_22_72 =>
 bnd (y5_22_72 + (-1)) (fun x5_73 =>
 chk (¬ ((-y0_22_72) < 0 ∨ 100 ≤ (-y0_22_72).toNatClampNeg)) (
 chk (¬ (x5_73 < 0 ∨ n_q2 ≤ x5_73.toNatClampNeg)) (
 bnd (upd f_q2 x5_73.toNatClampNeg (vp_nar .byte (dig1 (-y0_22_72).toNatClampNeg))) (fun f_q2_84 =>
 (if (-9 : Int32) ≤ y0_22_72 then
 some (x5_73, f_q2_84)
else
 bnd (x5_73 + (-1)) (fun x5_92 =>
 chk (¬ ((-y0_22_72) < 0 ∨ 100 ≤ (-y0_22_72).toNatClampNeg)) (
 chk (¬ (x5_92 < 0 ∨ n_q2 ≤ x5_92.toNatClampNeg)) (
 bnd (upd f_q2_84 x5_92.toNatClampNeg (vp_nar .byte (dig2 (-y0_22_72).toNatClampNeg))) (fun f_q2_103 =>
 some (x5_92, f_q2_103)))))))))))) 20000 x0_21 p1)
else
 none)
set_option maxHeartbeats 4000000 in
set_option maxRecDepth 100000 in
theorem c_J6_getChars_ba4f3 (l : Launch) (D : va_G) (cyJ cyB : ClassId) (adK adV : Nat → Nat) (sz : Nat) (a_q2 : Nat) (n_q2 : Nat) (f_q2 : Nat → Int32) (p0 : Int32) (p1 : Int32) (r0 : Int32) (o_f_q2 : Nat → Int32) (hF : F_J6_getChars_ba4f3 n_q2 f_q2 p0 p1 = some (r0, o_f_q2)) : Met l yJ6_getChars_ba4f3 wsJ6_getChars_ba4f3 rmJ6_getChars_ba4f3 (va_Pc [.int p0, .int p1, .ref a_q2] (wPDT D [(cyJ, .long), (cyB, .byte)] [(a_q2, .inl (cyB, n_q2, .inl f_q2))] adK adV sz)) (va_Qi (fun (r : Int32) (_ : Unit) => r = r0) (fun _ t => wQA D [(a_q2, .inl (cyB, n_q2, .inl o_f_q2))] (va_A [(a_q2, .inl (cyB, n_q2, .inl f_q2))] sz) t) (va_A [(a_q2, .inl (cyB, n_q2, .inl f_q2))] sz)) 0 0 (va_A [(a_q2, .inl (cyB, n_q2, .inl f_q2))] sz) := by
  refine Met.ofW (cc := cJ6_getChars_ba4f3) (maxL := 7) (ret := (some .int)) (by decide) rfl ?_
  intro p e s m args below meth c s₁ B hml hv
  obtain ⟨rfl, ⟨⟨hsz, hP, hK, hD0, hnw⟩, hT⟩⟩ := hv
  have hx := B.exec
  have hb := B.bytes
  have hr := B.returns
  have hts := atoms_spec (ws := wsJ6_getChars_ba4f3) B.pre
  have hown : s.vm.findClass RJ6 = some m.cls := findClass_of_methodNamed B.named
  have hlocks := B.notSynchronized
  have hcf : CallFix _ _ _ _ _ _ _ _ _ := ⟨hx, hb, hml, hown, hts⟩
  subst hsz
  have hD := hD0.self (sz := s.heap.size)
  generalize hAe : va_A [(a_q2, .inl (cyB, n_q2, .inl f_q2))] s.heap.size = A at hD hT ⊢
  have hA : ∀ q : Nat, s.heap.size ≤ q → A q := fun q h => by rw [← hAe]; exact Or.inr h
  have hS : va_S A s.heap s.heap [] := va_S.rf
  have hP : va_P D vwCl [(a_q2, .inl (cyB, n_q2, .inl f_q2))] s.heap := hP
  have hK0 := hK
  have hcB : s.vm.findClass "[B" = some cyB := (hK.2 1 _ rfl).2
  obtain ⟨td1, hz1, ht1⟩ := hT.2.2.1.1
  obtain ⟨td2, hz2, ht2⟩ := hT.2.2.1.2
  have hl := lv_entry ([.int p0, .int p1, .ref a_q2]) (n := 7) (Nat.le_of_ble_eq_true rfl)
  rw [lg_entry_eq]
  generalize (lg_sl ([.int p0, .int p1, .ref a_q2]) ++ List.replicate (7 - (lg_sl ([.int p0, .int p1, .ref a_q2])).length) Slot.unset).toArray = ls at hl ⊢
  have hl : lv_has ls 7 [(0, .int p0), (1, .int p1), (2, .ref a_q2)] := hl
  have h := hF
  clear hF
  unfold F_J6_getChars_ba4f3 at h
  refine lv_iload_n hx hb dJ6_getChars_ba4f3_0 rfl (lv_at hl 1 rfl) ?_
  refine lv_istore (lv' := [(5, .int p1), (0, .int p0), (1, .int p1), (2, .ref a_q2)]) hx hb dJ6_getChars_ba4f3_1 hl (by decide) rfl (fun ls hl => ?_)
  refine lv_iload_n hx hb dJ6_getChars_ba4f3_3 rfl (lv_at hl 1 rfl) ?_
  refine lv_if_ge (tgt := 11) hx hb dJ6_getChars_ba4f3_4 (by decide) (fun c4 => ?_) (fun c4 => ?_)
  · have h := it_ c4 h
    refine lv_iconst (v := 0) hx hb dJ6_getChars_ba4f3_11 (by decide) ?_
    refine lv_istore (lv' := [(6, .int (0 : Int32)), (5, .int p1), (0, .int p0), (1, .int p1), (2, .ref a_q2)]) hx hb dJ6_getChars_ba4f3_12 hl (by decide) rfl (fun ls hl => ?_)
    refine lv_iload hx hb dJ6_getChars_ba4f3_14 (lv_at hl 0 rfl) ?_
    refine lv_if_ne (tgt := 22) hx hb dJ6_getChars_ba4f3_16 (by decide) (fun c16 => absurd c16 (by decide)) (fun c16 => ?_)
    refine lv_iload_n hx hb dJ6_getChars_ba4f3_19 rfl (lv_at hl 2 rfl) ?_
    refine lv_ineg hx hb dJ6_getChars_ba4f3_20 ?_
    refine lv_topi (fun x0_21 e_x0_21 => ?_)
    have h := bnd_h e_x0_21 h
    refine lv_istore_n (lv' := [(0, .int x0_21), (6, .int (0 : Int32)), (5, .int p1), (1, .int p1), (2, .ref a_q2)]) hx hb dJ6_getChars_ba4f3_21 rfl hl (by decide) rfl (fun ls hl => ?_)
    refine LQ2_k1 (M := fun (y0_22 : Int32) (y5_22 : Int32) => ∀ (ls : Array Slot), lv_has ls 7 [(0, .int y0_22), (2, .ref a_q2), (5, .int y5_22), (6, .int (0 : Int32))] → W p l e rmJ6_getChars_ba4f3 s m ([.int p0, .int p1, .ref a_q2] : List Value).toArray below meth c s.heap [] 0 0 (MQ below (va_Qi (fun (r : Int32) (_ : Unit) => r = r0) (fun _ t => wQA D [(a_q2, .inl (cyB, n_q2, .inl o_f_q2))] A t) A) ([.int p0, .int p1, .ref a_q2] : List Value).toArray s 0 0 A) (F0 m 22 ls [])) ?_ _ _ _ h ls (lv_sub hl [0, 4, 2, 1] rfl)
    intro k72 hk72 ih22 hih22 y0_22 y5_22 h ls hl
    unfold S_J6_getChars_ba4f3_22 at h
    refine lv_iload_n hx hb dJ6_getChars_ba4f3_22 rfl (lv_at hl 0 rfl) ?_
    refine lv_bipush (v := -100) hx hb dJ6_getChars_ba4f3_23 (by decide) ?_
    refine lv_icmp_gt (tgt := 72) hx hb dJ6_getChars_ba4f3_25 (by decide) (fun c25 => ?_) (fun c25 => ?_)
    · have h := it_ c25 h
      rw [hk72] at h
      refine lv_aload_n hx hb dJ6_getChars_ba4f3_72 rfl (lv_at hl 1 rfl) ?_
      obtain ⟨x5_73, e_x5_73⟩ : ∃ z : Int32, z = y5_22 + (-1) := ⟨_, rfl⟩
      have h := bnd_h e_x5_73 h
      refine lv_iinc (v := x5_73) (lv' := [(5, .int x5_73), (0, .int y0_22), (2, .ref a_q2), (6, .int (0 : Int32))]) hx hb dJ6_getChars_ba4f3_73 hl (k := 2) rfl (by rw [e_x5_73]; rfl) (by decide) rfl (fun ls hl => ?_)
      refine lv_iload hx hb dJ6_getChars_ba4f3_76 (lv_at hl 0 rfl) ?_
      refine va_gets (v := .ref td1) hx hb hz1 hS hown (hts (.fieldLink RJ6 83 "java/lang/Integer" "DigitOnes" "[B") (by decide +kernel)) (fun _ h9 => h9) dJ6_getChars_ba4f3_78 ?_
      refine lv_iload_n hx hb dJ6_getChars_ba4f3_81 rfl (lv_at hl 1 rfl) ?_
      refine lv_ineg hx hb dJ6_getChars_ba4f3_82 ?_
      obtain ⟨hq83, h⟩ := chk_h h
      refine va_tb hx hb ht1 hS hq83 (v := .int (dig1 (-y0_22).toNatClampNeg)) rfl dJ6_getChars_ba4f3_83 ?_
      obtain ⟨hq84, h⟩ := chk_h h
      refine va_bast hx hb hK hP hD hS 0 1 rfl rfl hq84 dJ6_getChars_ba4f3_84 (fun H locs hP hD hS => ?_)
      obtain ⟨f_q2_84, e_f_q2_84⟩ : ∃ z, z = upd f_q2 x5_73.toNatClampNeg (vp_nar .byte (dig1 (-y0_22).toNatClampNeg)) := ⟨_, rfl⟩
      have h := bnd_h e_f_q2_84 h
      have hP : va_P D vwCl [(a_q2, .inl (cyB, n_q2, .inl f_q2_84))] H := by rw [e_f_q2_84]; exact hP
      have hD : va_D A [(a_q2, .inl (cyB, n_q2, .inl f_q2_84))] := by rw [e_f_q2_84]; exact hD
      refine lv_iload_n hx hb dJ6_getChars_ba4f3_85 rfl (lv_at hl 1 rfl) ?_
      refine lv_bipush (v := -9) hx hb dJ6_getChars_ba4f3_86 (by decide) ?_
      refine lv_icmp_ge (tgt := 104) hx hb dJ6_getChars_ba4f3_88 (by decide) (fun c88 => ?_) (fun c88 => ?_)
      · have h := it_ c88 h
        refine lv_iload hx hb dJ6_getChars_ba4f3_104 (lv_at hl 3 rfl) ?_
        refine lv_if_eq (tgt := 118) hx hb dJ6_getChars_ba4f3_106 (by decide) (fun c106 => ?_) (fun c106 => absurd c106 (by decide))
        refine lv_iload hx hb dJ6_getChars_ba4f3_118 (lv_at hl 0 rfl) ?_
        obtain ⟨e0, e1⟩ := tup2 h
        subst e0
        subst e1
        have hP9 : va_P D vwCl [(a_q2, .inl (cyB, n_q2, .inl f_q2_84))] H := hP.sub [0] rfl
        have hD9 : va_D A [(a_q2, .inl (cyB, n_q2, .inl f_q2_84))] := hD.sub [0] (by decide) rfl
        exact W.iret hx hb hr (fun t ht hW => ⟨⟨_, (), rfl, rfl, wQA_of ht hP9 hD9⟩, hS.F ht⟩) hS.2.2 dJ6_getChars_ba4f3_120
      · have h := if_ c88 h
        refine lv_aload_n hx hb dJ6_getChars_ba4f3_91 rfl (lv_at hl 2 rfl) ?_
        obtain ⟨x5_92, e_x5_92⟩ : ∃ z : Int32, z = x5_73 + (-1) := ⟨_, rfl⟩
        have h := bnd_h e_x5_92 h
        refine lv_iinc (v := x5_92) (lv' := [(5, .int x5_92), (0, .int y0_22), (2, .ref a_q2), (6, .int (0 : Int32))]) hx hb dJ6_getChars_ba4f3_92 hl (k := 0) rfl (by rw [e_x5_92]; rfl) (by decide) rfl (fun ls hl => ?_)
        refine lv_iload hx hb dJ6_getChars_ba4f3_95 (lv_at hl 0 rfl) ?_
        refine va_gets (v := .ref td2) hx hb hz2 hS hown (hts (.fieldLink RJ6 87 "java/lang/Integer" "DigitTens" "[B") (by decide +kernel)) (fun _ h9 => h9) dJ6_getChars_ba4f3_97 ?_
        refine lv_iload_n hx hb dJ6_getChars_ba4f3_100 rfl (lv_at hl 1 rfl) ?_
        refine lv_ineg hx hb dJ6_getChars_ba4f3_101 ?_
        obtain ⟨hq102, h⟩ := chk_h h
        refine va_tb hx hb ht2 hS hq102 (v := .int (dig2 (-y0_22).toNatClampNeg)) rfl dJ6_getChars_ba4f3_102 ?_
        obtain ⟨hq103, h⟩ := chk_h h
        refine va_bast hx hb hK hP hD hS 0 1 rfl rfl hq103 dJ6_getChars_ba4f3_103 (fun H locs hP hD hS => ?_)
        obtain ⟨f_q2_103, e_f_q2_103⟩ : ∃ z, z = upd f_q2_84 x5_92.toNatClampNeg (vp_nar .byte (dig2 (-y0_22).toNatClampNeg)) := ⟨_, rfl⟩
        have h := bnd_h e_f_q2_103 h
        have hP : va_P D vwCl [(a_q2, .inl (cyB, n_q2, .inl f_q2_103))] H := by rw [e_f_q2_103]; exact hP
        have hD : va_D A [(a_q2, .inl (cyB, n_q2, .inl f_q2_103))] := by rw [e_f_q2_103]; exact hD
        refine lv_iload hx hb dJ6_getChars_ba4f3_104 (lv_at hl 3 rfl) ?_
        refine lv_if_eq (tgt := 118) hx hb dJ6_getChars_ba4f3_106 (by decide) (fun c106 => ?_) (fun c106 => absurd c106 (by decide))
        refine lv_iload hx hb dJ6_getChars_ba4f3_118 (lv_at hl 0 rfl) ?_
        obtain ⟨e0, e1⟩ := tup2 h
        subst e0
        subst e1
        have hP9 : va_P D vwCl [(a_q2, .inl (cyB, n_q2, .inl f_q2_103))] H := hP.sub [0] rfl
        have hD9 : va_D A [(a_q2, .inl (cyB, n_q2, .inl f_q2_103))] := hD.sub [0] (by decide) rfl
        exact W.iret hx hb hr (fun t ht hW => ⟨⟨_, (), rfl, rfl, wQA_of ht hP9 hD9⟩, hS.F ht⟩) hS.2.2 dJ6_getChars_ba4f3_120
    · have h := if_ c25 h
      cases h
  · have h := if_ c4 h
    cases h

noncomputable abbrev rmJ5_append_c97b9 : Room := { frames := 4, cells := 1, slots := 300, locals := 124 }
theorem ydJ5_append_c97b9 : yJ5_append_c97b9.cls = RJ5 ∧ yJ5_append_c97b9.cls ≠ "java/lang/invoke/MethodHandle" ∧ yJ5_append_c97b9.cls ≠ "java/lang/invoke/VarHandle" ∧ (parseMethodDescriptor yJ5_append_c97b9.desc).map (fun d => d.parameters.length) = some 1 := by decide +kernel
noncomputable def F_J5_append_c97b9 (c_t_coder : Int32) (c_t_count : Int32) (n_t_value : Nat) (f_t_value : Nat → Int32) (p0 : Int32) : Option (Int32 × Nat × (Nat → Int32)) :=
 obn (F_J6_stringSize_0f7a4 p0) (fun r7 =>
 bnd (c_t_count + r7) (fun x3_11 =>
 obn2 (F_J5_ensureCapacityInternal_d00df c_t_coder n_t_value f_t_value x3_11) (fun n_t_value_14 f_t_value_14 =>
 obn (F_J5_isLatin1_aae02 c_t_coder) (fun r18 =>
 (if r18 = 0 then
 none
else
 obn2 (F_J6_getChars_ba4f3 n_t_value_14 f_t_value_14 p0 x3_11) (fun r30 f_t_value_30 =>
 some (x3_11, n_t_value_14, f_t_value_30)))))))
set_option maxHeartbeats 4000000 in
set_option maxRecDepth 100000 in
theorem c_J5_append_c97b9 (l : Launch) (D : va_G) (cyJ cyB : ClassId) (adK adV : Nat → Nat) (sz : Nat) (a_t : Nat) (a_t_value : Nat) (c_t_coder : Int32) (c_t_maybeLatin1 : Int32) (c_t_count : Int32) (n_t_value : Nat) (f_t_value : Nat → Int32) (p0 : Int32) (o_c_t_count : Int32) (o_n_t_value : Nat) (o_f_t_value : Nat → Int32) (hF : F_J5_append_c97b9 c_t_coder c_t_count n_t_value f_t_value p0 = some (o_c_t_count, o_n_t_value, o_f_t_value)) : Met l yJ5_append_c97b9 wsJ5_append_c97b9 rmJ5_append_c97b9 (va_Pc [.ref a_t, .int p0] (wPDT D [(cyJ, .long), (cyB, .byte)] [(a_t, .inr (1, [.ref a_t_value, .int c_t_coder, .int c_t_maybeLatin1, .int c_t_count])), (a_t_value, .inl (cyB, n_t_value, .inl f_t_value))] adK adV sz)) (va_Qr (fun (_ : Nat) => True) (fun u r t => r = a_t ∧ wQA D [(a_t, .inr (1, [.ref u, .int c_t_coder, .int c_t_maybeLatin1, .int o_c_t_count])), (u, .inl (cyB, o_n_t_value, .inl o_f_t_value))] (va_A [(a_t, .inr (1, [.ref a_t_value, .int c_t_coder, .int c_t_maybeLatin1, .int c_t_count])), (a_t_value, .inl (cyB, n_t_value, .inl f_t_value))] sz) t) (va_A [(a_t, .inr (1, [.ref a_t_value, .int c_t_coder, .int c_t_maybeLatin1, .int c_t_count])), (a_t_value, .inl (cyB, n_t_value, .inl f_t_value))] sz)) 1 300 (va_A [(a_t, .inr (1, [.ref a_t_value, .int c_t_coder, .int c_t_maybeLatin1, .int c_t_count])), (a_t_value, .inl (cyB, n_t_value, .inl f_t_value))] sz) := by
  refine Met.ofW (cc := cJ5_append_c97b9) (maxL := 4) (ret := (some (.object "java/lang/AbstractStringBuilder"))) (by decide) rfl ?_
  intro p e s m args below meth c s₁ B hml hv
  obtain ⟨rfl, ⟨⟨hsz, hP, hK, hD0, hnw⟩, hT⟩⟩ := hv
  have hx := B.exec
  have hb := B.bytes
  have hr := B.returns
  have hts := atoms_spec (ws := wsJ5_append_c97b9) B.pre
  have hown : s.vm.findClass RJ5 = some m.cls := findClass_of_methodNamed B.named
  have hlocks := B.notSynchronized
  have hcf : CallFix _ _ _ _ _ _ _ _ _ := ⟨hx, hb, hml, hown, hts⟩
  have hinJ4 : ∀ w ∈ u_ws RJ4 TJ4 4, w ∈ wsJ5_append_c97b9 := by decide +kernel
  have hfl79 := hts (.fieldLink RJ5 79 "java/lang/AbstractStringBuilder" "count" "I") (by decide +kernel)
  have hfl15 := hts (.fieldLink RJ5 15 "java/lang/AbstractStringBuilder" "value" "[B") (by decide +kernel)
  subst hsz
  have hD := hD0.self (sz := s.heap.size)
  generalize hAe : va_A [(a_t, .inr (1, [.ref a_t_value, .int c_t_coder, .int c_t_maybeLatin1, .int c_t_count])), (a_t_value, .inl (cyB, n_t_value, .inl f_t_value))] s.heap.size = A at hD hT ⊢
  have hA : ∀ q : Nat, s.heap.size ≤ q → A q := fun q h => by rw [← hAe]; exact Or.inr h
  have hS : va_S A s.heap s.heap [] := va_S.rf
  have hP : va_P D vwCl [(a_t, .inr (1, [.ref a_t_value, .int c_t_coder, .int c_t_maybeLatin1, .int c_t_count])), (a_t_value, .inl (cyB, n_t_value, .inl f_t_value))] s.heap := hP
  have hK0 := hK
  have hcB : s.vm.findClass "[B" = some cyB := (hK.2 1 _ rfl).2
  have hl := lv_entry ([.ref a_t, .int p0]) (n := 4) (Nat.le_of_ble_eq_true rfl)
  rw [lg_entry_eq]
  generalize (lg_sl ([.ref a_t, .int p0]) ++ List.replicate (4 - (lg_sl ([.ref a_t, .int p0])).length) Slot.unset).toArray = ls at hl ⊢
  have hl : lv_has ls 4 [(0, .ref a_t), (1, .int p0)] := hl
  have h := hF
  clear hF
  unfold F_J5_append_c97b9 at h
  refine lv_aload_n hx hb dJ5_append_c97b9_0 rfl (lv_at hl 0 rfl) ?_
  refine va_get (D := D) (ci := 1) (v := .int c_t_count) (C := RJ4) (T := TJ4) (N := 4) hx hb hts hinJ4 hown hK hP 0 rfl rfl 3 (by decide) hfl79 (fun _ h9 => h9) rfl dJ5_append_c97b9_1 ?_
  refine lv_istore_n (lv' := [(2, .int c_t_count), (0, .ref a_t), (1, .int p0)]) hx hb dJ5_append_c97b9_4 rfl hl (by decide) rfl (fun ls hl => ?_)
  refine lv_iload_n hx hb dJ5_append_c97b9_5 rfl (lv_at hl 0 rfl) ?_
  refine lv_iload_n hx hb dJ5_append_c97b9_6 rfl (lv_at hl 2 rfl) ?_
  obtain ⟨r7, hc7, h⟩ := obn_h h
  refine pz_callS (As := [.int p0]) (rest := [.int c_t_count]) hcf (c_J6_stringSize_0f7a4 l p0 r7 hc7) (va_cwS 1 hts gJ5_append_c97b9_J6_stringSize_0f7a4 rfl rfl rfl ydJ6_stringSize_0f7a4 ⟨Nat.le_of_ble_eq_true rfl, Nat.le_of_ble_eq_true rfl⟩) hnw rfl hl.1 rfl (Nat.le_of_ble_eq_true rfl) dJ5_append_c97b9_7 ⟨Nat.le_of_ble_eq_true rfl, Nat.le_of_ble_eq_true rfl⟩ ?_
  refine lv_iadd hx hb dJ5_append_c97b9_10 ?_
  refine lv_topi (fun x3_11 e_x3_11 => ?_)
  have h := bnd_h e_x3_11 h
  refine lv_istore_n (lv' := [(3, .int x3_11), (2, .int c_t_count), (0, .ref a_t), (1, .int p0)]) hx hb dJ5_append_c97b9_11 rfl hl (by decide) rfl (fun ls hl => ?_)
  refine lv_aload_n hx hb dJ5_append_c97b9_12 rfl (lv_at hl 2 rfl) ?_
  refine lv_iload_n hx hb dJ5_append_c97b9_13 rfl (lv_at hl 0 rfl) ?_
  obtain ⟨n_t_value_14, f_t_value_14, hc14, h⟩ := obn2_h h
  have hPc := hP.sub (ws' := [(a_t, .inr (1, [.ref a_t_value, .int c_t_coder, .int c_t_maybeLatin1, .int c_t_count])), (a_t_value, .inl (cyB, n_t_value, .inl f_t_value))]) [0, 1] rfl
  have hDc := hD.sub (ws' := [(a_t, .inr (1, [.ref a_t_value, .int c_t_coder, .int c_t_maybeLatin1, .int c_t_count])), (a_t_value, .inl (cyB, n_t_value, .inl f_t_value))]) [0, 1] (by decide) rfl
  refine hp_n (wr := []) (va_runU (As := [.int x3_11]) (rest := []) hcf (c_J5_ensureCapacityInternal_d00df l D cyJ cyB s.heap.size a_t a_t_value c_t_coder c_t_maybeLatin1 c_t_count n_t_value f_t_value x3_11 n_t_value_14 f_t_value_14 hc14) (va_cwU 1 hts gJ5_append_c97b9_J5_ensureCapacityInternal_d00df_u100J4 rfl rfl rfl rfl (by decide +kernel) ⟨Nat.le_of_ble_eq_true rfl, Nat.le_of_ble_eq_true rfl⟩) ⟨bl_PD, (va_recv hK hP (ci := 1) (q0 := 0) rfl rfl), pr_PD hPc hK0 hDc hnw ⟩ rfl rfl hl.1 rfl (lv_room (Nat.le_of_ble_eq_true rfl)) dJ5_append_c97b9_14 ⟨Nat.le_of_ble_eq_true rfl, Nat.le_of_ble_eq_true rfl⟩) hP hD hS hA [0, 1] [] rfl rfl (by decide) (by decide) (fun u14 H locs hP hD hS => ?_)
  obtain ⟨b_t_value_14, rfl⟩ : ∃ z : Nat, z = u14 := ⟨_, rfl⟩
  have hP : va_P D vwCl [(a_t, .inr (1, [.ref b_t_value_14, .int c_t_coder, .int c_t_maybeLatin1, .int c_t_count])), (b_t_value_14, .inl (cyB, n_t_value_14, .inl f_t_value_14))] H := hP
  have hD : va_D A [(a_t, .inr (1, [.ref b_t_value_14, .int c_t_coder, .int c_t_maybeLatin1, .int c_t_count])), (b_t_value_14, .inl (cyB, n_t_value_14, .inl f_t_value_14))] := hD
  refine lv_aload_n hx hb dJ5_append_c97b9_17 rfl (lv_at hl 2 rfl) ?_
  obtain ⟨r18, hc18, h⟩ := obn_h h
  have hPc : va_P D vwCl [(a_t, .inr (1, [.ref b_t_value_14, .int c_t_coder, .int c_t_maybeLatin1, .int c_t_count]))] H := hP.sub [0] rfl
  refine rg_callU (As := []) (rest := []) hcf (c_J5_isLatin1_aae02 l D cyJ cyB adK adV a_t b_t_value_14 c_t_coder c_t_maybeLatin1 c_t_count r18 hc18) (va_cwU 0 hts gJ5_append_c97b9_J5_isLatin1_aae02_u83J4 rfl rfl rfl rfl (by decide +kernel) ⟨Nat.le_of_ble_eq_true rfl, Nat.le_of_ble_eq_true rfl⟩) ⟨bl_PKT, (va_recv hK hP (ci := 1) (q0 := 0) rfl rfl), pr_PKT hPc hK0 hnw hT hS⟩ rfl hl.1 rfl (Nat.le_of_ble_eq_true rfl) dJ5_append_c97b9_18 ⟨Nat.le_of_ble_eq_true rfl, Nat.le_of_ble_eq_true rfl⟩ ?_
  refine lv_if_eq (tgt := 37) hx hb dJ5_append_c97b9_21 (by decide) (fun c21 => ?_) (fun c21 => ?_)
  · have h := it_ c21 h
    cases h
  · have h := if_ c21 h
    refine lv_iload_n hx hb dJ5_append_c97b9_24 rfl (lv_at hl 3 rfl) ?_
    refine lv_iload_n hx hb dJ5_append_c97b9_25 rfl (lv_at hl 0 rfl) ?_
    refine lv_aload_n hx hb dJ5_append_c97b9_26 rfl (lv_at hl 2 rfl) ?_
    refine va_get (D := D) (ci := 1) (v := .ref b_t_value_14) (C := RJ4) (T := TJ4) (N := 4) hx hb hts hinJ4 hown hK hP 0 rfl rfl 0 (by decide) hfl15 (fun _ h9 => h9) rfl dJ5_append_c97b9_27 ?_
    obtain ⟨r30, f_t_value_30, hc30, h⟩ := obn2_h h
    have hPc := hP.sub (ws' := [(b_t_value_14, .inl (cyB, n_t_value_14, .inl f_t_value_14))]) [1] rfl
    have hDc := hD.sub (ws' := [(b_t_value_14, .inl (cyB, n_t_value_14, .inl f_t_value_14))]) [1] (by decide) rfl
    refine hp_i (w1 := [(b_t_value_14, .inl (cyB, n_t_value_14, .inl f_t_value_30))]) (wr := [(a_t, .inr (1, [.ref b_t_value_14, .int c_t_coder, .int c_t_maybeLatin1, .int c_t_count]))]) (va_runS (As := [.int p0, .int x3_11, .ref b_t_value_14]) (rest := []) hcf (c_J6_getChars_ba4f3 l D cyJ cyB adK adV H.size b_t_value_14 n_t_value_14 f_t_value_14 p0 x3_11 r30 f_t_value_30 hc30) (va_cwS 3 hts gJ5_append_c97b9_J6_getChars_ba4f3 rfl rfl rfl ydJ6_getChars_ba4f3 ⟨Nat.le_of_ble_eq_true rfl, Nat.le_of_ble_eq_true rfl⟩) ⟨bl_PDT, pr_PDT hPc hK0 hDc hnw hT hS (va_free hD hS hA [1] rfl)⟩ rfl rfl hl.1 rfl (lv_room (Nat.le_of_ble_eq_true rfl)) dJ5_append_c97b9_30 ⟨Nat.le_of_ble_eq_true rfl, Nat.le_of_ble_eq_true rfl⟩) hP hD hS hA [1] [0] rfl rfl (by decide) (by decide) (fun H locs hP hD hS => ?_)
    have hP : va_P D vwCl [(a_t, .inr (1, [.ref b_t_value_14, .int c_t_coder, .int c_t_maybeLatin1, .int c_t_count])), (b_t_value_14, .inl (cyB, n_t_value_14, .inl f_t_value_30))] H := hP
    have hD : va_D A [(a_t, .inr (1, [.ref b_t_value_14, .int c_t_coder, .int c_t_maybeLatin1, .int c_t_count])), (b_t_value_14, .inl (cyB, n_t_value_14, .inl f_t_value_30))] := hD
    refine lv_pop hx hb dJ5_append_c97b9_33 rfl ?_
    refine lv_goto (tgt := 48) hx hb dJ5_append_c97b9_34 (by decide) ?_
    refine lv_aload_n hx hb dJ5_append_c97b9_48 rfl (lv_at hl 2 rfl) ?_
    refine lv_iload_n hx hb dJ5_append_c97b9_49 rfl (lv_at hl 0 rfl) ?_
    refine va_put (D := D) (ci := 1) (v := .int x3_11) (ty := tyJ4 3) (C := RJ4) (T := TJ4) (N := 4) hx hb hts hinJ4 tyJ4 tyJ4_ok nmJ4 hown hK hP hD hS 0 rfl rfl 3 (by decide) hfl79 (fun _ h9 => h9) rfl (by decide +kernel) rfl rfl (Nat.le_of_ble_eq_true rfl) dJ5_append_c97b9_50 (fun H locs hP hD hS => ?_)
    have hP : va_P D vwCl [(a_t, .inr (1, [.ref b_t_value_14, .int c_t_coder, .int c_t_maybeLatin1, .int x3_11])), (b_t_value_14, .inl (cyB, n_t_value_14, .inl f_t_value_30))] H := hP
    have hD : va_D A [(a_t, .inr (1, [.ref b_t_value_14, .int c_t_coder, .int c_t_maybeLatin1, .int x3_11])), (b_t_value_14, .inl (cyB, n_t_value_14, .inl f_t_value_30))] := hD
    refine lv_aload_n hx hb dJ5_append_c97b9_53 rfl (lv_at hl 2 rfl) ?_
    obtain ⟨e0, e1, e2⟩ := tup3 h
    subst e0
    subst e1
    subst e2
    have hP9 : va_P D vwCl [(a_t, .inr (1, [.ref b_t_value_14, .int c_t_coder, .int c_t_maybeLatin1, .int x3_11])), (b_t_value_14, .inl (cyB, n_t_value_14, .inl f_t_value_30))] H := hP.sub [0, 1] rfl
    have hD9 : va_D A [(a_t, .inr (1, [.ref b_t_value_14, .int c_t_coder, .int c_t_maybeLatin1, .int x3_11])), (b_t_value_14, .inl (cyB, n_t_value_14, .inl f_t_value_30))] := hD.sub [0, 1] (by decide) rfl
    exact W.aret (v := .ref a_t) hx hb hr (Or.inl ⟨_, rfl⟩) (Or.inr ⟨_, rfl⟩) (fun t ht hW => ⟨⟨b_t_value_14, a_t, rfl, trivial, ⟨rfl, wQA_of ht hP9 hD9⟩⟩, hS.F ht⟩) hS.2.2 dJ5_append_c97b9_54

noncomputable abbrev rmJ4_append_bf812 : Room := { frames := 5, cells := 1, slots := 300, locals := 147 }
theorem ydJ4_append_bf812 : yJ4_append_bf812.cls = RJ4 ∧ yJ4_append_bf812.cls ≠ "java/lang/invoke/MethodHandle" ∧ yJ4_append_bf812.cls ≠ "java/lang/invoke/VarHandle" ∧ (parseMethodDescriptor yJ4_append_bf812.desc).map (fun d => d.parameters.length) = some 1 := by decide +kernel
noncomputable def F_J4_append_bf812 (c_t_coder : Int32) (c_t_count : Int32) (n_t_value : Nat) (f_t_value : Nat → Int32) (p0 : Int32) : Option (Int32 × Nat × (Nat → Int32)) :=
 obn3 (F_J5_append_c97b9 c_t_coder c_t_count n_t_value f_t_value p0) (fun c_t_count_2 n_t_value_2 f_t_value_2 =>
 some (c_t_count_2, n_t_value_2, f_t_value_2))
set_option maxHeartbeats 4000000 in
set_option maxRecDepth 100000 in
theorem c_J4_append_bf812 (l : Launch) (D : va_G) (cyJ cyB : ClassId) (adK adV : Nat → Nat) (sz : Nat) (a_t : Nat) (a_t_value : Nat) (c_t_coder : Int32) (c_t_maybeLatin1 : Int32) (c_t_count : Int32) (n_t_value : Nat) (f_t_value : Nat → Int32) (p0 : Int32) (o_c_t_count : Int32) (o_n_t_value : Nat) (o_f_t_value : Nat → Int32) (hF : F_J4_append_bf812 c_t_coder c_t_count n_t_value f_t_value p0 = some (o_c_t_count, o_n_t_value, o_f_t_value)) : Met l yJ4_append_bf812 wsJ4_append_bf812 rmJ4_append_bf812 (va_Pc [.ref a_t, .int p0] (wPDT D [(cyJ, .long), (cyB, .byte)] [(a_t, .inr (1, [.ref a_t_value, .int c_t_coder, .int c_t_maybeLatin1, .int c_t_count])), (a_t_value, .inl (cyB, n_t_value, .inl f_t_value))] adK adV sz)) (va_Qr (fun (_ : Nat) => True) (fun u r t => r = a_t ∧ wQA D [(a_t, .inr (1, [.ref u, .int c_t_coder, .int c_t_maybeLatin1, .int o_c_t_count])), (u, .inl (cyB, o_n_t_value, .inl o_f_t_value))] (va_A [(a_t, .inr (1, [.ref a_t_value, .int c_t_coder, .int c_t_maybeLatin1, .int c_t_count])), (a_t_value, .inl (cyB, n_t_value, .inl f_t_value))] sz) t) (va_A [(a_t, .inr (1, [.ref a_t_value, .int c_t_coder, .int c_t_maybeLatin1, .int c_t_count])), (a_t_value, .inl (cyB, n_t_value, .inl f_t_value))] sz)) 1 300 (va_A [(a_t, .inr (1, [.ref a_t_value, .int c_t_coder, .int c_t_maybeLatin1, .int c_t_count])), (a_t_value, .inl (cyB, n_t_value, .inl f_t_value))] sz) := by
  refine Met.ofW (cc := cJ4_append_bf812) (maxL := 2) (ret := (some (.object "java/lang/StringBuilder"))) (by decide) rfl ?_
  intro p e s m args below meth c s₁ B hml hv
  obtain ⟨rfl, ⟨⟨hsz, hP, hK, hD0, hnw⟩, hT⟩⟩ := hv
  have hx := B.exec
  have hb := B.bytes
  have hr := B.returns
  have hts := atoms_spec (ws := wsJ4_append_bf812) B.pre
  have hown : s.vm.findClass RJ4 = some m.cls := findClass_of_methodNamed B.named
  have hlocks := B.notSynchronized
  have hcf : CallFix _ _ _ _ _ _ _ _ _ := ⟨hx, hb, hml, hown, hts⟩
  subst hsz
  have hD := hD0.self (sz := s.heap.size)
  generalize hAe : va_A [(a_t, .inr (1, [.ref a_t_value, .int c_t_coder, .int c_t_maybeLatin1, .int c_t_count])), (a_t_value, .inl (cyB, n_t_value, .inl f_t_value))] s.heap.size = A at hD hT ⊢
  have hA : ∀ q : Nat, s.heap.size ≤ q → A q := fun q h => by rw [← hAe]; exact Or.inr h
  have hS : va_S A s.heap s.heap [] := va_S.rf
  have hP : va_P D vwCl [(a_t, .inr (1, [.ref a_t_value, .int c_t_coder, .int c_t_maybeLatin1, .int c_t_count])), (a_t_value, .inl (cyB, n_t_value, .inl f_t_value))] s.heap := hP
  have hK0 := hK
  have hcB : s.vm.findClass "[B" = some cyB := (hK.2 1 _ rfl).2
  have hl := lv_entry ([.ref a_t, .int p0]) (n := 2) (Nat.le_of_ble_eq_true rfl)
  rw [lg_entry_eq]
  generalize (lg_sl ([.ref a_t, .int p0]) ++ List.replicate (2 - (lg_sl ([.ref a_t, .int p0])).length) Slot.unset).toArray = ls at hl ⊢
  have hl : lv_has ls 2 [(0, .ref a_t), (1, .int p0)] := hl
  have h := hF
  clear hF
  unfold F_J4_append_bf812 at h
  refine lv_aload_n hx hb dJ4_append_bf812_0 rfl (lv_at hl 0 rfl) ?_
  refine lv_iload_n hx hb dJ4_append_bf812_1 rfl (lv_at hl 1 rfl) ?_
  obtain ⟨c_t_count_2, n_t_value_2, f_t_value_2, hc2, h⟩ := obn3_h h
  have hPc := hP.sub (ws' := [(a_t, .inr (1, [.ref a_t_value, .int c_t_coder, .int c_t_maybeLatin1, .int c_t_count])), (a_t_value, .inl (cyB, n_t_value, .inl f_t_value))]) [0, 1] rfl
  have hDc := hD.sub (ws' := [(a_t, .inr (1, [.ref a_t_value, .int c_t_coder, .int c_t_maybeLatin1, .int c_t_count])), (a_t_value, .inl (cyB, n_t_value, .inl f_t_value))]) [0, 1] (by decide) rfl
  refine hp_t (wr := []) (va_runSU (hK.1 1 _ rfl).2 (As := [.int p0]) (rest := []) hcf (c_J5_append_c97b9 l D cyJ cyB adK adV s.heap.size a_t a_t_value c_t_coder c_t_maybeLatin1 c_t_count n_t_value f_t_value p0 c_t_count_2 n_t_value_2 f_t_value_2 hc2) (va_cwSU 1 hts gJ4_append_bf812_J5_append_c97b9_s53 rfl rfl rfl (by decide +kernel) ⟨Nat.le_of_ble_eq_true rfl, Nat.le_of_ble_eq_true rfl⟩) ⟨bl_PDT, (va_recv hK hP (ci := 1) (q0 := 0) rfl rfl), pr_PDT hPc hK0 hDc hnw hT hS (va_free hD hS hA [0, 1] rfl)⟩ rfl rfl hl.1 rfl (lv_room (Nat.le_of_ble_eq_true rfl)) dJ4_append_bf812_2 ⟨Nat.le_of_ble_eq_true rfl, Nat.le_of_ble_eq_true rfl⟩) hP hD hS hA [0, 1] [] rfl rfl (by decide) (by decide) (fun u2 H locs hP hD hS => ?_)
  obtain ⟨b_t_value_2, rfl⟩ : ∃ z : Nat, z = u2 := ⟨_, rfl⟩
  have hP : va_P D vwCl [(a_t, .inr (1, [.ref b_t_value_2, .int c_t_coder, .int c_t_maybeLatin1, .int c_t_count_2])), (b_t_value_2, .inl (cyB, n_t_value_2, .inl f_t_value_2))] H := hP
  have hD : va_D A [(a_t, .inr (1, [.ref b_t_value_2, .int c_t_coder, .int c_t_maybeLatin1, .int c_t_count_2])), (b_t_value_2, .inl (cyB, n_t_value_2, .inl f_t_value_2))] := hD
  refine lv_pop hx hb dJ4_append_bf812_5 rfl ?_
  refine lv_aload_n hx hb dJ4_append_bf812_6 rfl (lv_at hl 0 rfl) ?_
  obtain ⟨e0, e1, e2⟩ := tup3 h
  subst e0
  subst e1
  subst e2
  have hP9 : va_P D vwCl [(a_t, .inr (1, [.ref b_t_value_2, .int c_t_coder, .int c_t_maybeLatin1, .int c_t_count_2])), (b_t_value_2, .inl (cyB, n_t_value_2, .inl f_t_value_2))] H := hP.sub [0, 1] rfl
  have hD9 : va_D A [(a_t, .inr (1, [.ref b_t_value_2, .int c_t_coder, .int c_t_maybeLatin1, .int c_t_count_2])), (b_t_value_2, .inl (cyB, n_t_value_2, .inl f_t_value_2))] := hD.sub [0, 1] (by decide) rfl
  exact W.aret (v := .ref a_t) hx hb hr (Or.inl ⟨_, rfl⟩) (Or.inr ⟨_, rfl⟩) (fun t ht hW => ⟨⟨b_t_value_2, a_t, rfl, trivial, ⟨rfl, wQA_of ht hP9 hD9⟩⟩, hS.F ht⟩) hS.2.2 dJ4_append_bf812_7

noncomputable abbrev rmJ5_getValue_6d5f1 : Room := { frames := 0, cells := 0, slots := 0, locals := 0 }
theorem ydJ5_getValue_6d5f1 : yJ5_getValue_6d5f1.cls = RJ5 ∧ yJ5_getValue_6d5f1.cls ≠ "java/lang/invoke/MethodHandle" ∧ yJ5_getValue_6d5f1.cls ≠ "java/lang/invoke/VarHandle" ∧ (parseMethodDescriptor yJ5_getValue_6d5f1.desc).map (fun d => d.parameters.length) = some 0 := by decide +kernel
noncomputable def F_J5_getValue_6d5f1 : Option (Unit) :=
 some ()
set_option maxHeartbeats 4000000 in
set_option maxRecDepth 100000 in
theorem c_J5_getValue_6d5f1 (l : Launch) (D : va_G) (cyJ cyB : ClassId) (a_t : Nat) (a_t_value : Nat) (c_t_coder : Int32) (c_t_maybeLatin1 : Int32) (c_t_count : Int32) (hF : F_J5_getValue_6d5f1 = some ()) : Met l yJ5_getValue_6d5f1 wsJ5_getValue_6d5f1 rmJ5_getValue_6d5f1 (va_Pc [.ref a_t] (wPK D [(cyJ, .long), (cyB, .byte)] [(a_t, .inr (1, [.ref a_t_value, .int c_t_coder, .int c_t_maybeLatin1, .int c_t_count]))])) (k2_QcV (.ref a_t_value)) 0 0 (fun _ => False) := by
  refine Met.ofW (cc := cJ5_getValue_6d5f1) (maxL := 1) (ret := (some (.array .byte))) (by decide) rfl ?_
  intro p e s m args below meth c s₁ B hml hv
  obtain ⟨rfl, hP, hK, hnw⟩ := hv
  have hx := B.exec
  have hb := B.bytes
  have hr := B.returns
  have hts := atoms_spec (ws := wsJ5_getValue_6d5f1) B.pre
  have hown : s.vm.findClass RJ5 = some m.cls := findClass_of_methodNamed B.named
  have hlocks := B.notSynchronized
  have hcf : CallFix _ _ _ _ _ _ _ _ _ := ⟨hx, hb, hml, hown, hts⟩
  have hinJ4 : ∀ w ∈ u_ws RJ4 TJ4 4, w ∈ wsJ5_getValue_6d5f1 := by decide +kernel
  have hfl15 := hts (.fieldLink RJ5 15 "java/lang/AbstractStringBuilder" "value" "[B") (by decide +kernel)
  have hK0 := hK
  have hcB : s.vm.findClass "[B" = some cyB := (hK.2 1 _ rfl).2
  have hl := lv_entry ([.ref a_t]) (n := 1) (Nat.le_of_ble_eq_true rfl)
  rw [lg_entry_eq]
  generalize (lg_sl ([.ref a_t]) ++ List.replicate (1 - (lg_sl ([.ref a_t])).length) Slot.unset).toArray = ls at hl ⊢
  have hl : lv_has ls 1 [(0, .ref a_t)] := hl
  have h := hF
  clear hF
  unfold F_J5_getValue_6d5f1 at h
  refine lv_aload_n hx hb dJ5_getValue_6d5f1_0 rfl (lv_at hl 0 rfl) ?_
  refine va_get (D := D) (ci := 1) (v := .ref a_t_value) (C := RJ4) (T := TJ4) (N := 4) hx hb hts hinJ4 hown hK hP 0 rfl rfl 0 (by decide) hfl15 (fun _ h9 => h9) rfl dJ5_getValue_6d5f1_1 ?_
  exact W.aret hx hb hr (Or.inr ⟨_, rfl⟩) (Or.inr ⟨_, rfl⟩) (fun t ht _ => ⟨rfl, ht⟩) no_q dJ5_getValue_6d5f1_4

noncomputable abbrev rmJ7_checkLength_df160 : Room := { frames := 0, cells := 0, slots := 0, locals := 0 }
theorem ydJ7_checkLength_df160 : yJ7_checkLength_df160.cls ≠ "java/lang/invoke/MethodHandle" ∧ yJ7_checkLength_df160.cls ≠ "java/lang/invoke/VarHandle" ∧ (parseMethodDescriptor yJ7_checkLength_df160.desc).map (fun d => d.parameters.length) = some 2 := by decide +kernel
noncomputable def F_J7_checkLength_df160 (p0 : Int32) (p1 : Int32) : Option (Unit) :=
 (if p0 ≤ p1 then
 some ()
else
 none)
set_option maxHeartbeats 4000000 in
set_option maxRecDepth 100000 in
theorem c_J7_checkLength_df160 (l : Launch) (D : va_G) (cyJ cyB : ClassId) (sz : Nat) (p0 : Int32) (p1 : Int32) (hF : F_J7_checkLength_df160 p0 p1 = some ()) : Met l yJ7_checkLength_df160 wsJ7_checkLength_df160 rmJ7_checkLength_df160 (va_Pc [.int p0, .int p1] (wPD D [(cyJ, .long), (cyB, .byte)] [] sz)) (va_Qv (fun (_ : Unit) => True) (fun _ t => wQA D [] (va_A [] sz) t) (va_A [] sz)) 0 0 (va_A [] sz) := by
  refine Met.ofW (cc := cJ7_checkLength_df160) (maxL := 2) (ret := none) (by decide) rfl ?_
  intro p e s m args below meth c s₁ B hml hv
  obtain ⟨rfl, hsz, hP, hK, hD0, hnw⟩ := hv
  have hx := B.exec
  have hb := B.bytes
  have hr := B.returns
  have hts := atoms_spec (ws := wsJ7_checkLength_df160) B.pre
  have hown : s.vm.findClass RJ7 = some m.cls := findClass_of_methodNamed B.named
  have hlocks := B.notSynchronized
  have hcf : CallFix _ _ _ _ _ _ _ _ _ := ⟨hx, hb, hml, hown, hts⟩
  subst hsz
  have hD := hD0.self (sz := s.heap.size)
  generalize hAe : va_A [] s.heap.size = A at hD ⊢
  have hA : ∀ q : Nat, s.heap.size ≤ q → A q := fun q h => by rw [← hAe]; exact Or.inr h
  have hS : va_S A s.heap s.heap [] := va_S.rf
  have hP : va_P D vwCl [] s.heap := hP
  have hK0 := hK
  have hcB : s.vm.findClass "[B" = some cyB := (hK.2 1 _ rfl).2
  have hl := lv_entry ([.int p0, .int p1]) (n := 2) (Nat.le_of_ble_eq_true rfl)
  rw [lg_entry_eq]
  generalize (lg_sl ([.int p0, .int p1]) ++ List.replicate (2 - (lg_sl ([.int p0, .int p1])).length) Slot.unset).toArray = ls at hl ⊢
  have hl : lv_has ls 2 [(0, .int p0), (1, .int p1)] := hl
  have h := hF
  clear hF
  unfold F_J7_checkLength_df160 at h
  refine lv_iload_n hx hb dJ7_checkLength_df160_0 rfl (lv_at hl 1 rfl) ?_
  refine lv_iload_n hx hb dJ7_checkLength_df160_1 rfl (lv_at hl 0 rfl) ?_
  refine lv_icmp_ge (tgt := 37) hx hb dJ7_checkLength_df160_2 (by decide) (fun c2 => ?_) (fun c2 => ?_)
  · have h := it_ c2 h
    have hP9 : va_P D vwCl [] s.heap := hP.sub [] rfl
    have hD9 : va_D A [] := hD.sub [] (by decide) rfl
    exact W.vret hx hb hr (fun t ht hW => ⟨⟨(), rfl, trivial, wQA_of ht hP9 hD9⟩, hS.F ht⟩) hS.2.2 dJ7_checkLength_df160_37
  · have h := if_ c2 h
    cases h

noncomputable abbrev rmJ7_copyOfRangeByte_39247 : Room := { frames := 1, cells := 1, slots := 300, locals := 80 }
theorem ydJ7_copyOfRangeByte_39247 : yJ7_copyOfRangeByte_39247.cls ≠ "java/lang/invoke/MethodHandle" ∧ yJ7_copyOfRangeByte_39247.cls ≠ "java/lang/invoke/VarHandle" ∧ (parseMethodDescriptor yJ7_copyOfRangeByte_39247.desc).map (fun d => d.parameters.length) = some 3 := by decide +kernel
noncomputable def F_J7_copyOfRangeByte_39247 (n_q0 : Nat) (f_q0 : Nat → Int32) (p1 : Int32) (p2 : Int32) : Option (Nat × (Nat → Int32)) :=
 obn (F_J7_checkLength_df160 p1 p2) (fun u2 =>
 bnd (p2 - p1) (fun x3_8 =>
 chk (¬ x3_8 < 0 ∧ x3_8.toNatClampNeg ≤ 300) (
 chk (¬ p1 < 0 ∧ ¬ (0 : Int32) < 0 ∧ ¬ (if x3_8 < ((Int32.ofNat n_q0) - p1) then x3_8 else ((Int32.ofNat n_q0) - p1)) < 0 ∧ p1.toNatClampNeg + (if x3_8 < ((Int32.ofNat n_q0) - p1) then x3_8 else ((Int32.ofNat n_q0) - p1)).toNatClampNeg ≤ n_q0 ∧ (0 : Int32).toNatClampNeg + (if x3_8 < ((Int32.ofNat n_q0) - p1) then x3_8 else ((Int32.ofNat n_q0) - p1)).toNatClampNeg ≤ x3_8.toNatClampNeg ∧ ∀ i, i < (if x3_8 < ((Int32.ofNat n_q0) - p1) then x3_8 else ((Int32.ofNat n_q0) - p1)).toNatClampNeg → fits .byte (.int (f_q0 (p1.toNatClampNeg + i))) = true) (
 bnd (va_cpy f_q0 (fun _ => (0 : Int32)) p1.toNatClampNeg (0 : Int32).toNatClampNeg (if x3_8 < ((Int32.ofNat n_q0) - p1) then x3_8 else ((Int32.ofNat n_q0) - p1)).toNatClampNeg) (fun f_n10_27 =>
 some (x3_8.toNatClampNeg, f_n10_27))))))
set_option maxHeartbeats 4000000 in
set_option maxRecDepth 100000 in
theorem c_J7_copyOfRangeByte_39247 (l : Launch) (D : va_G) (cyJ cyB : ClassId) (sz : Nat) (a_q0 : Nat) (n_q0 : Nat) (f_q0 : Nat → Int32) (p1 : Int32) (p2 : Int32) (o_n_ret : Nat) (o_f_ret : Nat → Int32) (hF : F_J7_copyOfRangeByte_39247 n_q0 f_q0 p1 p2 = some (o_n_ret, o_f_ret)) : Met l yJ7_copyOfRangeByte_39247 wsJ7_copyOfRangeByte_39247 rmJ7_copyOfRangeByte_39247 (va_Pc [.ref a_q0, .int p1, .int p2] (wPD D [(cyJ, .long), (cyB, .byte)] [(a_q0, .inl (cyB, n_q0, .inl f_q0))] sz)) (va_Qr (fun (_ : Unit) => True) (fun u r t => wQA D [(a_q0, .inl (cyB, n_q0, .inl f_q0)), (r, .inl (cyB, o_n_ret, .inl o_f_ret))] (va_A [(a_q0, .inl (cyB, n_q0, .inl f_q0))] sz) t) (va_A [(a_q0, .inl (cyB, n_q0, .inl f_q0))] sz)) 1 300 (va_A [(a_q0, .inl (cyB, n_q0, .inl f_q0))] sz) := by
  refine Met.ofW (cc := cJ7_copyOfRangeByte_39247) (maxL := 5) (ret := (some (.array .byte))) (by decide) rfl ?_
  intro p e s m args below meth c s₁ B hml hv
  obtain ⟨rfl, hsz, hP, hK, hD0, hnw⟩ := hv
  have hx := B.exec
  have hb := B.bytes
  have hr := B.returns
  have hts := atoms_spec (ws := wsJ7_copyOfRangeByte_39247) B.pre
  have hown : s.vm.findClass RJ7 = some m.cls := findClass_of_methodNamed B.named
  have hlocks := B.notSynchronized
  have hcf : CallFix _ _ _ _ _ _ _ _ _ := ⟨hx, hb, hml, hown, hts⟩
  subst hsz
  have hD := hD0.self (sz := s.heap.size)
  generalize hAe : va_A [(a_q0, .inl (cyB, n_q0, .inl f_q0))] s.heap.size = A at hD ⊢
  have hA : ∀ q : Nat, s.heap.size ≤ q → A q := fun q h => by rw [← hAe]; exact Or.inr h
  have hS : va_S A s.heap s.heap [] := va_S.rf
  have hP : va_P D vwCl [(a_q0, .inl (cyB, n_q0, .inl f_q0))] s.heap := hP
  have hK0 := hK
  have hcB : s.vm.findClass "[B" = some cyB := (hK.2 1 _ rfl).2
  have hl := lv_entry ([.ref a_q0, .int p1, .int p2]) (n := 5) (Nat.le_of_ble_eq_true rfl)
  rw [lg_entry_eq]
  generalize (lg_sl ([.ref a_q0, .int p1, .int p2]) ++ List.replicate (5 - (lg_sl ([.ref a_q0, .int p1, .int p2])).length) Slot.unset).toArray = ls at hl ⊢
  have hl : lv_has ls 5 [(0, .ref a_q0), (1, .int p1), (2, .int p2)] := hl
  have h := hF
  clear hF
  unfold F_J7_copyOfRangeByte_39247 at h
  refine lv_iload_n hx hb dJ7_copyOfRangeByte_39247_0 rfl (lv_at hl 1 rfl) ?_
  refine lv_iload_n hx hb dJ7_copyOfRangeByte_39247_1 rfl (lv_at hl 2 rfl) ?_
  obtain ⟨u2, hc2, h⟩ := obn_h h
  have hPc := hP.sub (ws' := []) [] rfl
  have hDc := hD.sub (ws' := []) [] (by decide) rfl
  refine hp_v (w1 := []) (wr := [(a_q0, .inl (cyB, n_q0, .inl f_q0))]) (va_runS (As := [.int p1, .int p2]) (rest := []) hcf (c_J7_checkLength_df160 l D cyJ cyB s.heap.size p1 p2 hc2) (va_cwS 2 hts gJ7_copyOfRangeByte_39247_J7_checkLength_df160 rfl rfl rfl ydJ7_checkLength_df160 ⟨Nat.le_of_ble_eq_true rfl, Nat.le_of_ble_eq_true rfl⟩) ⟨bl_PD, pr_PD hPc hK0 hDc hnw ⟩ rfl rfl hl.1 rfl (lv_room (Nat.le_of_ble_eq_true rfl)) dJ7_copyOfRangeByte_39247_2 ⟨Nat.le_of_ble_eq_true rfl, Nat.le_of_ble_eq_true rfl⟩) hP hD hS hA [] [0] rfl rfl (by decide) (by decide) (fun H locs hP hD hS => ?_)
  have hP : va_P D vwCl [(a_q0, .inl (cyB, n_q0, .inl f_q0))] H := hP
  have hD : va_D A [(a_q0, .inl (cyB, n_q0, .inl f_q0))] := hD
  refine lv_iload_n hx hb dJ7_copyOfRangeByte_39247_5 rfl (lv_at hl 2 rfl) ?_
  refine lv_iload_n hx hb dJ7_copyOfRangeByte_39247_6 rfl (lv_at hl 1 rfl) ?_
  refine lv_isub hx hb dJ7_copyOfRangeByte_39247_7 ?_
  refine lv_topi (fun x3_8 e_x3_8 => ?_)
  have h := bnd_h e_x3_8 h
  refine lv_istore_n (lv' := [(3, .int x3_8), (0, .ref a_q0), (1, .int p1), (2, .int p2)]) hx hb dJ7_copyOfRangeByte_39247_8 rfl hl (by decide) rfl (fun ls hl => ?_)
  refine lv_iload_n hx hb dJ7_copyOfRangeByte_39247_9 rfl (lv_at hl 0 rfl) ?_
  obtain ⟨hq10, h⟩ := chk_h h
  refine va_newa (atype := .byte) (ty := .byte) (a0 := (x3_8.toNatClampNeg, .inl (fun _ => (0 : Int32)))) (N' := x3_8.toNatClampNeg) hx hb (hts (.arrayClass .byte) (by decide +kernel)) rfl hK hP hD hS hA (fun _ => rfl) hq10.1 rfl (Nat.le_trans (Nat.mul_le_mul_right 1 hq10.2) (by decide)) (Nat.le_of_ble_eq_true rfl) (Nat.le_trans (Nat.add_le_add_left hq10.2 _) (Nat.le_of_ble_eq_true rfl)) dJ7_copyOfRangeByte_39247_10 (fun a_n10 cy_10 H hK hP hD hS => ?_)
  have e_cy_10 := cyb_eq hK0 hK
  subst e_cy_10
  have hK := hK0
  have hP : va_P D vwCl [(a_q0, .inl (cyB, n_q0, .inl f_q0)), (a_n10, .inl (cyB, x3_8.toNatClampNeg, .inl (fun _ => (0 : Int32))))] H := hP
  have hD : va_D A [(a_q0, .inl (cyB, n_q0, .inl f_q0)), (a_n10, .inl (cyB, x3_8.toNatClampNeg, .inl (fun _ => (0 : Int32))))] := hD
  refine W.widen (k := 1) (n := 300) (Nat.le_of_ble_eq_true rfl) (Nat.add_le_add_left hq10.2 _) ?_
  refine lv_astore (lv' := [(4, .ref a_n10), (3, .int x3_8), (0, .ref a_q0), (1, .int p1), (2, .int p2)]) hx hb dJ7_copyOfRangeByte_39247_12 hl (by decide) rfl (fun ls hl => ?_)
  refine lv_aload_n hx hb dJ7_copyOfRangeByte_39247_14 rfl (lv_at hl 2 rfl) ?_
  refine lv_iload_n hx hb dJ7_copyOfRangeByte_39247_15 rfl (lv_at hl 3 rfl) ?_
  refine lv_aload hx hb dJ7_copyOfRangeByte_39247_16 (lv_at hl 0 rfl) ?_
  refine lv_iconst (v := 0) hx hb dJ7_copyOfRangeByte_39247_18 (by decide) ?_
  refine lv_aload_n hx hb dJ7_copyOfRangeByte_39247_19 rfl (lv_at hl 2 rfl) ?_
  refine va_alen hx hb hK hP 0 1 rfl rfl (v := Int32.ofNat n_q0) rfl dJ7_copyOfRangeByte_39247_20 ?_
  refine lv_iload_n hx hb dJ7_copyOfRangeByte_39247_21 rfl (lv_at hl 3 rfl) ?_
  refine lv_isub hx hb dJ7_copyOfRangeByte_39247_22 ?_
  refine lv_iload_n hx hb dJ7_copyOfRangeByte_39247_23 rfl (lv_at hl 1 rfl) ?_
  refine va_mmin hx hb (hml.trans hl.1.symm) hown (hts (.methodLink RJ7 304 Lib.Math.min.name) (by decide +kernel)) (hts (.static Lib.Math.min.name) (by decide +kernel)) (hts (.initialized "java/lang/Math") (by decide +kernel)) (hts (.code Lib.Math.min.name Lib.Math.min.code 2 (some .int)) (by decide +kernel)) (Nat.le_of_ble_eq_true rfl) (Nat.le_of_ble_eq_true rfl) (Nat.le_of_ble_eq_true rfl) (Nat.le_of_ble_eq_true rfl) dJ7_copyOfRangeByte_39247_24 ?_
  obtain ⟨hq27, h⟩ := chk_h h
  refine va_copyi hx hb (hml.trans hl.1.symm) hown (hts (.methodLink RJ7 150 arraycopyName) (by decide +kernel)) (hts (.native arraycopyName) (by decide +kernel)) (hts (.static arraycopyName) (by decide +kernel)) (hts (.initialized "java/lang/System") (by decide +kernel)) hK hP hD hS 0 1 1 1 rfl rfl rfl rfl rfl hq27.1 hq27.2.1 hq27.2.2.1 hq27.2.2.2.1 hq27.2.2.2.2.1 hq27.2.2.2.2.2 (Nat.le_of_ble_eq_true rfl) (by decide +kernel) dJ7_copyOfRangeByte_39247_27 (fun H locs hP hD hS => ?_)
  obtain ⟨f_n10_27, e_f_n10_27⟩ : ∃ z, z = va_cpy f_q0 (fun _ => (0 : Int32)) p1.toNatClampNeg (0 : Int32).toNatClampNeg (if x3_8 < ((Int32.ofNat n_q0) - p1) then x3_8 else ((Int32.ofNat n_q0) - p1)).toNatClampNeg := ⟨_, rfl⟩
  have h := bnd_h e_f_n10_27 h
  have hP : va_P D vwCl [(a_q0, .inl (cyB, n_q0, .inl f_q0)), (a_n10, .inl (cyB, x3_8.toNatClampNeg, .inl f_n10_27))] H := by rw [e_f_n10_27]; exact hP
  have hD : va_D A [(a_q0, .inl (cyB, n_q0, .inl f_q0)), (a_n10, .inl (cyB, x3_8.toNatClampNeg, .inl f_n10_27))] := by rw [e_f_n10_27]; exact hD
  refine lv_aload hx hb dJ7_copyOfRangeByte_39247_30 (lv_at hl 0 rfl) ?_
  obtain ⟨e0, e1⟩ := tup2 h
  subst e0
  subst e1
  have hP9 : va_P D vwCl [(a_q0, .inl (cyB, n_q0, .inl f_q0)), (a_n10, .inl (cyB, x3_8.toNatClampNeg, .inl f_n10_27))] H := hP.sub [0, 1] rfl
  have hD9 : va_D A [(a_q0, .inl (cyB, n_q0, .inl f_q0)), (a_n10, .inl (cyB, x3_8.toNatClampNeg, .inl f_n10_27))] := hD.sub [0, 1] (by decide) rfl
  exact W.aret (v := .ref a_n10) hx hb hr (Or.inr ⟨_, rfl⟩) (Or.inr ⟨_, rfl⟩) (fun t ht hW => ⟨⟨(), a_n10, rfl, trivial, wQA_of ht hP9 hD9⟩, hS.F ht⟩) hS.2.2 dJ7_copyOfRangeByte_39247_32

noncomputable abbrev rmJ7_copyOfRange_39247 : Room := { frames := 2, cells := 1, slots := 300, locals := 104 }
theorem ydJ7_copyOfRange_39247 : yJ7_copyOfRange_39247.cls ≠ "java/lang/invoke/MethodHandle" ∧ yJ7_copyOfRange_39247.cls ≠ "java/lang/invoke/VarHandle" ∧ (parseMethodDescriptor yJ7_copyOfRange_39247.desc).map (fun d => d.parameters.length) = some 3 := by decide +kernel
noncomputable def F_J7_copyOfRange_39247 (n_q0 : Nat) (f_q0 : Nat → Int32) (p1 : Int32) (p2 : Int32) : Option (Nat × (Nat → Int32)) :=
 (if p1 = 0 then
 (if p2 = (Int32.ofNat n_q0) then
 chk (n_q0 ≤ 300 ∧ ∀ i, i < n_q0 → fits .byte (.int (f_q0 i)) = true) (
 some (n_q0, f_q0))
else
 obn2 (F_J7_copyOfRangeByte_39247 n_q0 f_q0 p1 p2) (fun n_ret13_13 f_ret13_13 =>
 some (n_ret13_13, f_ret13_13)))
else
 obn2 (F_J7_copyOfRangeByte_39247 n_q0 f_q0 p1 p2) (fun n_ret13_13 f_ret13_13 =>
 some (n_ret13_13, f_ret13_13)))
set_option maxHeartbeats 4000000 in
set_option maxRecDepth 100000 in
theorem c_J7_copyOfRange_39247 (l : Launch) (D : va_G) (cyJ cyB : ClassId) (adK adV : Nat → Nat) (sz : Nat) (a_q0 : Nat) (n_q0 : Nat) (f_q0 : Nat → Int32) (p1 : Int32) (p2 : Int32) (o_n_ret : Nat) (o_f_ret : Nat → Int32) (hF : F_J7_copyOfRange_39247 n_q0 f_q0 p1 p2 = some (o_n_ret, o_f_ret)) : Met l yJ7_copyOfRange_39247 wsJ7_copyOfRange_39247 rmJ7_copyOfRange_39247 (va_Pc [.ref a_q0, .int p1, .int p2] (wPDT D [(cyJ, .long), (cyB, .byte)] [(a_q0, .inl (cyB, n_q0, .inl f_q0))] adK adV sz)) (va_Qr (fun (_ : Unit) => True) (fun u r t => wQA D [(a_q0, .inl (cyB, n_q0, .inl f_q0)), (r, .inl (cyB, o_n_ret, .inl o_f_ret))] (va_A [(a_q0, .inl (cyB, n_q0, .inl f_q0))] sz) t) (va_A [(a_q0, .inl (cyB, n_q0, .inl f_q0))] sz)) 1 300 (va_A [(a_q0, .inl (cyB, n_q0, .inl f_q0))] sz) := by
  refine Met.ofW (cc := cJ7_copyOfRange_39247) (maxL := 3) (ret := (some (.array .byte))) (by decide) rfl ?_
  intro p e s m args below meth c s₁ B hml hv
  obtain ⟨rfl, ⟨⟨hsz, hP, hK, hD0, hnw⟩, hT⟩⟩ := hv
  have hx := B.exec
  have hb := B.bytes
  have hr := B.returns
  have hts := atoms_spec (ws := wsJ7_copyOfRange_39247) B.pre
  have hown : s.vm.findClass RJ7 = some m.cls := findClass_of_methodNamed B.named
  have hlocks := B.notSynchronized
  have hcf : CallFix _ _ _ _ _ _ _ _ _ := ⟨hx, hb, hml, hown, hts⟩
  subst hsz
  have hD := hD0.self (sz := s.heap.size)
  generalize hAe : va_A [(a_q0, .inl (cyB, n_q0, .inl f_q0))] s.heap.size = A at hD hT ⊢
  have hA : ∀ q : Nat, s.heap.size ≤ q → A q := fun q h => by rw [← hAe]; exact Or.inr h
  have hS : va_S A s.heap s.heap [] := va_S.rf
  have hP : va_P D vwCl [(a_q0, .inl (cyB, n_q0, .inl f_q0))] s.heap := hP
  have hK0 := hK
  have hcB : s.vm.findClass "[B" = some cyB := (hK.2 1 _ rfl).2
  have hl := lv_entry ([.ref a_q0, .int p1, .int p2]) (n := 3) (Nat.le_of_ble_eq_true rfl)
  rw [lg_entry_eq]
  generalize (lg_sl ([.ref a_q0, .int p1, .int p2]) ++ List.replicate (3 - (lg_sl ([.ref a_q0, .int p1, .int p2])).length) Slot.unset).toArray = ls at hl ⊢
  have hl : lv_has ls 3 [(0, .ref a_q0), (1, .int p1), (2, .int p2)] := hl
  have h := hF
  clear hF
  unfold F_J7_copyOfRange_39247 at h
  refine lv_iload_n hx hb dJ7_copyOfRange_39247_0 rfl (lv_at hl 1 rfl) ?_
  refine lv_if_ne (tgt := 10) hx hb dJ7_copyOfRange_39247_1 (by decide) (fun c1 => ?_) (fun c1 => ?_)
  · have h := if_ c1 h
    refine lv_aload_n hx hb dJ7_copyOfRange_39247_10 rfl (lv_at hl 0 rfl) ?_
    refine lv_iload_n hx hb dJ7_copyOfRange_39247_11 rfl (lv_at hl 1 rfl) ?_
    refine lv_iload_n hx hb dJ7_copyOfRange_39247_12 rfl (lv_at hl 2 rfl) ?_
    obtain ⟨n_ret13_13, f_ret13_13, hc13, h⟩ := obn2_h h
    have hPc := hP.sub (ws' := [(a_q0, .inl (cyB, n_q0, .inl f_q0))]) [0] rfl
    have hDc := hD.sub (ws' := [(a_q0, .inl (cyB, n_q0, .inl f_q0))]) [0] (by decide) rfl
    refine hp_r (wr := []) (va_runS (As := [.ref a_q0, .int p1, .int p2]) (rest := []) hcf (c_J7_copyOfRangeByte_39247 l D cyJ cyB s.heap.size a_q0 n_q0 f_q0 p1 p2 n_ret13_13 f_ret13_13 hc13) (va_cwS 3 hts gJ7_copyOfRange_39247_J7_copyOfRangeByte_39247 rfl rfl rfl ydJ7_copyOfRangeByte_39247 ⟨Nat.le_of_ble_eq_true rfl, Nat.le_of_ble_eq_true rfl⟩) ⟨bl_PD, pr_PD hPc hK0 hDc hnw ⟩ rfl rfl hl.1 rfl (lv_room (Nat.le_of_ble_eq_true rfl)) dJ7_copyOfRange_39247_13 ⟨Nat.le_of_ble_eq_true rfl, Nat.le_of_ble_eq_true rfl⟩) hP hD hS hA [0] [] rfl rfl (by decide) (by decide) (fun u13 b_ret13_13 H locs hP hD hS => ?_)
    have hP : va_P D vwCl [(a_q0, .inl (cyB, n_q0, .inl f_q0)), (b_ret13_13, .inl (cyB, n_ret13_13, .inl f_ret13_13))] H := hP
    have hD : va_D A [(a_q0, .inl (cyB, n_q0, .inl f_q0)), (b_ret13_13, .inl (cyB, n_ret13_13, .inl f_ret13_13))] := hD
    obtain ⟨e0, e1⟩ := tup2 h
    subst e0
    subst e1
    have hP9 : va_P D vwCl [(a_q0, .inl (cyB, n_q0, .inl f_q0)), (b_ret13_13, .inl (cyB, n_ret13_13, .inl f_ret13_13))] H := hP.sub [0, 1] rfl
    have hD9 : va_D A [(a_q0, .inl (cyB, n_q0, .inl f_q0)), (b_ret13_13, .inl (cyB, n_ret13_13, .inl f_ret13_13))] := hD.sub [0, 1] (by decide) rfl
    exact W.aret (v := .ref b_ret13_13) hx hb hr (Or.inr ⟨_, rfl⟩) (Or.inr ⟨_, rfl⟩) (fun t ht hW => ⟨⟨(), b_ret13_13, rfl, trivial, wQA_of ht hP9 hD9⟩, hS.F ht⟩) hS.2.2 dJ7_copyOfRange_39247_16
  · have h := it_ c1 h
    refine lv_iload_n hx hb dJ7_copyOfRange_39247_4 rfl (lv_at hl 2 rfl) ?_
    refine lv_aload_n hx hb dJ7_copyOfRange_39247_5 rfl (lv_at hl 0 rfl) ?_
    refine va_alen hx hb hK hP 0 1 rfl rfl (v := Int32.ofNat n_q0) rfl dJ7_copyOfRange_39247_6 ?_
    refine lv_icmp_eq (tgt := 17) hx hb dJ7_copyOfRange_39247_7 (by decide) (fun c7 => ?_) (fun c7 => ?_)
    · have h := it_ c7 h
      refine lv_aload_n hx hb dJ7_copyOfRange_39247_17 rfl (lv_at hl 0 rfl) ?_
      obtain ⟨hq18, h⟩ := chk_h h
      refine va_clone (ty := .byte) hx hb (hml.trans hl.1.symm) hown (hts (.methodLink RJ7 310 ⟨"[B", "clone", "()Ljava/lang/Object;"⟩) (by decide +kernel)) (hts (.sameMethod "[B" "java/lang/Object" "clone" "()Ljava/lang/Object;") (by decide +kernel)) (hts (.native ⟨"java/lang/Object", "clone", "()Ljava/lang/Object;"⟩) (by decide +kernel)) (hts (.instanceMethod ⟨"java/lang/Object", "clone", "()Ljava/lang/Object;"⟩) (by decide +kernel)) (hts (.selects "[B" ⟨"[B", "clone", "()Ljava/lang/Object;"⟩ ⟨"java/lang/Object", "clone", "()Ljava/lang/Object;"⟩) (by decide +kernel)) hT.2.1 hK hP hD hS hA 0 1 rfl rfl hcB (cl_fit hq18.2) (Nat.le_of_ble_eq_true rfl) (Nat.le_of_ble_eq_true rfl) (Nat.le_of_ble_eq_true rfl) (Nat.le_trans (Nat.add_le_add_left hq18.1 _) (Nat.le_of_ble_eq_true rfl)) dJ7_copyOfRange_39247_18 (fun a_ret18 H hK hP hD hS => ?_)
      have hK := hK0
      have hP : va_P D vwCl [(a_q0, .inl (cyB, n_q0, .inl f_q0)), (a_ret18, .inl (cyB, n_q0, .inl f_q0))] H := hP
      have hD : va_D A [(a_q0, .inl (cyB, n_q0, .inl f_q0)), (a_ret18, .inl (cyB, n_q0, .inl f_q0))] := hD
      refine W.widen (k := 1) (n := 300) (Nat.le_of_ble_eq_true rfl) (Nat.add_le_add_left hq18.1 _) ?_
      refine va_castA (nm := "[B") hx hb hown (hts (.classLink RJ7 311 "[B") (by decide +kernel)) hP 1 rfl hcB dJ7_copyOfRange_39247_21 ?_
      obtain ⟨e0, e1⟩ := tup2 h
      subst e0
      subst e1
      have hP9 : va_P D vwCl [(a_q0, .inl (cyB, n_q0, .inl f_q0)), (a_ret18, .inl (cyB, n_q0, .inl f_q0))] H := hP.sub [0, 1] rfl
      have hD9 : va_D A [(a_q0, .inl (cyB, n_q0, .inl f_q0)), (a_ret18, .inl (cyB, n_q0, .inl f_q0))] := hD.sub [0, 1] (by decide) rfl
      exact W.aret (v := .ref a_ret18) hx hb hr (Or.inr ⟨_, rfl⟩) (Or.inr ⟨_, rfl⟩) (fun t ht hW => ⟨⟨(), a_ret18, rfl, trivial, wQA_of ht hP9 hD9⟩, hS.F ht⟩) hS.2.2 dJ7_copyOfRange_39247_24
    · have h := if_ c7 h
      refine lv_aload_n hx hb dJ7_copyOfRange_39247_10 rfl (lv_at hl 0 rfl) ?_
      refine lv_iload_n hx hb dJ7_copyOfRange_39247_11 rfl (lv_at hl 1 rfl) ?_
      refine lv_iload_n hx hb dJ7_copyOfRange_39247_12 rfl (lv_at hl 2 rfl) ?_
      obtain ⟨n_ret13_13, f_ret13_13, hc13, h⟩ := obn2_h h
      have hPc := hP.sub (ws' := [(a_q0, .inl (cyB, n_q0, .inl f_q0))]) [0] rfl
      have hDc := hD.sub (ws' := [(a_q0, .inl (cyB, n_q0, .inl f_q0))]) [0] (by decide) rfl
      refine hp_r (wr := []) (va_runS (As := [.ref a_q0, .int p1, .int p2]) (rest := []) hcf (c_J7_copyOfRangeByte_39247 l D cyJ cyB s.heap.size a_q0 n_q0 f_q0 p1 p2 n_ret13_13 f_ret13_13 hc13) (va_cwS 3 hts gJ7_copyOfRange_39247_J7_copyOfRangeByte_39247 rfl rfl rfl ydJ7_copyOfRangeByte_39247 ⟨Nat.le_of_ble_eq_true rfl, Nat.le_of_ble_eq_true rfl⟩) ⟨bl_PD, pr_PD hPc hK0 hDc hnw ⟩ rfl rfl hl.1 rfl (lv_room (Nat.le_of_ble_eq_true rfl)) dJ7_copyOfRange_39247_13 ⟨Nat.le_of_ble_eq_true rfl, Nat.le_of_ble_eq_true rfl⟩) hP hD hS hA [0] [] rfl rfl (by decide) (by decide) (fun u13 b_ret13_13 H locs hP hD hS => ?_)
      have hP : va_P D vwCl [(a_q0, .inl (cyB, n_q0, .inl f_q0)), (b_ret13_13, .inl (cyB, n_ret13_13, .inl f_ret13_13))] H := hP
      have hD : va_D A [(a_q0, .inl (cyB, n_q0, .inl f_q0)), (b_ret13_13, .inl (cyB, n_ret13_13, .inl f_ret13_13))] := hD
      obtain ⟨e0, e1⟩ := tup2 h
      subst e0
      subst e1
      have hP9 : va_P D vwCl [(a_q0, .inl (cyB, n_q0, .inl f_q0)), (b_ret13_13, .inl (cyB, n_ret13_13, .inl f_ret13_13))] H := hP.sub [0, 1] rfl
      have hD9 : va_D A [(a_q0, .inl (cyB, n_q0, .inl f_q0)), (b_ret13_13, .inl (cyB, n_ret13_13, .inl f_ret13_13))] := hD.sub [0, 1] (by decide) rfl
      exact W.aret (v := .ref b_ret13_13) hx hb hr (Or.inr ⟨_, rfl⟩) (Or.inr ⟨_, rfl⟩) (fun t ht hW => ⟨⟨(), b_ret13_13, rfl, trivial, wQA_of ht hP9 hD9⟩, hS.F ht⟩) hS.2.2 dJ7_copyOfRange_39247_16
