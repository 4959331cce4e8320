noncomputable abbrev rmX7_allPrimes : Room := { frames := 9, cells := 2, slots := 12, locals := 167 }
theorem ydX7_allPrimes : yX7_allPrimes.cls = RX7 ∧ yX7_allPrimes.cls ≠ "java/lang/invoke/MethodHandle" ∧ yX7_allPrimes.cls ≠ "java/lang/invoke/VarHandle" ∧ (parseMethodDescriptor yX7_allPrimes.desc).map (fun d => d.parameters.length) = some 2 := by decide +kernel
noncomputable def F_X7_allPrimes (c_t_acts : Int32) (f_t_forms : Nat → Int64) (p0 : Int32) (p1 : Int32) : Option (Nat × Int32 × Int32 × (Nat → Int64)) :=
 obn (F_X7_testForm p1) (fun xc1 =>
 if xc1 = 0 then
 obn (F_X7_testRange p0 (1 : Int32) (5 : Int32)) (fun xc7 =>
 if xc7 = 0 then
 obn (F_X2_productOfAll p0) (fun r13 =>
 obn3 (F_X7_become c_t_acts f_t_forms p1 r13) (fun r16 c_t_acts_16 f_t_forms_16 =>
 some (0, r16, c_t_acts_16, f_t_forms_16)))
else
 some (xc7, 0, c_t_acts, f_t_forms))
else
 some (xc1, 0, c_t_acts, f_t_forms))
set_option maxHeartbeats 4000000 in
set_option maxRecDepth 100000 in
theorem c_X7_allPrimes (l : Launch) (hfl : l.stackTraces = false) (D : va_G) (cyJ : ClassId) (sz : Nat) (a_t : Nat) (a_t_forms : Nat) (a_t_roll : Nat) (a_t_row : Nat) (a_t_rows : Nat) (a_t_factors : Nat) (a_t_found : Nat) (a_t_foundOtherwise : Nat) (c_t_acts : Int32) (c_t_refusals : Int32) (c_t_knocks : Int32) (f_t_forms : Nat → Int64) (p0 : Int32) (p1 : Int32) (xc : Nat) (r0 : Int32) (o_c_t_acts : Int32) (o_f_t_forms : Nat → Int64) (hF : F_X7_allPrimes c_t_acts f_t_forms p0 p1 = some (xc, r0, o_c_t_acts, o_f_t_forms)) : vx_Met l yX7_allPrimes wsX7_allPrimes rmX7_allPrimes (va_Pc [.ref a_t, .int p0, .int p1] (wPX D [(cyJ, .long)] [(a_t, .inr (6, [.ref a_t_forms, .ref a_t_roll, .ref a_t_row, .ref a_t_rows, .ref a_t_factors, .ref a_t_found, .ref a_t_foundOtherwise, .int c_t_acts, .int c_t_refusals, .int c_t_knocks])), (a_t_forms, .inl (cyJ, 6, .inr (.inl f_t_forms)))] sz)) (va_Qi (fun (r : Int32) (_ : Unit) => xc = 0 ∧ r = r0) (fun _ t => wQA D [(a_t, .inr (6, [.ref a_t_forms, .ref a_t_roll, .ref a_t_row, .ref a_t_rows, .ref a_t_factors, .ref a_t_found, .ref a_t_foundOtherwise, .int o_c_t_acts, .int c_t_refusals, .int c_t_knocks])), (a_t_forms, .inl (cyJ, 6, .inr (.inl o_f_t_forms)))] (va_A [(a_t, .inr (6, [.ref a_t_forms, .ref a_t_roll, .ref a_t_row, .ref a_t_rows, .ref a_t_factors, .ref a_t_found, .ref a_t_foundOtherwise, .int c_t_acts, .int c_t_refusals, .int c_t_knocks])), (a_t_forms, .inl (cyJ, 6, .inr (.inl f_t_forms)))] sz) t) (va_A [(a_t, .inr (6, [.ref a_t_forms, .ref a_t_roll, .ref a_t_row, .ref a_t_rows, .ref a_t_factors, .ref a_t_found, .ref a_t_foundOtherwise, .int c_t_acts, .int c_t_refusals, .int c_t_knocks])), (a_t_forms, .inl (cyJ, 6, .inr (.inl f_t_forms)))] sz)) (vx_X (fun (_ : Unit) => ¬ xc = 0) (fun E _ t => E = xcls xc ∧ wQA D [(a_t, .inr (6, [.ref a_t_forms, .ref a_t_roll, .ref a_t_row, .ref a_t_rows, .ref a_t_factors, .ref a_t_found, .ref a_t_foundOtherwise, .int o_c_t_acts, .int c_t_refusals, .int c_t_knocks])), (a_t_forms, .inl (cyJ, 6, .inr (.inl o_f_t_forms)))] (va_A [(a_t, .inr (6, [.ref a_t_forms, .ref a_t_roll, .ref a_t_row, .ref a_t_rows, .ref a_t_factors, .ref a_t_found, .ref a_t_foundOtherwise, .int c_t_acts, .int c_t_refusals, .int c_t_knocks])), (a_t_forms, .inl (cyJ, 6, .inr (.inl f_t_forms)))] sz) t) (va_A [(a_t, .inr (6, [.ref a_t_forms, .ref a_t_roll, .ref a_t_row, .ref a_t_rows, .ref a_t_factors, .ref a_t_found, .ref a_t_foundOtherwise, .int c_t_acts, .int c_t_refusals, .int c_t_knocks])), (a_t_forms, .inl (cyJ, 6, .inr (.inl f_t_forms)))] sz)) 2 12 (va_A [(a_t, .inr (6, [.ref a_t_forms, .ref a_t_roll, .ref a_t_row, .ref a_t_rows, .ref a_t_factors, .ref a_t_found, .ref a_t_foundOtherwise, .int c_t_acts, .int c_t_refusals, .int c_t_knocks])), (a_t_forms, .inl (cyJ, 6, .inr (.inl f_t_forms)))] sz) := by
  refine vx_ofW (cc := cX7_allPrimes) (maxL := 3) (ret := (some .int)) (by decide) rfl ?_
  intro p e s m args below meth c s₁ B hml hxt hv
  obtain ⟨rfl, ⟨⟨hsz, hP, hK, hD0, hnw⟩, hE⟩⟩ := hv
  have hx := B.exec
  have hb := B.bytes
  have hr := B.returns
  have hts := atoms_spec (ws := wsX7_allPrimes) B.pre
  have hown : s.vm.findClass RX7 = some m.cls := findClass_of_methodNamed B.named
  have hlocks := B.notSynchronized
  have hcf : CallFix _ _ _ _ _ _ _ _ _ := ⟨hx, hb, hml, hown, hts⟩
  subst hsz
  have hD := hD0.self (sz := s.heap.size)
  generalize hAe : va_A [(a_t, .inr (6, [.ref a_t_forms, .ref a_t_roll, .ref a_t_row, .ref a_t_rows, .ref a_t_factors, .ref a_t_found, .ref a_t_foundOtherwise, .int c_t_acts, .int c_t_refusals, .int c_t_knocks])), (a_t_forms, .inl (cyJ, 6, .inr (.inl f_t_forms)))] s.heap.size = A at hD hE ⊢
  have hA : ∀ q : Nat, s.heap.size ≤ q → A q := fun q h => by rw [← hAe]; exact Or.inr h
  have hS : va_S A s.heap s.heap [] := va_S.rf
  have hP : va_P D vwCl [(a_t, .inr (6, [.ref a_t_forms, .ref a_t_roll, .ref a_t_row, .ref a_t_rows, .ref a_t_factors, .ref a_t_found, .ref a_t_foundOtherwise, .int c_t_acts, .int c_t_refusals, .int c_t_knocks])), (a_t_forms, .inl (cyJ, 6, .inr (.inl f_t_forms)))] s.heap := hP
  have hK0 := hK
  have hl := lv_entry ([.ref a_t, .int p0, .int p1]) (n := 3) (Nat.le_of_ble_eq_true rfl)
  rw [lg_entry_eq]
  generalize (lg_sl ([.ref a_t, .int p0, .int p1]) ++ List.replicate (3 - (lg_sl ([.ref a_t, .int p0, .int p1])).length) Slot.unset).toArray = ls at hl ⊢
  have hl : lv_has ls 3 [(0, .ref a_t), (1, .int p0), (2, .int p1)] := hl
  have h := hF
  clear hF
  unfold F_X7_allPrimes at h
  refine lv_iload_n hx hb dX7_allPrimes_0 rfl (lv_at hl 2 rfl) ?_
  obtain ⟨xc1, hc1, h⟩ := obn_h h
  have hPc := hP.sub (ws' := []) [] rfl
  have hDc := hD.sub (ws' := []) [] (by decide) rfl
  refine hx_v (w1 := []) (wr := [(a_t, .inr (6, [.ref a_t_forms, .ref a_t_roll, .ref a_t_row, .ref a_t_rows, .ref a_t_factors, .ref a_t_found, .ref a_t_foundOtherwise, .int c_t_acts, .int c_t_refusals, .int c_t_knocks])), (a_t_forms, .inl (cyJ, 6, .inr (.inl f_t_forms)))]) (vx_runS (As := [.int p1]) (rest := []) hcf (c_X7_testForm l hfl D cyJ s.heap.size p1 xc1 hc1) (va_cwS 1 hts gX7_allPrimes_X7_testForm rfl rfl rfl ydX7_testForm ⟨Nat.le_of_ble_eq_true rfl, Nat.le_of_ble_eq_true rfl⟩) ⟨bl_PX, pr_PX hPc hK0 hDc hnw hE hS (va_free hD hS hA [] rfl)⟩ rfl rfl hl.1 rfl (lv_room (Nat.le_of_ble_eq_true rfl)) dX7_allPrimes_1 ⟨Nat.le_of_ble_eq_true rfl, Nat.le_of_ble_eq_true rfl⟩) hP hD hS hA [] [0, 1] rfl rfl (by decide) (by decide) (fun E9 ce9 q9 H locs hx9 hE9 hP hD hS hce9 hcv9 hcl9 => ?_) (fun hx9 H locs hP hD hS => ?_)
  · have h := if_ hx9 h
    have hP : va_P D vwCl [(a_t, .inr (6, [.ref a_t_forms, .ref a_t_roll, .ref a_t_row, .ref a_t_rows, .ref a_t_factors, .ref a_t_found, .ref a_t_foundOtherwise, .int c_t_acts, .int c_t_refusals, .int c_t_knocks])), (a_t_forms, .inl (cyJ, 6, .inr (.inl f_t_forms)))] H := hP
    have hD : va_D A [(a_t, .inr (6, [.ref a_t_forms, .ref a_t_roll, .ref a_t_row, .ref a_t_rows, .ref a_t_factors, .ref a_t_found, .ref a_t_foundOtherwise, .int c_t_acts, .int c_t_refusals, .int c_t_knocks])), (a_t_forms, .inl (cyJ, 6, .inr (.inl f_t_forms)))] := hD
    obtain ⟨e0, e1, e2, e3⟩ := tup4 h
    subst e0
    subst e1
    subst e2
    subst e3
    have hP9 : va_P D vwCl [(a_t, .inr (6, [.ref a_t_forms, .ref a_t_roll, .ref a_t_row, .ref a_t_rows, .ref a_t_factors, .ref a_t_found, .ref a_t_foundOtherwise, .int c_t_acts, .int c_t_refusals, .int c_t_knocks])), (a_t_forms, .inl (cyJ, 6, .inr (.inl f_t_forms)))] H := hP.sub [0, 1] rfl
    have hD9 : va_D A [(a_t, .inr (6, [.ref a_t_forms, .ref a_t_roll, .ref a_t_row, .ref a_t_rows, .ref a_t_factors, .ref a_t_found, .ref a_t_foundOtherwise, .int c_t_acts, .int c_t_refusals, .int c_t_knocks])), (a_t_forms, .inl (cyJ, 6, .inr (.inl f_t_forms)))] := hD.sub [0, 1] (by decide) rfl
    exact vx_out (fun x hx => (hxt x hx).elim) hlocks hce9 hcv9 hcl9 (fun t ht hW => ⟨(), hx9, ⟨hE9, wQA_of ht hP9 hD9⟩, hS.F ht⟩) hS.2.2 (Nat.le_of_ble_eq_true rfl) (Nat.le_of_ble_eq_true rfl)
  · have h := it_ hx9 h
    have hP : va_P D vwCl [(a_t, .inr (6, [.ref a_t_forms, .ref a_t_roll, .ref a_t_row, .ref a_t_rows, .ref a_t_factors, .ref a_t_found, .ref a_t_foundOtherwise, .int c_t_acts, .int c_t_refusals, .int c_t_knocks])), (a_t_forms, .inl (cyJ, 6, .inr (.inl f_t_forms)))] H := hP
    have hD : va_D A [(a_t, .inr (6, [.ref a_t_forms, .ref a_t_roll, .ref a_t_row, .ref a_t_rows, .ref a_t_factors, .ref a_t_found, .ref a_t_foundOtherwise, .int c_t_acts, .int c_t_refusals, .int c_t_knocks])), (a_t_forms, .inl (cyJ, 6, .inr (.inl f_t_forms)))] := hD
    refine lv_iload_n hx hb dX7_allPrimes_4 rfl (lv_at hl 1 rfl) ?_
    refine lv_iconst (v := 1) hx hb dX7_allPrimes_5 (by decide) ?_
    refine lv_iconst (v := 5) hx hb dX7_allPrimes_6 (by decide) ?_
    obtain ⟨xc7, hc7, h⟩ := obn_h h
    have hPc := hP.sub (ws' := []) [] rfl
    have hDc := hD.sub (ws' := []) [] (by decide) rfl
    refine hx_v (w1 := []) (wr := [(a_t, .inr (6, [.ref a_t_forms, .ref a_t_roll, .ref a_t_row, .ref a_t_rows, .ref a_t_factors, .ref a_t_found, .ref a_t_foundOtherwise, .int c_t_acts, .int c_t_refusals, .int c_t_knocks])), (a_t_forms, .inl (cyJ, 6, .inr (.inl f_t_forms)))]) (vx_runS (As := [.int p0, .int (1 : Int32), .int (5 : Int32)]) (rest := []) hcf (c_X7_testRange l hfl D cyJ H.size p0 (1 : Int32) (5 : Int32) xc7 hc7) (va_cwS 3 hts gX7_allPrimes_X7_testRange rfl rfl rfl ydX7_testRange ⟨Nat.le_of_ble_eq_true rfl, Nat.le_of_ble_eq_true rfl⟩) ⟨bl_PX, pr_PX hPc hK0 hDc hnw hE hS (va_free hD hS hA [] rfl)⟩ rfl rfl hl.1 rfl (lv_room (Nat.le_of_ble_eq_true rfl)) dX7_allPrimes_7 ⟨Nat.le_of_ble_eq_true rfl, Nat.le_of_ble_eq_true rfl⟩) hP hD hS hA [] [0, 1] rfl rfl (by decide) (by decide) (fun E9 ce9 q9 H locs hx9 hE9 hP hD hS hce9 hcv9 hcl9 => ?_) (fun hx9 H locs hP hD hS => ?_)
    · have h := if_ hx9 h
      have hP : va_P D vwCl [(a_t, .inr (6, [.ref a_t_forms, .ref a_t_roll, .ref a_t_row, .ref a_t_rows, .ref a_t_factors, .ref a_t_found, .ref a_t_foundOtherwise, .int c_t_acts, .int c_t_refusals, .int c_t_knocks])), (a_t_forms, .inl (cyJ, 6, .inr (.inl f_t_forms)))] H := hP
      have hD : va_D A [(a_t, .inr (6, [.ref a_t_forms, .ref a_t_roll, .ref a_t_row, .ref a_t_rows, .ref a_t_factors, .ref a_t_found, .ref a_t_foundOtherwise, .int c_t_acts, .int c_t_refusals, .int c_t_knocks])), (a_t_forms, .inl (cyJ, 6, .inr (.inl f_t_forms)))] := hD
      obtain ⟨e0, e1, e2, e3⟩ := tup4 h
      subst e0
      subst e1
      subst e2
      subst e3
      have hP9 : va_P D vwCl [(a_t, .inr (6, [.ref a_t_forms, .ref a_t_roll, .ref a_t_row, .ref a_t_rows, .ref a_t_factors, .ref a_t_found, .ref a_t_foundOtherwise, .int c_t_acts, .int c_t_refusals, .int c_t_knocks])), (a_t_forms, .inl (cyJ, 6, .inr (.inl f_t_forms)))] H := hP.sub [0, 1] rfl
      have hD9 : va_D A [(a_t, .inr (6, [.ref a_t_forms, .ref a_t_roll, .ref a_t_row, .ref a_t_rows, .ref a_t_factors, .ref a_t_found, .ref a_t_foundOtherwise, .int c_t_acts, .int c_t_refusals, .int c_t_knocks])), (a_t_forms, .inl (cyJ, 6, .inr (.inl f_t_forms)))] := hD.sub [0, 1] (by decide) rfl
      exact vx_out (fun x hx => (hxt x hx).elim) hlocks hce9 hcv9 hcl9 (fun t ht hW => ⟨(), hx9, ⟨hE9, wQA_of ht hP9 hD9⟩, hS.F ht⟩) hS.2.2 (Nat.le_of_ble_eq_true rfl) (Nat.le_of_ble_eq_true rfl)
    · have h := it_ hx9 h
      have hP : va_P D vwCl [(a_t, .inr (6, [.ref a_t_forms, .ref a_t_roll, .ref a_t_row, .ref a_t_rows, .ref a_t_factors, .ref a_t_found, .ref a_t_foundOtherwise, .int c_t_acts, .int c_t_refusals, .int c_t_knocks])), (a_t_forms, .inl (cyJ, 6, .inr (.inl f_t_forms)))] H := hP
      have hD : va_D A [(a_t, .inr (6, [.ref a_t_forms, .ref a_t_roll, .ref a_t_row, .ref a_t_rows, .ref a_t_factors, .ref a_t_found, .ref a_t_foundOtherwise, .int c_t_acts, .int c_t_refusals, .int c_t_knocks])), (a_t_forms, .inl (cyJ, 6, .inr (.inl f_t_forms)))] := hD
      refine lv_aload_n hx hb dX7_allPrimes_10 rfl (lv_at hl 0 rfl) ?_
      refine lv_iload_n hx hb dX7_allPrimes_11 rfl (lv_at hl 2 rfl) ?_
      refine lv_iload_n hx hb dX7_allPrimes_12 rfl (lv_at hl 1 rfl) ?_
      obtain ⟨r13, hc13, h⟩ := obn_h h
      refine pz_callS (As := [.int p0]) (rest := [.int p1, .ref a_t]) hcf (c_X2_productOfAll l p0 r13 hc13) (va_cwS 1 hts gX7_allPrimes_X2_productOfAll rfl rfl rfl ydX2_productOfAll ⟨Nat.le_of_ble_eq_true rfl, Nat.le_of_ble_eq_true rfl⟩) hnw rfl hl.1 rfl (Nat.le_of_ble_eq_true rfl) dX7_allPrimes_13 ⟨Nat.le_of_ble_eq_true rfl, Nat.le_of_ble_eq_true rfl⟩ ?_
      obtain ⟨r16, c_t_acts_16, f_t_forms_16, hc16, h⟩ := obn3_h h
      have hPc := hP.sub (ws' := [(a_t, .inr (6, [.ref a_t_forms, .ref a_t_roll, .ref a_t_row, .ref a_t_rows, .ref a_t_factors, .ref a_t_found, .ref a_t_foundOtherwise, .int c_t_acts, .int c_t_refusals, .int c_t_knocks])), (a_t_forms, .inl (cyJ, 6, .inr (.inl f_t_forms)))]) [0, 1] rfl
      have hDc := hD.sub (ws' := [(a_t, .inr (6, [.ref a_t_forms, .ref a_t_roll, .ref a_t_row, .ref a_t_rows, .ref a_t_factors, .ref a_t_found, .ref a_t_foundOtherwise, .int c_t_acts, .int c_t_refusals, .int c_t_knocks])), (a_t_forms, .inl (cyJ, 6, .inr (.inl f_t_forms)))]) [0, 1] (by decide) rfl
      refine hp_i (w1 := [(a_t, .inr (6, [.ref a_t_forms, .ref a_t_roll, .ref a_t_row, .ref a_t_rows, .ref a_t_factors, .ref a_t_found, .ref a_t_foundOtherwise, .int c_t_acts_16, .int c_t_refusals, .int c_t_knocks])), (a_t_forms, .inl (cyJ, 6, .inr (.inl f_t_forms_16)))]) (wr := []) (va_runV (As := [.int p1, .long r13]) (rest := []) hcf (c_X7_become l D cyJ H.size a_t a_t_forms a_t_roll a_t_row a_t_rows a_t_factors a_t_found a_t_foundOtherwise c_t_acts c_t_refusals c_t_knocks f_t_forms p1 r13 r16 c_t_acts_16 f_t_forms_16 hc16) (cwV 2 hts gX7_allPrimes_X7_become rfl rfl rfl ydX7_become ⟨Nat.le_of_ble_eq_true rfl, Nat.le_of_ble_eq_true rfl⟩) ⟨bl_PD, va_recv hK hP (ci := 6) (q0 := 0) rfl rfl, pr_PD hPc hK0 hDc hnw⟩ rfl rfl hl.1 rfl (lv_room (Nat.le_of_ble_eq_true rfl)) dX7_allPrimes_16 ⟨Nat.le_of_ble_eq_true rfl, Nat.le_of_ble_eq_true rfl⟩) hP hD hS hA [0, 1] [] rfl rfl (by decide) (by decide) (fun H locs hP hD hS => ?_)
      have hP : va_P D vwCl [(a_t, .inr (6, [.ref a_t_forms, .ref a_t_roll, .ref a_t_row, .ref a_t_rows, .ref a_t_factors, .ref a_t_found, .ref a_t_foundOtherwise, .int c_t_acts_16, .int c_t_refusals, .int c_t_knocks])), (a_t_forms, .inl (cyJ, 6, .inr (.inl f_t_forms_16)))] H := hP
      have hD : va_D A [(a_t, .inr (6, [.ref a_t_forms, .ref a_t_roll, .ref a_t_row, .ref a_t_rows, .ref a_t_factors, .ref a_t_found, .ref a_t_foundOtherwise, .int c_t_acts_16, .int c_t_refusals, .int c_t_knocks])), (a_t_forms, .inl (cyJ, 6, .inr (.inl f_t_forms_16)))] := hD
      obtain ⟨e0, e1, e2, e3⟩ := tup4 h
      subst e0
      subst e1
      subst e2
      subst e3
      have hP9 : va_P D vwCl [(a_t, .inr (6, [.ref a_t_forms, .ref a_t_roll, .ref a_t_row, .ref a_t_rows, .ref a_t_factors, .ref a_t_found, .ref a_t_foundOtherwise, .int c_t_acts_16, .int c_t_refusals, .int c_t_knocks])), (a_t_forms, .inl (cyJ, 6, .inr (.inl f_t_forms_16)))] H := hP.sub [0, 1] rfl
      have hD9 : va_D A [(a_t, .inr (6, [.ref a_t_forms, .ref a_t_roll, .ref a_t_row, .ref a_t_rows, .ref a_t_factors, .ref a_t_found, .ref a_t_foundOtherwise, .int c_t_acts_16, .int c_t_refusals, .int c_t_knocks])), (a_t_forms, .inl (cyJ, 6, .inr (.inl f_t_forms_16)))] := hD.sub [0, 1] (by decide) rfl
      refine vx_ret ?_
      exact W.iret hx hb hr (fun t ht hW => ⟨⟨_, (), rfl, ⟨rfl, rfl⟩, wQA_of ht hP9 hD9⟩, hS.F ht⟩) hS.2.2 dX7_allPrimes_19

noncomputable abbrev rmX7_canBeSealed : Room := { frames := 2, cells := 0, slots := 0, locals := 44 }
theorem ydX7_canBeSealed : yX7_canBeSealed.cls = RX7 ∧ yX7_canBeSealed.cls ≠ "java/lang/invoke/MethodHandle" ∧ yX7_canBeSealed.cls ≠ "java/lang/invoke/VarHandle" ∧ (parseMethodDescriptor yX7_canBeSealed.desc).map (fun d => d.parameters.length) = some 2 := by decide +kernel
noncomputable def F_X7_canBeSealed (f_t_forms : Nat → Int64) (p0 : Int32) (p1 : Int32) : Option (Int32) :=
 chk (¬ (p0 < 0 ∨ 6 ≤ p0.toNatClampNeg)) (
 obn (F_X0_degreeOf (f_t_forms p0.toNatClampNeg)) (fun r6 =>
 chk (¬ (p1 < 0 ∨ 6 ≤ p1.toNatClampNeg)) (
 obn (F_X0_degreeOf (f_t_forms p1.toNatClampNeg)) (fun r15 =>
 (if (39 : Int32) < (r6 + r15) then
 some (0 : Int32)
else
 some (1 : Int32))))))
set_option maxHeartbeats 4000000 in
set_option maxRecDepth 100000 in
theorem c_X7_canBeSealed (l : Launch) (D : va_G) (cyJ : ClassId) (a_t : Nat) (a_t_forms : Nat) (a_t_roll : Nat) (a_t_row : Nat) (a_t_rows : Nat) (a_t_factors : Nat) (a_t_found : Nat) (a_t_foundOtherwise : Nat) (c_t_acts : Int32) (c_t_refusals : Int32) (c_t_knocks : Int32) (f_t_forms : Nat → Int64) (p0 : Int32) (p1 : Int32) (r0 : Int32) (hF : F_X7_canBeSealed f_t_forms p0 p1 = some r0) : Met l yX7_canBeSealed wsX7_canBeSealed rmX7_canBeSealed (va_Pc [.ref a_t, .int p0, .int p1] (wPK D [(cyJ, .long)] [(a_t, .inr (6, [.ref a_t_forms, .ref a_t_roll, .ref a_t_row, .ref a_t_rows, .ref a_t_factors, .ref a_t_found, .ref a_t_foundOtherwise, .int c_t_acts, .int c_t_refusals, .int c_t_knocks])), (a_t_forms, .inl (cyJ, 6, .inr (.inl f_t_forms)))])) (k2_QcV (.int r0)) 0 0 (fun _ => False) := by
  refine Met.ofW (cc := cX7_canBeSealed) (maxL := 3) (ret := (some .boolean)) (by decide) rfl ?_
  intro p e s m args below meth c s₁ B hml hv
  obtain ⟨rfl, hP, hK, hnw⟩ := hv
  have hx := B.exec
  have hb := B.bytes
  have hr := B.returns
  have hts := atoms_spec (ws := wsX7_canBeSealed) B.pre
  have hown : s.vm.findClass RX7 = some m.cls := findClass_of_methodNamed B.named
  have hlocks := B.notSynchronized
  have hcf : CallFix _ _ _ _ _ _ _ _ _ := ⟨hx, hb, hml, hown, hts⟩
  have hinX7 : ∀ w ∈ u_ws RX7 TX7 10, w ∈ wsX7_canBeSealed := by decide +kernel
  have hfl9 := hts (.fieldLink RX7 9 "Formwheel" "forms" "[J") (by decide +kernel)
  have hK0 := hK
  have hl := lv_entry ([.ref a_t, .int p0, .int p1]) (n := 3) (Nat.le_of_ble_eq_true rfl)
  rw [lg_entry_eq]
  generalize (lg_sl ([.ref a_t, .int p0, .int p1]) ++ List.replicate (3 - (lg_sl ([.ref a_t, .int p0, .int p1])).length) Slot.unset).toArray = ls at hl ⊢
  have hl : lv_has ls 3 [(0, .ref a_t), (1, .int p0), (2, .int p1)] := hl
  have h := hF
  clear hF
  unfold F_X7_canBeSealed at h
  refine lv_aload_n hx hb dX7_canBeSealed_0 rfl (lv_at hl 0 rfl) ?_
  refine va_get (D := D) (ci := 6) (v := .ref a_t_forms) (C := RX7) (T := TX7) (N := 10) hx hb hts hinX7 hown hK hP 0 rfl rfl 0 (by decide) hfl9 (fun _ h9 => h9) rfl dX7_canBeSealed_1 ?_
  refine lv_iload_n hx hb dX7_canBeSealed_4 rfl (lv_at hl 1 rfl) ?_
  obtain ⟨hq5, h⟩ := chk_h h
  refine va_lald hx hb hK hP 1 0 rfl rfl hq5 dX7_canBeSealed_5 ?_
  obtain ⟨r6, hc6, h⟩ := obn_h h
  refine pz_callS (As := [.long (f_t_forms p0.toNatClampNeg)]) (rest := []) hcf (c_X0_degreeOf l (f_t_forms p0.toNatClampNeg) r6 hc6) (va_cwS 1 hts gX7_canBeSealed_X0_degreeOf rfl rfl rfl ydX0_degreeOf ⟨Nat.le_of_ble_eq_true rfl, Nat.le_of_ble_eq_true rfl⟩) hnw rfl hl.1 rfl (Nat.le_of_ble_eq_true rfl) dX7_canBeSealed_6 ⟨Nat.le_of_ble_eq_true rfl, Nat.le_of_ble_eq_true rfl⟩ ?_
  refine lv_aload_n hx hb dX7_canBeSealed_9 rfl (lv_at hl 0 rfl) ?_
  refine va_get (D := D) (ci := 6) (v := .ref a_t_forms) (C := RX7) (T := TX7) (N := 10) hx hb hts hinX7 hown hK hP 0 rfl rfl 0 (by decide) hfl9 (fun _ h9 => h9) rfl dX7_canBeSealed_10 ?_
  refine lv_iload_n hx hb dX7_canBeSealed_13 rfl (lv_at hl 2 rfl) ?_
  obtain ⟨hq14, h⟩ := chk_h h
  refine va_lald hx hb hK hP 1 0 rfl rfl hq14 dX7_canBeSealed_14 ?_
  obtain ⟨r15, hc15, h⟩ := obn_h h
  refine pz_callS (As := [.long (f_t_forms p1.toNatClampNeg)]) (rest := [.int r6]) hcf (c_X0_degreeOf l (f_t_forms p1.toNatClampNeg) r15 hc15) (va_cwS 1 hts gX7_canBeSealed_X0_degreeOf rfl rfl rfl ydX0_degreeOf ⟨Nat.le_of_ble_eq_true rfl, Nat.le_of_ble_eq_true rfl⟩) hnw rfl hl.1 rfl (Nat.le_of_ble_eq_true rfl) dX7_canBeSealed_15 ⟨Nat.le_of_ble_eq_true rfl, Nat.le_of_ble_eq_true rfl⟩ ?_
  refine lv_iadd hx hb dX7_canBeSealed_18 ?_
  refine lv_bipush (v := 39) hx hb dX7_canBeSealed_19 (by decide) ?_
  refine lv_icmp_gt (tgt := 28) hx hb dX7_canBeSealed_21 (by decide) (fun c21 => ?_) (fun c21 => ?_)
  · have h := it_ c21 h
    refine lv_iconst (v := 0) hx hb dX7_canBeSealed_28 (by decide) ?_
    have e1 := Option.some.inj h
    subst e1
    exact W.zret hx hb hr narrow_b0 (fun t ht _ => ⟨rfl, ht⟩) no_q dX7_canBeSealed_29
  · have h := if_ c21 h
    refine lv_iconst (v := 1) hx hb dX7_canBeSealed_24 (by decide) ?_
    refine lv_goto (tgt := 29) hx hb dX7_canBeSealed_25 (by decide) ?_
    have e1 := Option.some.inj h
    subst e1
    exact W.zret hx hb hr narrow_b1 (fun t ht _ => ⟨rfl, ht⟩) no_q dX7_canBeSealed_29

noncomputable abbrev rmX0_checkOf : Room := { frames := 3, cells := 0, slots := 0, locals := 71 }
theorem ydX0_checkOf : yX0_checkOf.cls ≠ "java/lang/invoke/MethodHandle" ∧ yX0_checkOf.cls ≠ "java/lang/invoke/VarHandle" ∧ (parseMethodDescriptor yX0_checkOf.desc).map (fun d => d.parameters.length) = some 2 := by decide +kernel
noncomputable def F_X0_checkOf (p0 : Int64) (p1 : Int64) : Option (Int64) :=
 obn (F_X0_degreeOf p1) (fun r2 =>
 obn (F_X0_rest (p0 <<< (r2.toInt64 &&& 63)) p1) (fun r7 =>
 some r7))
set_option maxHeartbeats 4000000 in
set_option maxRecDepth 100000 in
theorem c_X0_checkOf (l : Launch) (p0 : Int64) (p1 : Int64) (r0 : Int64) (hF : F_X0_checkOf p0 p1 = some r0) : Met l yX0_checkOf wsX0_checkOf rmX0_checkOf (va_Pc [.long p0, .long p1] NW) (k2_QcV (.long r0)) 0 0 (fun _ => False) := by
  refine Met.ofW (cc := cX0_checkOf) (maxL := 4) (ret := (some .long)) (by decide) rfl ?_
  intro p e s m args below meth c s₁ B hml hv
  obtain ⟨rfl, hnw⟩ := hv
  have hx := B.exec
  have hb := B.bytes
  have hr := B.returns
  have hts := atoms_spec (ws := wsX0_checkOf) B.pre
  have hown : s.vm.findClass RX0 = some m.cls := findClass_of_methodNamed B.named
  have hlocks := B.notSynchronized
  have hcf : CallFix _ _ _ _ _ _ _ _ _ := ⟨hx, hb, hml, hown, hts⟩
  have hl := lv_entry ([.long p0, .long p1]) (n := 4) (Nat.le_of_ble_eq_true rfl)
  rw [lg_entry_eq]
  generalize (lg_sl ([.long p0, .long p1]) ++ List.replicate (4 - (lg_sl ([.long p0, .long p1])).length) Slot.unset).toArray = ls at hl ⊢
  have hl : lv_has ls 4 [(0, .long p0), (2, .long p1)] := hl
  have h := hF
  clear hF
  unfold F_X0_checkOf at h
  refine lv_lload_n hx hb dX0_checkOf_0 rfl (lv_at hl 0 rfl) ?_
  refine lv_lload_n hx hb dX0_checkOf_1 rfl (lv_at hl 1 rfl) ?_
  obtain ⟨r2, hc2, h⟩ := obn_h h
  refine pz_callS (As := [.long p1]) (rest := [.long p0]) hcf (c_X0_degreeOf l p1 r2 hc2) (va_cwS 1 hts gX0_checkOf_X0_degreeOf rfl rfl rfl ydX0_degreeOf ⟨Nat.le_of_ble_eq_true rfl, Nat.le_of_ble_eq_true rfl⟩) hnw rfl hl.1 rfl (Nat.le_of_ble_eq_true rfl) dX0_checkOf_2 ⟨Nat.le_of_ble_eq_true rfl, Nat.le_of_ble_eq_true rfl⟩ ?_
  refine lv_lshl (v := p0 <<< (r2.toInt64 &&& 63)) hx hb dX0_checkOf_5 rfl ?_
  refine lv_lload_n hx hb dX0_checkOf_6 rfl (lv_at hl 1 rfl) ?_
  obtain ⟨r7, hc7, h⟩ := obn_h h
  refine pz_callS (As := [.long (p0 <<< (r2.toInt64 &&& 63)), .long p1]) (rest := []) hcf (c_X0_rest l (p0 <<< (r2.toInt64 &&& 63)) p1 r7 hc7) (va_cwS 2 hts gX0_checkOf_X0_rest rfl rfl rfl ydX0_rest ⟨Nat.le_of_ble_eq_true rfl, Nat.le_of_ble_eq_true rfl⟩) hnw rfl hl.1 rfl (Nat.le_of_ble_eq_true rfl) dX0_checkOf_7 ⟨Nat.le_of_ble_eq_true rfl, Nat.le_of_ble_eq_true rfl⟩ ?_
  have e1 := Option.some.inj h
  subst e1
  exact W.lret hx hb hr (fun t ht _ => ⟨rfl, ht⟩) no_q dX0_checkOf_10

noncomputable abbrev rmX7_seal : Room := { frames := 10, cells := 3, slots := 18, locals := 142 }
theorem ydX7_seal : yX7_seal.cls = RX7 ∧ yX7_seal.cls ≠ "java/lang/invoke/MethodHandle" ∧ yX7_seal.cls ≠ "java/lang/invoke/VarHandle" ∧ (parseMethodDescriptor yX7_seal.desc).map (fun d => d.parameters.length) = some 3 := by decide +kernel
noncomputable def F_X7_seal (c_t_acts : Int32) (c_t_refusals : Int32) (f_t_forms : Nat → Int64) (p0 : Int32) (p1 : Int32) (p2 : Int32) : Option (Nat × Int32 × Int32 × Int32 × (Nat → Int64)) :=
 obn (F_X7_testForms p0 p1 p2) (fun xc3 =>
 if xc3 = 0 then
 chk (¬ (p1 < 0 ∨ 6 ≤ p1.toNatClampNeg)) (
 obn (F_X0_degreeOf (f_t_forms p1.toNatClampNeg)) (fun r12 =>
 (if r12 < (1 : Int32) then
 obn2 (F_X7_refuse c_t_refusals) (fun r29 c_t_refusals_29 =>
 some (0, r29, c_t_acts, c_t_refusals_29, f_t_forms))
else
 obn (F_X7_canBeSealed f_t_forms p0 p1) (fun r22 =>
 (if r22 = 0 then
 obn2 (F_X7_refuse c_t_refusals) (fun r29 c_t_refusals_29 =>
 some (0, r29, c_t_acts, c_t_refusals_29, f_t_forms))
else
 chk (¬ (p0 < 0 ∨ 6 ≤ p0.toNatClampNeg)) (
 chk (¬ (p1 < 0 ∨ 6 ≤ p1.toNatClampNeg)) (
 obn (F_X0_checkOf (f_t_forms p0.toNatClampNeg) (f_t_forms p1.toNatClampNeg)) (fun r45 =>
 chk (¬ (p0 < 0 ∨ 6 ≤ p0.toNatClampNeg)) (
 chk (¬ (p1 < 0 ∨ 6 ≤ p1.toNatClampNeg)) (
 obn (F_X0_degreeOf (f_t_forms p1.toNatClampNeg)) (fun r67 =>
 chk (¬ (p2 < 0 ∨ 6 ≤ p2.toNatClampNeg)) (
 bnd (vp_updL f_t_forms p2.toNatClampNeg (((f_t_forms p0.toNatClampNeg) <<< (r67.toInt64 &&& 63)) ^^^ r45)) (fun f_t_forms_74 =>
 obn (F_X0_onesOf r45) (fun r78 =>
 obn2 (F_X7_done c_t_acts r78) (fun r81 c_t_acts_81 =>
 some (0, r81, c_t_acts_81, c_t_refusals, f_t_forms_74))))))))))))))))
else
 some (xc3, 0, c_t_acts, c_t_refusals, f_t_forms))
set_option maxHeartbeats 4000000 in
set_option maxRecDepth 100000 in
theorem c_X7_seal (l : Launch) (hfl : l.stackTraces = false) (D : va_G) (cyJ : ClassId) (sz : Nat) (a_t : Nat) (a_t_forms : Nat) (a_t_roll : Nat) (a_t_row : Nat) (a_t_rows : Nat) (a_t_factors : Nat) (a_t_found : Nat) (a_t_foundOtherwise : Nat) (c_t_acts : Int32) (c_t_refusals : Int32) (c_t_knocks : Int32) (f_t_forms : Nat → Int64) (p0 : Int32) (p1 : Int32) (p2 : Int32) (xc : Nat) (r0 : Int32) (o_c_t_acts : Int32) (o_c_t_refusals : Int32) (o_f_t_forms : Nat → Int64) (hF : F_X7_seal c_t_acts c_t_refusals f_t_forms p0 p1 p2 = some (xc, r0, o_c_t_acts, o_c_t_refusals, o_f_t_forms)) : vx_Met l yX7_seal wsX7_seal rmX7_seal (va_Pc [.ref a_t, .int p0, .int p1, .int p2] (wPX D [(cyJ, .long)] [(a_t, .inr (6, [.ref a_t_forms, .ref a_t_roll, .ref a_t_row, .ref a_t_rows, .ref a_t_factors, .ref a_t_found, .ref a_t_foundOtherwise, .int c_t_acts, .int c_t_refusals, .int c_t_knocks])), (a_t_forms, .inl (cyJ, 6, .inr (.inl f_t_forms)))] sz)) (va_Qi (fun (r : Int32) (_ : Unit) => xc = 0 ∧ r = r0) (fun _ t => wQA D [(a_t, .inr (6, [.ref a_t_forms, .ref a_t_roll, .ref a_t_row, .ref a_t_rows, .ref a_t_factors, .ref a_t_found, .ref a_t_foundOtherwise, .int o_c_t_acts, .int o_c_t_refusals, .int c_t_knocks])), (a_t_forms, .inl (cyJ, 6, .inr (.inl o_f_t_forms)))] (va_A [(a_t, .inr (6, [.ref a_t_forms, .ref a_t_roll, .ref a_t_row, .ref a_t_rows, .ref a_t_factors, .ref a_t_found, .ref a_t_foundOtherwise, .int c_t_acts, .int c_t_refusals, .int c_t_knocks])), (a_t_forms, .inl (cyJ, 6, .inr (.inl f_t_forms)))] sz) t) (va_A [(a_t, .inr (6, [.ref a_t_forms, .ref a_t_roll, .ref a_t_row, .ref a_t_rows, .ref a_t_factors, .ref a_t_found, .ref a_t_foundOtherwise, .int c_t_acts, .int c_t_refusals, .int c_t_knocks])), (a_t_forms, .inl (cyJ, 6, .inr (.inl f_t_forms)))] sz)) (vx_X (fun (_ : Unit) => ¬ xc = 0) (fun E _ t => E = xcls xc ∧ wQA D [(a_t, .inr (6, [.ref a_t_forms, .ref a_t_roll, .ref a_t_row, .ref a_t_rows, .ref a_t_factors, .ref a_t_found, .ref a_t_foundOtherwise, .int o_c_t_acts, .int o_c_t_refusals, .int c_t_knocks])), (a_t_forms, .inl (cyJ, 6, .inr (.inl o_f_t_forms)))] (va_A [(a_t, .inr (6, [.ref a_t_forms, .ref a_t_roll, .ref a_t_row, .ref a_t_rows, .ref a_t_factors, .ref a_t_found, .ref a_t_foundOtherwise, .int c_t_acts, .int c_t_refusals, .int c_t_knocks])), (a_t_forms, .inl (cyJ, 6, .inr (.inl f_t_forms)))] sz) t) (va_A [(a_t, .inr (6, [.ref a_t_forms, .ref a_t_roll, .ref a_t_row, .ref a_t_rows, .ref a_t_factors, .ref a_t_found, .ref a_t_foundOtherwise, .int c_t_acts, .int c_t_refusals, .int c_t_knocks])), (a_t_forms, .inl (cyJ, 6, .inr (.inl f_t_forms)))] sz)) 3 18 (va_A [(a_t, .inr (6, [.ref a_t_forms, .ref a_t_roll, .ref a_t_row, .ref a_t_rows, .ref a_t_factors, .ref a_t_found, .ref a_t_foundOtherwise, .int c_t_acts, .int c_t_refusals, .int c_t_knocks])), (a_t_forms, .inl (cyJ, 6, .inr (.inl f_t_forms)))] sz) := by
  refine vx_ofW (cc := cX7_seal) (maxL := 6) (ret := (some .int)) (by decide) rfl ?_
  intro p e s m args below meth c s₁ B hml hxt hv
  obtain ⟨rfl, ⟨⟨hsz, hP, hK, hD0, hnw⟩, hE⟩⟩ := hv
  have hx := B.exec
  have hb := B.bytes
  have hr := B.returns
  have hts := atoms_spec (ws := wsX7_seal) B.pre
  have hown : s.vm.findClass RX7 = some m.cls := findClass_of_methodNamed B.named
  have hlocks := B.notSynchronized
  have hcf : CallFix _ _ _ _ _ _ _ _ _ := ⟨hx, hb, hml, hown, hts⟩
  have hinX7 : ∀ w ∈ u_ws RX7 TX7 10, w ∈ wsX7_seal := by decide +kernel
  have hfl9 := hts (.fieldLink RX7 9 "Formwheel" "forms" "[J") (by decide +kernel)
  subst hsz
  have hD := hD0.self (sz := s.heap.size)
  generalize hAe : va_A [(a_t, .inr (6, [.ref a_t_forms, .ref a_t_roll, .ref a_t_row, .ref a_t_rows, .ref a_t_factors, .ref a_t_found, .ref a_t_foundOtherwise, .int c_t_acts, .int c_t_refusals, .int c_t_knocks])), (a_t_forms, .inl (cyJ, 6, .inr (.inl f_t_forms)))] s.heap.size = A at hD hE ⊢
  have hA : ∀ q : Nat, s.heap.size ≤ q → A q := fun q h => by rw [← hAe]; exact Or.inr h
  have hS : va_S A s.heap s.heap [] := va_S.rf
  have hP : va_P D vwCl [(a_t, .inr (6, [.ref a_t_forms, .ref a_t_roll, .ref a_t_row, .ref a_t_rows, .ref a_t_factors, .ref a_t_found, .ref a_t_foundOtherwise, .int c_t_acts, .int c_t_refusals, .int c_t_knocks])), (a_t_forms, .inl (cyJ, 6, .inr (.inl f_t_forms)))] s.heap := hP
  have hK0 := hK
  have hl := lv_entry ([.ref a_t, .int p0, .int p1, .int p2]) (n := 6) (Nat.le_of_ble_eq_true rfl)
  rw [lg_entry_eq]
  generalize (lg_sl ([.ref a_t, .int p0, .int p1, .int p2]) ++ List.replicate (6 - (lg_sl ([.ref a_t, .int p0, .int p1, .int p2])).length) Slot.unset).toArray = ls at hl ⊢
  have hl : lv_has ls 6 [(0, .ref a_t), (1, .int p0), (2, .int p1), (3, .int p2)] := hl
  have h := hF
  clear hF
  unfold F_X7_seal at h
  refine lv_iload_n hx hb dX7_seal_0 rfl (lv_at hl 1 rfl) ?_
  refine lv_iload_n hx hb dX7_seal_1 rfl (lv_at hl 2 rfl) ?_
  refine lv_iload_n hx hb dX7_seal_2 rfl (lv_at hl 3 rfl) ?_
  obtain ⟨xc3, hc3, h⟩ := obn_h h
  have hPc := hP.sub (ws' := []) [] rfl
  have hDc := hD.sub (ws' := []) [] (by decide) rfl
  refine hx_v (w1 := []) (wr := [(a_t, .inr (6, [.ref a_t_forms, .ref a_t_roll, .ref a_t_row, .ref a_t_rows, .ref a_t_factors, .ref a_t_found, .ref a_t_foundOtherwise, .int c_t_acts, .int c_t_refusals, .int c_t_knocks])), (a_t_forms, .inl (cyJ, 6, .inr (.inl f_t_forms)))]) (vx_runS (As := [.int p0, .int p1, .int p2]) (rest := []) hcf (c_X7_testForms l hfl D cyJ s.heap.size p0 p1 p2 xc3 hc3) (va_cwS 3 hts gX7_seal_X7_testForms rfl rfl rfl ydX7_testForms ⟨Nat.le_of_ble_eq_true rfl, Nat.le_of_ble_eq_true rfl⟩) ⟨bl_PX, pr_PX hPc hK0 hDc hnw hE hS (va_free hD hS hA [] rfl)⟩ rfl rfl hl.1 rfl (lv_room (Nat.le_of_ble_eq_true rfl)) dX7_seal_3 ⟨Nat.le_of_ble_eq_true rfl, Nat.le_of_ble_eq_true rfl⟩) hP hD hS hA [] [0, 1] rfl rfl (by decide) (by decide) (fun E9 ce9 q9 H locs hx9 hE9 hP hD hS hce9 hcv9 hcl9 => ?_) (fun hx9 H locs hP hD hS => ?_)
  · have h := if_ hx9 h
    have hP : va_P D vwCl [(a_t, .inr (6, [.ref a_t_forms, .ref a_t_roll, .ref a_t_row, .ref a_t_rows, .ref a_t_factors, .ref a_t_found, .ref a_t_foundOtherwise, .int c_t_acts, .int c_t_refusals, .int c_t_knocks])), (a_t_forms, .inl (cyJ, 6, .inr (.inl f_t_forms)))] H := hP
    have hD : va_D A [(a_t, .inr (6, [.ref a_t_forms, .ref a_t_roll, .ref a_t_row, .ref a_t_rows, .ref a_t_factors, .ref a_t_found, .ref a_t_foundOtherwise, .int c_t_acts, .int c_t_refusals, .int c_t_knocks])), (a_t_forms, .inl (cyJ, 6, .inr (.inl f_t_forms)))] := hD
    obtain ⟨e0, e1, e2, e3, e4⟩ := tup5 h
    subst e0
    subst e1
    subst e2
    subst e3
    subst e4
    have hP9 : va_P D vwCl [(a_t, .inr (6, [.ref a_t_forms, .ref a_t_roll, .ref a_t_row, .ref a_t_rows, .ref a_t_factors, .ref a_t_found, .ref a_t_foundOtherwise, .int c_t_acts, .int c_t_refusals, .int c_t_knocks])), (a_t_forms, .inl (cyJ, 6, .inr (.inl f_t_forms)))] H := hP.sub [0, 1] rfl
    have hD9 : va_D A [(a_t, .inr (6, [.ref a_t_forms, .ref a_t_roll, .ref a_t_row, .ref a_t_rows, .ref a_t_factors, .ref a_t_found, .ref a_t_foundOtherwise, .int c_t_acts, .int c_t_refusals, .int c_t_knocks])), (a_t_forms, .inl (cyJ, 6, .inr (.inl f_t_forms)))] := hD.sub [0, 1] (by decide) rfl
    exact vx_out (fun x hx => (hxt x hx).elim) hlocks hce9 hcv9 hcl9 (fun t ht hW => ⟨(), hx9, ⟨hE9, wQA_of ht hP9 hD9⟩, hS.F ht⟩) hS.2.2 (Nat.le_of_ble_eq_true rfl) (Nat.le_of_ble_eq_true rfl)
  · have h := it_ hx9 h
    have hP : va_P D vwCl [(a_t, .inr (6, [.ref a_t_forms, .ref a_t_roll, .ref a_t_row, .ref a_t_rows, .ref a_t_factors, .ref a_t_found, .ref a_t_foundOtherwise, .int c_t_acts, .int c_t_refusals, .int c_t_knocks])), (a_t_forms, .inl (cyJ, 6, .inr (.inl f_t_forms)))] H := hP
    have hD : va_D A [(a_t, .inr (6, [.ref a_t_forms, .ref a_t_roll, .ref a_t_row, .ref a_t_rows, .ref a_t_factors, .ref a_t_found, .ref a_t_foundOtherwise, .int c_t_acts, .int c_t_refusals, .int c_t_knocks])), (a_t_forms, .inl (cyJ, 6, .inr (.inl f_t_forms)))] := hD
    refine lv_aload_n hx hb dX7_seal_6 rfl (lv_at hl 0 rfl) ?_
    refine va_get (D := D) (ci := 6) (v := .ref a_t_forms) (C := RX7) (T := TX7) (N := 10) hx hb hts hinX7 hown hK hP 0 rfl rfl 0 (by decide) hfl9 (fun _ h9 => h9) rfl dX7_seal_7 ?_
    refine lv_iload_n hx hb dX7_seal_10 rfl (lv_at hl 2 rfl) ?_
    obtain ⟨hq11, h⟩ := chk_h h
    refine va_lald hx hb hK hP 1 0 rfl rfl hq11 dX7_seal_11 ?_
    obtain ⟨r12, hc12, h⟩ := obn_h h
    refine pz_callS (As := [.long (f_t_forms p1.toNatClampNeg)]) (rest := []) hcf (c_X0_degreeOf l (f_t_forms p1.toNatClampNeg) r12 hc12) (va_cwS 1 hts gX7_seal_X0_degreeOf rfl rfl rfl ydX0_degreeOf ⟨Nat.le_of_ble_eq_true rfl, Nat.le_of_ble_eq_true rfl⟩) hnw rfl hl.1 rfl (Nat.le_of_ble_eq_true rfl) dX7_seal_12 ⟨Nat.le_of_ble_eq_true rfl, Nat.le_of_ble_eq_true rfl⟩ ?_
    refine lv_iconst (v := 1) hx hb dX7_seal_15 (by decide) ?_
    refine lv_icmp_lt (tgt := 28) hx hb dX7_seal_16 (by decide) (fun c16 => ?_) (fun c16 => ?_)
    · have h := it_ c16 h
      refine lv_aload_n hx hb dX7_seal_28 rfl (lv_at hl 0 rfl) ?_
      obtain ⟨r29, c_t_refusals_29, hc29, h⟩ := obn2_h h
      have hPc := hP.sub (ws' := [(a_t, .inr (6, [.ref a_t_forms, .ref a_t_roll, .ref a_t_row, .ref a_t_rows, .ref a_t_factors, .ref a_t_found, .ref a_t_foundOtherwise, .int c_t_acts, .int c_t_refusals, .int c_t_knocks]))]) [0] rfl
      have hDc := hD.sub (ws' := [(a_t, .inr (6, [.ref a_t_forms, .ref a_t_roll, .ref a_t_row, .ref a_t_rows, .ref a_t_factors, .ref a_t_found, .ref a_t_foundOtherwise, .int c_t_acts, .int c_t_refusals, .int c_t_knocks]))]) [0] (by decide) rfl
      refine hp_i (w1 := [(a_t, .inr (6, [.ref a_t_forms, .ref a_t_roll, .ref a_t_row, .ref a_t_rows, .ref a_t_factors, .ref a_t_found, .ref a_t_foundOtherwise, .int c_t_acts, .int c_t_refusals_29, .int c_t_knocks]))]) (wr := [(a_t_forms, .inl (cyJ, 6, .inr (.inl f_t_forms)))]) (va_runV (As := []) (rest := []) hcf (c_X7_refuse l D cyJ H.size a_t a_t_forms a_t_roll a_t_row a_t_rows a_t_factors a_t_found a_t_foundOtherwise c_t_acts c_t_refusals c_t_knocks r29 c_t_refusals_29 hc29) (cwV 0 hts gX7_seal_X7_refuse rfl rfl rfl ydX7_refuse ⟨Nat.le_of_ble_eq_true rfl, Nat.le_of_ble_eq_true rfl⟩) ⟨bl_PD, va_recv hK hP (ci := 6) (q0 := 0) rfl rfl, pr_PD hPc hK0 hDc hnw⟩ rfl rfl hl.1 rfl (lv_room (Nat.le_of_ble_eq_true rfl)) dX7_seal_29 ⟨Nat.le_of_ble_eq_true rfl, Nat.le_of_ble_eq_true rfl⟩) hP hD hS hA [0] [1] rfl rfl (by decide) (by decide) (fun H locs hP hD hS => ?_)
      have hP : va_P D vwCl [(a_t_forms, .inl (cyJ, 6, .inr (.inl f_t_forms))), (a_t, .inr (6, [.ref a_t_forms, .ref a_t_roll, .ref a_t_row, .ref a_t_rows, .ref a_t_factors, .ref a_t_found, .ref a_t_foundOtherwise, .int c_t_acts, .int c_t_refusals_29, .int c_t_knocks]))] H := hP
      have hD : va_D A [(a_t_forms, .inl (cyJ, 6, .inr (.inl f_t_forms))), (a_t, .inr (6, [.ref a_t_forms, .ref a_t_roll, .ref a_t_row, .ref a_t_rows, .ref a_t_factors, .ref a_t_found, .ref a_t_foundOtherwise, .int c_t_acts, .int c_t_refusals_29, .int c_t_knocks]))] := hD
      obtain ⟨e0, e1, e2, e3, e4⟩ := tup5 h
      subst e0
      subst e1
      subst e2
      subst e3
      subst e4
      have hP9 : va_P D vwCl [(a_t, .inr (6, [.ref a_t_forms, .ref a_t_roll, .ref a_t_row, .ref a_t_rows, .ref a_t_factors, .ref a_t_found, .ref a_t_foundOtherwise, .int c_t_acts, .int c_t_refusals_29, .int c_t_knocks])), (a_t_forms, .inl (cyJ, 6, .inr (.inl f_t_forms)))] H := hP.sub [1, 0] rfl
      have hD9 : va_D A [(a_t, .inr (6, [.ref a_t_forms, .ref a_t_roll, .ref a_t_row, .ref a_t_rows, .ref a_t_factors, .ref a_t_found, .ref a_t_foundOtherwise, .int c_t_acts, .int c_t_refusals_29, .int c_t_knocks])), (a_t_forms, .inl (cyJ, 6, .inr (.inl f_t_forms)))] := hD.sub [1, 0] (by decide) rfl
      refine vx_ret ?_
      exact W.iret hx hb hr (fun t ht hW => ⟨⟨_, (), rfl, ⟨rfl, rfl⟩, wQA_of ht hP9 hD9⟩, hS.F ht⟩) hS.2.2 dX7_seal_32
    · have h := if_ c16 h
      refine lv_aload_n hx hb dX7_seal_19 rfl (lv_at hl 0 rfl) ?_
      refine lv_iload_n hx hb dX7_seal_20 rfl (lv_at hl 1 rfl) ?_
      refine lv_iload_n hx hb dX7_seal_21 rfl (lv_at hl 2 rfl) ?_
      obtain ⟨r22, hc22, h⟩ := obn_h h
      have hPc : va_P D vwCl [(a_t, .inr (6, [.ref a_t_forms, .ref a_t_roll, .ref a_t_row, .ref a_t_rows, .ref a_t_factors, .ref a_t_found, .ref a_t_foundOtherwise, .int c_t_acts, .int c_t_refusals, .int c_t_knocks])), (a_t_forms, .inl (cyJ, 6, .inr (.inl f_t_forms)))] H := hP.sub [0, 1] rfl
      refine rd_callV (As := [.int p0, .int p1]) (rest := []) hcf (c_X7_canBeSealed l D cyJ a_t a_t_forms a_t_roll a_t_row a_t_rows a_t_factors a_t_found a_t_foundOtherwise c_t_acts c_t_refusals c_t_knocks f_t_forms p0 p1 r22 hc22) (cwV 2 hts gX7_seal_X7_canBeSealed rfl rfl rfl ydX7_canBeSealed ⟨Nat.le_of_ble_eq_true rfl, Nat.le_of_ble_eq_true rfl⟩) hnw hPc hK0 (va_recv hK hP (ci := 6) (q0 := 0) rfl rfl) rfl hl.1 rfl (Nat.le_of_ble_eq_true rfl) dX7_seal_22 ⟨Nat.le_of_ble_eq_true rfl, Nat.le_of_ble_eq_true rfl⟩ ?_
      refine lv_if_ne (tgt := 33) hx hb dX7_seal_25 (by decide) (fun c25 => ?_) (fun c25 => ?_)
      · have h := if_ c25 h
        refine lv_aload_n hx hb dX7_seal_33 rfl (lv_at hl 0 rfl) ?_
        refine va_get (D := D) (ci := 6) (v := .ref a_t_forms) (C := RX7) (T := TX7) (N := 10) hx hb hts hinX7 hown hK hP 0 rfl rfl 0 (by decide) hfl9 (fun _ h9 => h9) rfl dX7_seal_34 ?_
        refine lv_iload_n hx hb dX7_seal_37 rfl (lv_at hl 1 rfl) ?_
        obtain ⟨hq38, h⟩ := chk_h h
        refine va_lald hx hb hK hP 1 0 rfl rfl hq38 dX7_seal_38 ?_
        refine lv_aload_n hx hb dX7_seal_39 rfl (lv_at hl 0 rfl) ?_
        refine va_get (D := D) (ci := 6) (v := .ref a_t_forms) (C := RX7) (T := TX7) (N := 10) hx hb hts hinX7 hown hK hP 0 rfl rfl 0 (by decide) hfl9 (fun _ h9 => h9) rfl dX7_seal_40 ?_
        refine lv_iload_n hx hb dX7_seal_43 rfl (lv_at hl 2 rfl) ?_
        obtain ⟨hq44, h⟩ := chk_h h
        refine va_lald hx hb hK hP 1 0 rfl rfl hq44 dX7_seal_44 ?_
        obtain ⟨r45, hc45, h⟩ := obn_h h
        refine pz_callS (As := [.long (f_t_forms p0.toNatClampNeg), .long (f_t_forms p1.toNatClampNeg)]) (rest := []) hcf (c_X0_checkOf l (f_t_forms p0.toNatClampNeg) (f_t_forms p1.toNatClampNeg) r45 hc45) (va_cwS 2 hts gX7_seal_X0_checkOf rfl rfl rfl ydX0_checkOf ⟨Nat.le_of_ble_eq_true rfl, Nat.le_of_ble_eq_true rfl⟩) hnw rfl hl.1 rfl (Nat.le_of_ble_eq_true rfl) dX7_seal_45 ⟨Nat.le_of_ble_eq_true rfl, Nat.le_of_ble_eq_true rfl⟩ ?_
        refine lv_lstore (lv' := [(4, .long r45), (0, .ref a_t), (1, .int p0), (2, .int p1), (3, .int p2)]) hx hb dX7_seal_48 hl (by decide) rfl (fun ls hl => ?_)
        refine lv_aload_n hx hb dX7_seal_50 rfl (lv_at hl 1 rfl) ?_
        refine va_get (D := D) (ci := 6) (v := .ref a_t_forms) (C := RX7) (T := TX7) (N := 10) hx hb hts hinX7 hown hK hP 0 rfl rfl 0 (by decide) hfl9 (fun _ h9 => h9) rfl dX7_seal_51 ?_
        refine lv_iload_n hx hb dX7_seal_54 rfl (lv_at hl 4 rfl) ?_
        refine lv_aload_n hx hb dX7_seal_55 rfl (lv_at hl 1 rfl) ?_
        refine va_get (D := D) (ci := 6) (v := .ref a_t_forms) (C := RX7) (T := TX7) (N := 10) hx hb hts hinX7 hown hK hP 0 rfl rfl 0 (by decide) hfl9 (fun _ h9 => h9) rfl dX7_seal_56 ?_
        refine lv_iload_n hx hb dX7_seal_59 rfl (lv_at hl 2 rfl) ?_
        obtain ⟨hq60, h⟩ := chk_h h
        refine va_lald hx hb hK hP 1 0 rfl rfl hq60 dX7_seal_60 ?_
        refine lv_aload_n hx hb dX7_seal_61 rfl (lv_at hl 1 rfl) ?_
        refine va_get (D := D) (ci := 6) (v := .ref a_t_forms) (C := RX7) (T := TX7) (N := 10) hx hb hts hinX7 hown hK hP 0 rfl rfl 0 (by decide) hfl9 (fun _ h9 => h9) rfl dX7_seal_62 ?_
        refine lv_iload_n hx hb dX7_seal_65 rfl (lv_at hl 3 rfl) ?_
        obtain ⟨hq66, h⟩ := chk_h h
        refine va_lald hx hb hK hP 1 0 rfl rfl hq66 dX7_seal_66 ?_
        obtain ⟨r67, hc67, h⟩ := obn_h h
        refine pz_callS (As := [.long (f_t_forms p1.toNatClampNeg)]) (rest := [.long (f_t_forms p0.toNatClampNeg), .int p2, .ref a_t_forms]) hcf (c_X0_degreeOf l (f_t_forms p1.toNatClampNeg) r67 hc67) (va_cwS 1 hts gX7_seal_X0_degreeOf rfl rfl rfl ydX0_degreeOf ⟨Nat.le_of_ble_eq_true rfl, Nat.le_of_ble_eq_true rfl⟩) hnw rfl hl.1 rfl (Nat.le_of_ble_eq_true rfl) dX7_seal_67 ⟨Nat.le_of_ble_eq_true rfl, Nat.le_of_ble_eq_true rfl⟩ ?_
        refine lv_lshl (v := (f_t_forms p0.toNatClampNeg) <<< (r67.toInt64 &&& 63)) hx hb dX7_seal_70 rfl ?_
        refine lv_lload hx hb dX7_seal_71 (lv_at hl 0 rfl) ?_
        refine lv_lxor hx hb dX7_seal_73 ?_
        obtain ⟨hq74, h⟩ := chk_h h
        refine va_last hx hb hK hP hD hS 1 0 rfl rfl hq74 dX7_seal_74 (fun H locs hP hD hS => ?_)
        obtain ⟨f_t_forms_74, e_f_t_forms_74⟩ : ∃ z, z = vp_updL f_t_forms p2.toNatClampNeg (((f_t_forms p0.toNatClampNeg) <<< (r67.toInt64 &&& 63)) ^^^ r45) := ⟨_, rfl⟩
        have h := bnd_h e_f_t_forms_74 h
        have hP : va_P D vwCl [(a_t, .inr (6, [.ref a_t_forms, .ref a_t_roll, .ref a_t_row, .ref a_t_rows, .ref a_t_factors, .ref a_t_found, .ref a_t_foundOtherwise, .int c_t_acts, .int c_t_refusals, .int c_t_knocks])), (a_t_forms, .inl (cyJ, 6, .inr (.inl f_t_forms_74)))] H := by rw [e_f_t_forms_74]; exact hP
        have hD : va_D A [(a_t, .inr (6, [.ref a_t_forms, .ref a_t_roll, .ref a_t_row, .ref a_t_rows, .ref a_t_factors, .ref a_t_found, .ref a_t_foundOtherwise, .int c_t_acts, .int c_t_refusals, .int c_t_knocks])), (a_t_forms, .inl (cyJ, 6, .inr (.inl f_t_forms_74)))] := by rw [e_f_t_forms_74]; exact hD
        refine lv_aload_n hx hb dX7_seal_75 rfl (lv_at hl 1 rfl) ?_
        refine lv_lload hx hb dX7_seal_76 (lv_at hl 0 rfl) ?_
        obtain ⟨r78, hc78, h⟩ := obn_h h
        refine pz_callS (As := [.long r45]) (rest := [.ref a_t]) hcf (c_X0_onesOf l r45 r78 hc78) (va_cwS 1 hts gX7_seal_X0_onesOf rfl rfl rfl ydX0_onesOf ⟨Nat.le_of_ble_eq_true rfl, Nat.le_of_ble_eq_true rfl⟩) hnw rfl hl.1 rfl (Nat.le_of_ble_eq_true rfl) dX7_seal_78 ⟨Nat.le_of_ble_eq_true rfl, Nat.le_of_ble_eq_true rfl⟩ ?_
        obtain ⟨r81, c_t_acts_81, hc81, h⟩ := obn2_h h
        have hPc := hP.sub (ws' := [(a_t, .inr (6, [.ref a_t_forms, .ref a_t_roll, .ref a_t_row, .ref a_t_rows, .ref a_t_factors, .ref a_t_found, .ref a_t_foundOtherwise, .int c_t_acts, .int c_t_refusals, .int c_t_knocks]))]) [0] rfl
        have hDc := hD.sub (ws' := [(a_t, .inr (6, [.ref a_t_forms, .ref a_t_roll, .ref a_t_row, .ref a_t_rows, .ref a_t_factors, .ref a_t_found, .ref a_t_foundOtherwise, .int c_t_acts, .int c_t_refusals, .int c_t_knocks]))]) [0] (by decide) rfl
        refine hp_i (w1 := [(a_t, .inr (6, [.ref a_t_forms, .ref a_t_roll, .ref a_t_row, .ref a_t_rows, .ref a_t_factors, .ref a_t_found, .ref a_t_foundOtherwise, .int c_t_acts_81, .int c_t_refusals, .int c_t_knocks]))]) (wr := [(a_t_forms, .inl (cyJ, 6, .inr (.inl f_t_forms_74)))]) (va_runV (As := [.int r78]) (rest := []) hcf (c_X7_done l D cyJ H.size a_t a_t_forms a_t_roll a_t_row a_t_rows a_t_factors a_t_found a_t_foundOtherwise c_t_acts c_t_refusals c_t_knocks r78 r81 c_t_acts_81 hc81) (cwV 1 hts gX7_seal_X7_done rfl rfl rfl ydX7_done ⟨Nat.le_of_ble_eq_true rfl, Nat.le_of_ble_eq_true rfl⟩) ⟨bl_PD, va_recv hK hP (ci := 6) (q0 := 0) rfl rfl, pr_PD hPc hK0 hDc hnw⟩ rfl rfl hl.1 rfl (lv_room (Nat.le_of_ble_eq_true rfl)) dX7_seal_81 ⟨Nat.le_of_ble_eq_true rfl, Nat.le_of_ble_eq_true rfl⟩) hP hD hS hA [0] [1] rfl rfl (by decide) (by decide) (fun H locs hP hD hS => ?_)
        have hP : va_P D vwCl [(a_t_forms, .inl (cyJ, 6, .inr (.inl f_t_forms_74))), (a_t, .inr (6, [.ref a_t_forms, .ref a_t_roll, .ref a_t_row, .ref a_t_rows, .ref a_t_factors, .ref a_t_found, .ref a_t_foundOtherwise, .int c_t_acts_81, .int c_t_refusals, .int c_t_knocks]))] H := hP
        have hD : va_D A [(a_t_forms, .inl (cyJ, 6, .inr (.inl f_t_forms_74))), (a_t, .inr (6, [.ref a_t_forms, .ref a_t_roll, .ref a_t_row, .ref a_t_rows, .ref a_t_factors, .ref a_t_found, .ref a_t_foundOtherwise, .int c_t_acts_81, .int c_t_refusals, .int c_t_knocks]))] := hD
        obtain ⟨e0, e1, e2, e3, e4⟩ := tup5 h
        subst e0
        subst e1
        subst e2
        subst e3
        subst e4
        have hP9 : va_P D vwCl [(a_t, .inr (6, [.ref a_t_forms, .ref a_t_roll, .ref a_t_row, .ref a_t_rows, .ref a_t_factors, .ref a_t_found, .ref a_t_foundOtherwise, .int c_t_acts_81, .int c_t_refusals, .int c_t_knocks])), (a_t_forms, .inl (cyJ, 6, .inr (.inl f_t_forms_74)))] H := hP.sub [1, 0] rfl
        have hD9 : va_D A [(a_t, .inr (6, [.ref a_t_forms, .ref a_t_roll, .ref a_t_row, .ref a_t_rows, .ref a_t_factors, .ref a_t_found, .ref a_t_foundOtherwise, .int c_t_acts_81, .int c_t_refusals, .int c_t_knocks])), (a_t_forms, .inl (cyJ, 6, .inr (.inl f_t_forms_74)))] := hD.sub [1, 0] (by decide) rfl
        refine vx_ret ?_
        exact W.iret hx hb hr (fun t ht hW => ⟨⟨_, (), rfl, ⟨rfl, rfl⟩, wQA_of ht hP9 hD9⟩, hS.F ht⟩) hS.2.2 dX7_seal_84
      · have h := it_ c25 h
        refine lv_aload_n hx hb dX7_seal_28 rfl (lv_at hl 0 rfl) ?_
        obtain ⟨r29, c_t_refusals_29, hc29, h⟩ := obn2_h h
        have hPc := hP.sub (ws' := [(a_t, .inr (6, [.ref a_t_forms, .ref a_t_roll, .ref a_t_row, .ref a_t_rows, .ref a_t_factors, .ref a_t_found, .ref a_t_foundOtherwise, .int c_t_acts, .int c_t_refusals, .int c_t_knocks]))]) [0] rfl
        have hDc := hD.sub (ws' := [(a_t, .inr (6, [.ref a_t_forms, .ref a_t_roll, .ref a_t_row, .ref a_t_rows, .ref a_t_factors, .ref a_t_found, .ref a_t_foundOtherwise, .int c_t_acts, .int c_t_refusals, .int c_t_knocks]))]) [0] (by decide) rfl
        refine hp_i (w1 := [(a_t, .inr (6, [.ref a_t_forms, .ref a_t_roll, .ref a_t_row, .ref a_t_rows, .ref a_t_factors, .ref a_t_found, .ref a_t_foundOtherwise, .int c_t_acts, .int c_t_refusals_29, .int c_t_knocks]))]) (wr := [(a_t_forms, .inl (cyJ, 6, .inr (.inl f_t_forms)))]) (va_runV (As := []) (rest := []) hcf (c_X7_refuse l D cyJ H.size a_t a_t_forms a_t_roll a_t_row a_t_rows a_t_factors a_t_found a_t_foundOtherwise c_t_acts c_t_refusals c_t_knocks r29 c_t_refusals_29 hc29) (cwV 0 hts gX7_seal_X7_refuse rfl rfl rfl ydX7_refuse ⟨Nat.le_of_ble_eq_true rfl, Nat.le_of_ble_eq_true rfl⟩) ⟨bl_PD, va_recv hK hP (ci := 6) (q0 := 0) rfl rfl, pr_PD hPc hK0 hDc hnw⟩ rfl rfl hl.1 rfl (lv_room (Nat.le_of_ble_eq_true rfl)) dX7_seal_29 ⟨Nat.le_of_ble_eq_true rfl, Nat.le_of_ble_eq_true rfl⟩) hP hD hS hA [0] [1] rfl rfl (by decide) (by decide) (fun H locs hP hD hS => ?_)
        have hP : va_P D vwCl [(a_t_forms, .inl (cyJ, 6, .inr (.inl f_t_forms))), (a_t, .inr (6, [.ref a_t_forms, .ref a_t_roll, .ref a_t_row, .ref a_t_rows, .ref a_t_factors, .ref a_t_found, .ref a_t_foundOtherwise, .int c_t_acts, .int c_t_refusals_29, .int c_t_knocks]))] H := hP
        have hD : va_D A [(a_t_forms, .inl (cyJ, 6, .inr (.inl f_t_forms))), (a_t, .inr (6, [.ref a_t_forms, .ref a_t_roll, .ref a_t_row, .ref a_t_rows, .ref a_t_factors, .ref a_t_found, .ref a_t_foundOtherwise, .int c_t_acts, .int c_t_refusals_29, .int c_t_knocks]))] := hD
        obtain ⟨e0, e1, e2, e3, e4⟩ := tup5 h
        subst e0
        subst e1
        subst e2
        subst e3
        subst e4
        have hP9 : va_P D vwCl [(a_t, .inr (6, [.ref a_t_forms, .ref a_t_roll, .ref a_t_row, .ref a_t_rows, .ref a_t_factors, .ref a_t_found, .ref a_t_foundOtherwise, .int c_t_acts, .int c_t_refusals_29, .int c_t_knocks])), (a_t_forms, .inl (cyJ, 6, .inr (.inl f_t_forms)))] H := hP.sub [1, 0] rfl
        have hD9 : va_D A [(a_t, .inr (6, [.ref a_t_forms, .ref a_t_roll, .ref a_t_row, .ref a_t_rows, .ref a_t_factors, .ref a_t_found, .ref a_t_foundOtherwise, .int c_t_acts, .int c_t_refusals_29, .int c_t_knocks])), (a_t_forms, .inl (cyJ, 6, .inr (.inl f_t_forms)))] := hD.sub [1, 0] (by decide) rfl
        refine vx_ret ?_
        exact W.iret hx hb hr (fun t ht hW => ⟨⟨_, (), rfl, ⟨rfl, rfl⟩, wQA_of ht hP9 hD9⟩, hS.F ht⟩) hS.2.2 dX7_seal_32

noncomputable abbrev rmX7_burst : Room := { frames := 9, cells := 3, slots := 18, locals := 122 }
theorem ydX7_burst : yX7_burst.cls = RX7 ∧ yX7_burst.cls ≠ "java/lang/invoke/MethodHandle" ∧ yX7_burst.cls ≠ "java/lang/invoke/VarHandle" ∧ (parseMethodDescriptor yX7_burst.desc).map (fun d => d.parameters.length) = some 3 := by decide +kernel
noncomputable def F_X7_burst (c_t_acts : Int32) (c_t_refusals : Int32) (f_t_forms : Nat → Int64) (p0 : Int32) (p1 : Int32) (p2 : Int32) : Option (Nat × Int32 × Int32 × Int32 × (Nat → Int64)) :=
 obn (F_X7_testForm p0) (fun xc1 =>
 if xc1 = 0 then
 obn (F_X7_testPlace p1) (fun xc5 =>
 if xc5 = 0 then
 obn (F_X7_testRange p2 (0 : Int32) (4095 : Int32)) (fun xc13 =>
 if xc13 = 0 then
 obn (F_X0_degreeOf p2.toInt64) (fun r18 =>
 (if (r18 + p1) ≤ (39 : Int32) then
 chk (¬ (p0 < 0 ∨ 6 ≤ p0.toNatClampNeg)) (
 chk (¬ (p0 < 0 ∨ 6 ≤ p0.toNatClampNeg)) (
 bnd (vp_updL f_t_forms p0.toNatClampNeg ((f_t_forms p0.toNatClampNeg) ^^^ (p2.toInt64 <<< (p1.toInt64 &&& 63)))) (fun f_t_forms_45 =>
 chk (¬ (p0 < 0 ∨ 6 ≤ p0.toNatClampNeg)) (
 obn (F_X0_onesOf (f_t_forms_45 p0.toNatClampNeg)) (fun r53 =>
 obn2 (F_X7_done c_t_acts r53) (fun r56 c_t_acts_56 =>
 some (0, r56, c_t_acts_56, c_t_refusals, f_t_forms_45)))))))
else
 obn2 (F_X7_refuse c_t_refusals) (fun r29 c_t_refusals_29 =>
 some (0, r29, c_t_acts, c_t_refusals_29, f_t_forms))))
else
 some (xc13, 0, c_t_acts, c_t_refusals, f_t_forms))
else
 some (xc5, 0, c_t_acts, c_t_refusals, f_t_forms))
else
 some (xc1, 0, c_t_acts, c_t_refusals, f_t_forms))
set_option maxHeartbeats 4000000 in
set_option maxRecDepth 100000 in
theorem c_X7_burst (l : Launch) (hfl : l.stackTraces = false) (D : va_G) (cyJ : ClassId) (sz : Nat) (a_t : Nat) (a_t_forms : Nat) (a_t_roll : Nat) (a_t_row : Nat) (a_t_rows : Nat) (a_t_factors : Nat) (a_t_found : Nat) (a_t_foundOtherwise : Nat) (c_t_acts : Int32) (c_t_refusals : Int32) (c_t_knocks : Int32) (f_t_forms : Nat → Int64) (p0 : Int32) (p1 : Int32) (p2 : Int32) (xc : Nat) (r0 : Int32) (o_c_t_acts : Int32) (o_c_t_refusals : Int32) (o_f_t_forms : Nat → Int64) (hF : F_X7_burst c_t_acts c_t_refusals f_t_forms p0 p1 p2 = some (xc, r0, o_c_t_acts, o_c_t_refusals, o_f_t_forms)) : vx_Met l yX7_burst wsX7_burst rmX7_burst (va_Pc [.ref a_t, .int p0, .int p1, .int p2] (wPX D [(cyJ, .long)] [(a_t, .inr (6, [.ref a_t_forms, .ref a_t_roll, .ref a_t_row, .ref a_t_rows, .ref a_t_factors, .ref a_t_found, .ref a_t_foundOtherwise, .int c_t_acts, .int c_t_refusals, .int c_t_knocks])), (a_t_forms, .inl (cyJ, 6, .inr (.inl f_t_forms)))] sz)) (va_Qi (fun (r : Int32) (_ : Unit) => xc = 0 ∧ r = r0) (fun _ t => wQA D [(a_t, .inr (6, [.ref a_t_forms, .ref a_t_roll, .ref a_t_row, .ref a_t_rows, .ref a_t_factors, .ref a_t_found, .ref a_t_foundOtherwise, .int o_c_t_acts, .int o_c_t_refusals, .int c_t_knocks])), (a_t_forms, .inl (cyJ, 6, .inr (.inl o_f_t_forms)))] (va_A [(a_t, .inr (6, [.ref a_t_forms, .ref a_t_roll, .ref a_t_row, .ref a_t_rows, .ref a_t_factors, .ref a_t_found, .ref a_t_foundOtherwise, .int c_t_acts, .int c_t_refusals, .int c_t_knocks])), (a_t_forms, .inl (cyJ, 6, .inr (.inl f_t_forms)))] sz) t) (va_A [(a_t, .inr (6, [.ref a_t_forms, .ref a_t_roll, .ref a_t_row, .ref a_t_rows, .ref a_t_factors, .ref a_t_found, .ref a_t_foundOtherwise, .int c_t_acts, .int c_t_refusals, .int c_t_knocks])), (a_t_forms, .inl (cyJ, 6, .inr (.inl f_t_forms)))] sz)) (vx_X (fun (_ : Unit) => ¬ xc = 0) (fun E _ t => E = xcls xc ∧ wQA D [(a_t, .inr (6, [.ref a_t_forms, .ref a_t_roll, .ref a_t_row, .ref a_t_rows, .ref a_t_factors, .ref a_t_found, .ref a_t_foundOtherwise, .int o_c_t_acts, .int o_c_t_refusals, .int c_t_knocks])), (a_t_forms, .inl (cyJ, 6, .inr (.inl o_f_t_forms)))] (va_A [(a_t, .inr (6, [.ref a_t_forms, .ref a_t_roll, .ref a_t_row, .ref a_t_rows, .ref a_t_factors, .ref a_t_found, .ref a_t_foundOtherwise, .int c_t_acts, .int c_t_refusals, .int c_t_knocks])), (a_t_forms, .inl (cyJ, 6, .inr (.inl f_t_forms)))] sz) t) (va_A [(a_t, .inr (6, [.ref a_t_forms, .ref a_t_roll, .ref a_t_row, .ref a_t_rows, .ref a_t_factors, .ref a_t_found, .ref a_t_foundOtherwise, .int c_t_acts, .int c_t_refusals, .int c_t_knocks])), (a_t_forms, .inl (cyJ, 6, .inr (.inl f_t_forms)))] sz)) 3 18 (va_A [(a_t, .inr (6, [.ref a_t_forms, .ref a_t_roll, .ref a_t_row, .ref a_t_rows, .ref a_t_factors, .ref a_t_found, .ref a_t_foundOtherwise, .int c_t_acts, .int c_t_refusals, .int c_t_knocks])), (a_t_forms, .inl (cyJ, 6, .inr (.inl f_t_forms)))] sz) := by
  refine vx_ofW (cc := cX7_burst) (maxL := 4) (ret := (some .int)) (by decide) rfl ?_
  intro p e s m args below meth c s₁ B hml hxt hv
  obtain ⟨rfl, ⟨⟨hsz, hP, hK, hD0, hnw⟩, hE⟩⟩ := hv
  have hx := B.exec
  have hb := B.bytes
  have hr := B.returns
  have hts := atoms_spec (ws := wsX7_burst) B.pre
  have hown : s.vm.findClass RX7 = some m.cls := findClass_of_methodNamed B.named
  have hlocks := B.notSynchronized
  have hcf : CallFix _ _ _ _ _ _ _ _ _ := ⟨hx, hb, hml, hown, hts⟩
  have hinX7 : ∀ w ∈ u_ws RX7 TX7 10, w ∈ wsX7_burst := by decide +kernel
  have hfl9 := hts (.fieldLink RX7 9 "Formwheel" "forms" "[J") (by decide +kernel)
  subst hsz
  have hD := hD0.self (sz := s.heap.size)
  generalize hAe : va_A [(a_t, .inr (6, [.ref a_t_forms, .ref a_t_roll, .ref a_t_row, .ref a_t_rows, .ref a_t_factors, .ref a_t_found, .ref a_t_foundOtherwise, .int c_t_acts, .int c_t_refusals, .int c_t_knocks])), (a_t_forms, .inl (cyJ, 6, .inr (.inl f_t_forms)))] s.heap.size = A at hD hE ⊢
  have hA : ∀ q : Nat, s.heap.size ≤ q → A q := fun q h => by rw [← hAe]; exact Or.inr h
  have hS : va_S A s.heap s.heap [] := va_S.rf
  have hP : va_P D vwCl [(a_t, .inr (6, [.ref a_t_forms, .ref a_t_roll, .ref a_t_row, .ref a_t_rows, .ref a_t_factors, .ref a_t_found, .ref a_t_foundOtherwise, .int c_t_acts, .int c_t_refusals, .int c_t_knocks])), (a_t_forms, .inl (cyJ, 6, .inr (.inl f_t_forms)))] s.heap := hP
  have hK0 := hK
  have hl := lv_entry ([.ref a_t, .int p0, .int p1, .int p2]) (n := 4) (Nat.le_of_ble_eq_true rfl)
  rw [lg_entry_eq]
  generalize (lg_sl ([.ref a_t, .int p0, .int p1, .int p2]) ++ List.replicate (4 - (lg_sl ([.ref a_t, .int p0, .int p1, .int p2])).length) Slot.unset).toArray = ls at hl ⊢
  have hl : lv_has ls 4 [(0, .ref a_t), (1, .int p0), (2, .int p1), (3, .int p2)] := hl
  have h := hF
  clear hF
  unfold F_X7_burst at h
  refine lv_iload_n hx hb dX7_burst_0 rfl (lv_at hl 1 rfl) ?_
  obtain ⟨xc1, hc1, h⟩ := obn_h h
  have hPc := hP.sub (ws' := []) [] rfl
  have hDc := hD.sub (ws' := []) [] (by decide) rfl
  refine hx_v (w1 := []) (wr := [(a_t, .inr (6, [.ref a_t_forms, .ref a_t_roll, .ref a_t_row, .ref a_t_rows, .ref a_t_factors, .ref a_t_found, .ref a_t_foundOtherwise, .int c_t_acts, .int c_t_refusals, .int c_t_knocks])), (a_t_forms, .inl (cyJ, 6, .inr (.inl f_t_forms)))]) (vx_runS (As := [.int p0]) (rest := []) hcf (c_X7_testForm l hfl D cyJ s.heap.size p0 xc1 hc1) (va_cwS 1 hts gX7_burst_X7_testForm rfl rfl rfl ydX7_testForm ⟨Nat.le_of_ble_eq_true rfl, Nat.le_of_ble_eq_true rfl⟩) ⟨bl_PX, pr_PX hPc hK0 hDc hnw hE hS (va_free hD hS hA [] rfl)⟩ rfl rfl hl.1 rfl (lv_room (Nat.le_of_ble_eq_true rfl)) dX7_burst_1 ⟨Nat.le_of_ble_eq_true rfl, Nat.le_of_ble_eq_true rfl⟩) hP hD hS hA [] [0, 1] rfl rfl (by decide) (by decide) (fun E9 ce9 q9 H locs hx9 hE9 hP hD hS hce9 hcv9 hcl9 => ?_) (fun hx9 H locs hP hD hS => ?_)
  · have h := if_ hx9 h
    have hP : va_P D vwCl [(a_t, .inr (6, [.ref a_t_forms, .ref a_t_roll, .ref a_t_row, .ref a_t_rows, .ref a_t_factors, .ref a_t_found, .ref a_t_foundOtherwise, .int c_t_acts, .int c_t_refusals, .int c_t_knocks])), (a_t_forms, .inl (cyJ, 6, .inr (.inl f_t_forms)))] H := hP
    have hD : va_D A [(a_t, .inr (6, [.ref a_t_forms, .ref a_t_roll, .ref a_t_row, .ref a_t_rows, .ref a_t_factors, .ref a_t_found, .ref a_t_foundOtherwise, .int c_t_acts, .int c_t_refusals, .int c_t_knocks])), (a_t_forms, .inl (cyJ, 6, .inr (.inl f_t_forms)))] := hD
    obtain ⟨e0, e1, e2, e3, e4⟩ := tup5 h
    subst e0
    subst e1
    subst e2
    subst e3
    subst e4
    have hP9 : va_P D vwCl [(a_t, .inr (6, [.ref a_t_forms, .ref a_t_roll, .ref a_t_row, .ref a_t_rows, .ref a_t_factors, .ref a_t_found, .ref a_t_foundOtherwise, .int c_t_acts, .int c_t_refusals, .int c_t_knocks])), (a_t_forms, .inl (cyJ, 6, .inr (.inl f_t_forms)))] H := hP.sub [0, 1] rfl
    have hD9 : va_D A [(a_t, .inr (6, [.ref a_t_forms, .ref a_t_roll, .ref a_t_row, .ref a_t_rows, .ref a_t_factors, .ref a_t_found, .ref a_t_foundOtherwise, .int c_t_acts, .int c_t_refusals, .int c_t_knocks])), (a_t_forms, .inl (cyJ, 6, .inr (.inl f_t_forms)))] := hD.sub [0, 1] (by decide) rfl
    exact vx_out (fun x hx => (hxt x hx).elim) hlocks hce9 hcv9 hcl9 (fun t ht hW => ⟨(), hx9, ⟨hE9, wQA_of ht hP9 hD9⟩, hS.F ht⟩) hS.2.2 (Nat.le_of_ble_eq_true rfl) (Nat.le_of_ble_eq_true rfl)
  · have h := it_ hx9 h
    have hP : va_P D vwCl [(a_t, .inr (6, [.ref a_t_forms, .ref a_t_roll, .ref a_t_row, .ref a_t_rows, .ref a_t_factors, .ref a_t_found, .ref a_t_foundOtherwise, .int c_t_acts, .int c_t_refusals, .int c_t_knocks])), (a_t_forms, .inl (cyJ, 6, .inr (.inl f_t_forms)))] H := hP
    have hD : va_D A [(a_t, .inr (6, [.ref a_t_forms, .ref a_t_roll, .ref a_t_row, .ref a_t_rows, .ref a_t_factors, .ref a_t_found, .ref a_t_foundOtherwise, .int c_t_acts, .int c_t_refusals, .int c_t_knocks])), (a_t_forms, .inl (cyJ, 6, .inr (.inl f_t_forms)))] := hD
    refine lv_iload_n hx hb dX7_burst_4 rfl (lv_at hl 2 rfl) ?_
    obtain ⟨xc5, hc5, h⟩ := obn_h h
    have hPc := hP.sub (ws' := []) [] rfl
    have hDc := hD.sub (ws' := []) [] (by decide) rfl
    refine hx_v (w1 := []) (wr := [(a_t, .inr (6, [.ref a_t_forms, .ref a_t_roll, .ref a_t_row, .ref a_t_rows, .ref a_t_factors, .ref a_t_found, .ref a_t_foundOtherwise, .int c_t_acts, .int c_t_refusals, .int c_t_knocks])), (a_t_forms, .inl (cyJ, 6, .inr (.inl f_t_forms)))]) (vx_runS (As := [.int p1]) (rest := []) hcf (c_X7_testPlace l hfl D cyJ H.size p1 xc5 hc5) (va_cwS 1 hts gX7_burst_X7_testPlace rfl rfl rfl ydX7_testPlace ⟨Nat.le_of_ble_eq_true rfl, Nat.le_of_ble_eq_true rfl⟩) ⟨bl_PX, pr_PX hPc hK0 hDc hnw hE hS (va_free hD hS hA [] rfl)⟩ rfl rfl hl.1 rfl (lv_room (Nat.le_of_ble_eq_true rfl)) dX7_burst_5 ⟨Nat.le_of_ble_eq_true rfl, Nat.le_of_ble_eq_true rfl⟩) hP hD hS hA [] [0, 1] rfl rfl (by decide) (by decide) (fun E9 ce9 q9 H locs hx9 hE9 hP hD hS hce9 hcv9 hcl9 => ?_) (fun hx9 H locs hP hD hS => ?_)
    · have h := if_ hx9 h
      have hP : va_P D vwCl [(a_t, .inr (6, [.ref a_t_forms, .ref a_t_roll, .ref a_t_row, .ref a_t_rows, .ref a_t_factors, .ref a_t_found, .ref a_t_foundOtherwise, .int c_t_acts, .int c_t_refusals, .int c_t_knocks])), (a_t_forms, .inl (cyJ, 6, .inr (.inl f_t_forms)))] H := hP
      have hD : va_D A [(a_t, .inr (6, [.ref a_t_forms, .ref a_t_roll, .ref a_t_row, .ref a_t_rows, .ref a_t_factors, .ref a_t_found, .ref a_t_foundOtherwise, .int c_t_acts, .int c_t_refusals, .int c_t_knocks])), (a_t_forms, .inl (cyJ, 6, .inr (.inl f_t_forms)))] := hD
      obtain ⟨e0, e1, e2, e3, e4⟩ := tup5 h
      subst e0
      subst e1
      subst e2
      subst e3
      subst e4
      have hP9 : va_P D vwCl [(a_t, .inr (6, [.ref a_t_forms, .ref a_t_roll, .ref a_t_row, .ref a_t_rows, .ref a_t_factors, .ref a_t_found, .ref a_t_foundOtherwise, .int c_t_acts, .int c_t_refusals, .int c_t_knocks])), (a_t_forms, .inl (cyJ, 6, .inr (.inl f_t_forms)))] H := hP.sub [0, 1] rfl
      have hD9 : va_D A [(a_t, .inr (6, [.ref a_t_forms, .ref a_t_roll, .ref a_t_row, .ref a_t_rows, .ref a_t_factors, .ref a_t_found, .ref a_t_foundOtherwise, .int c_t_acts, .int c_t_refusals, .int c_t_knocks])), (a_t_forms, .inl (cyJ, 6, .inr (.inl f_t_forms)))] := hD.sub [0, 1] (by decide) rfl
      exact vx_out (fun x hx => (hxt x hx).elim) hlocks hce9 hcv9 hcl9 (fun t ht hW => ⟨(), hx9, ⟨hE9, wQA_of ht hP9 hD9⟩, hS.F ht⟩) hS.2.2 (Nat.le_of_ble_eq_true rfl) (Nat.le_of_ble_eq_true rfl)
    · have h := it_ hx9 h
      have hP : va_P D vwCl [(a_t, .inr (6, [.ref a_t_forms, .ref a_t_roll, .ref a_t_row, .ref a_t_rows, .ref a_t_factors, .ref a_t_found, .ref a_t_foundOtherwise, .int c_t_acts, .int c_t_refusals, .int c_t_knocks])), (a_t_forms, .inl (cyJ, 6, .inr (.inl f_t_forms)))] H := hP
      have hD : va_D A [(a_t, .inr (6, [.ref a_t_forms, .ref a_t_roll, .ref a_t_row, .ref a_t_rows, .ref a_t_factors, .ref a_t_found, .ref a_t_foundOtherwise, .int c_t_acts, .int c_t_refusals, .int c_t_knocks])), (a_t_forms, .inl (cyJ, 6, .inr (.inl f_t_forms)))] := hD
      refine lv_iload_n hx hb dX7_burst_8 rfl (lv_at hl 3 rfl) ?_
      refine lv_iconst (v := 0) hx hb dX7_burst_9 (by decide) ?_
      refine lv_sipush (v := 4095) hx hb dX7_burst_10 (by decide) ?_
      obtain ⟨xc13, hc13, h⟩ := obn_h h
      have hPc := hP.sub (ws' := []) [] rfl
      have hDc := hD.sub (ws' := []) [] (by decide) rfl
      refine hx_v (w1 := []) (wr := [(a_t, .inr (6, [.ref a_t_forms, .ref a_t_roll, .ref a_t_row, .ref a_t_rows, .ref a_t_factors, .ref a_t_found, .ref a_t_foundOtherwise, .int c_t_acts, .int c_t_refusals, .int c_t_knocks])), (a_t_forms, .inl (cyJ, 6, .inr (.inl f_t_forms)))]) (vx_runS (As := [.int p2, .int (0 : Int32), .int (4095 : Int32)]) (rest := []) hcf (c_X7_testRange l hfl D cyJ H.size p2 (0 : Int32) (4095 : Int32) xc13 hc13) (va_cwS 3 hts gX7_burst_X7_testRange rfl rfl rfl ydX7_testRange ⟨Nat.le_of_ble_eq_true rfl, Nat.le_of_ble_eq_true rfl⟩) ⟨bl_PX, pr_PX hPc hK0 hDc hnw hE hS (va_free hD hS hA [] rfl)⟩ rfl rfl hl.1 rfl (lv_room (Nat.le_of_ble_eq_true rfl)) dX7_burst_13 ⟨Nat.le_of_ble_eq_true rfl, Nat.le_of_ble_eq_true rfl⟩) hP hD hS hA [] [0, 1] rfl rfl (by decide) (by decide) (fun E9 ce9 q9 H locs hx9 hE9 hP hD hS hce9 hcv9 hcl9 => ?_) (fun hx9 H locs hP hD hS => ?_)
      · have h := if_ hx9 h
        have hP : va_P D vwCl [(a_t, .inr (6, [.ref a_t_forms, .ref a_t_roll, .ref a_t_row, .ref a_t_rows, .ref a_t_factors, .ref a_t_found, .ref a_t_foundOtherwise, .int c_t_acts, .int c_t_refusals, .int c_t_knocks])), (a_t_forms, .inl (cyJ, 6, .inr (.inl f_t_forms)))] H := hP
        have hD : va_D A [(a_t, .inr (6, [.ref a_t_forms, .ref a_t_roll, .ref a_t_row, .ref a_t_rows, .ref a_t_factors, .ref a_t_found, .ref a_t_foundOtherwise, .int c_t_acts, .int c_t_refusals, .int c_t_knocks])), (a_t_forms, .inl (cyJ, 6, .inr (.inl f_t_forms)))] := hD
        obtain ⟨e0, e1, e2, e3, e4⟩ := tup5 h
        subst e0
        subst e1
        subst e2
        subst e3
        subst e4
        have hP9 : va_P D vwCl [(a_t, .inr (6, [.ref a_t_forms, .ref a_t_roll, .ref a_t_row, .ref a_t_rows, .ref a_t_factors, .ref a_t_found, .ref a_t_foundOtherwise, .int c_t_acts, .int c_t_refusals, .int c_t_knocks])), (a_t_forms, .inl (cyJ, 6, .inr (.inl f_t_forms)))] H := hP.sub [0, 1] rfl
        have hD9 : va_D A [(a_t, .inr (6, [.ref a_t_forms, .ref a_t_roll, .ref a_t_row, .ref a_t_rows, .ref a_t_factors, .ref a_t_found, .ref a_t_foundOtherwise, .int c_t_acts, .int c_t_refusals, .int c_t_knocks])), (a_t_forms, .inl (cyJ, 6, .inr (.inl f_t_forms)))] := hD.sub [0, 1] (by decide) rfl
        exact vx_out (fun x hx => (hxt x hx).elim) hlocks hce9 hcv9 hcl9 (fun t ht hW => ⟨(), hx9, ⟨hE9, wQA_of ht hP9 hD9⟩, hS.F ht⟩) hS.2.2 (Nat.le_of_ble_eq_true rfl) (Nat.le_of_ble_eq_true rfl)
      · have h := it_ hx9 h
        have hP : va_P D vwCl [(a_t, .inr (6, [.ref a_t_forms, .ref a_t_roll, .ref a_t_row, .ref a_t_rows, .ref a_t_factors, .ref a_t_found, .ref a_t_foundOtherwise, .int c_t_acts, .int c_t_refusals, .int c_t_knocks])), (a_t_forms, .inl (cyJ, 6, .inr (.inl f_t_forms)))] H := hP
        have hD : va_D A [(a_t, .inr (6, [.ref a_t_forms, .ref a_t_roll, .ref a_t_row, .ref a_t_rows, .ref a_t_factors, .ref a_t_found, .ref a_t_foundOtherwise, .int c_t_acts, .int c_t_refusals, .int c_t_knocks])), (a_t_forms, .inl (cyJ, 6, .inr (.inl f_t_forms)))] := hD
        refine lv_iload_n hx hb dX7_burst_16 rfl (lv_at hl 3 rfl) ?_
        refine lv_i2l (v := p2.toInt64) hx hb dX7_burst_17 rfl ?_
        obtain ⟨r18, hc18, h⟩ := obn_h h
        refine pz_callS (As := [.long p2.toInt64]) (rest := []) hcf (c_X0_degreeOf l p2.toInt64 r18 hc18) (va_cwS 1 hts gX7_burst_X0_degreeOf rfl rfl rfl ydX0_degreeOf ⟨Nat.le_of_ble_eq_true rfl, Nat.le_of_ble_eq_true rfl⟩) hnw rfl hl.1 rfl (Nat.le_of_ble_eq_true rfl) dX7_burst_18 ⟨Nat.le_of_ble_eq_true rfl, Nat.le_of_ble_eq_true rfl⟩ ?_
        refine lv_iload_n hx hb dX7_burst_21 rfl (lv_at hl 2 rfl) ?_
        refine lv_iadd hx hb dX7_burst_22 ?_
        refine lv_bipush (v := 39) hx hb dX7_burst_23 (by decide) ?_
        refine lv_icmp_le (tgt := 33) hx hb dX7_burst_25 (by decide) (fun c25 => ?_) (fun c25 => ?_)
        · have h := it_ c25 h
          refine lv_aload_n hx hb dX7_burst_33 rfl (lv_at hl 0 rfl) ?_
          refine va_get (D := D) (ci := 6) (v := .ref a_t_forms) (C := RX7) (T := TX7) (N := 10) hx hb hts hinX7 hown hK hP 0 rfl rfl 0 (by decide) hfl9 (fun _ h9 => h9) rfl dX7_burst_34 ?_
          refine lv_iload_n hx hb dX7_burst_37 rfl (lv_at hl 1 rfl) ?_
          refine lv_dup2_11 hx hb dX7_burst_38 rfl rfl ?_
          obtain ⟨hq39, h⟩ := chk_h h
          refine va_lald hx hb hK hP 1 0 rfl rfl hq39 dX7_burst_39 ?_
          refine lv_iload_n hx hb dX7_burst_40 rfl (lv_at hl 3 rfl) ?_
          refine lv_i2l (v := p2.toInt64) hx hb dX7_burst_41 rfl ?_
          refine lv_iload_n hx hb dX7_burst_42 rfl (lv_at hl 2 rfl) ?_
          refine lv_lshl (v := p2.toInt64 <<< (p1.toInt64 &&& 63)) hx hb dX7_burst_43 rfl ?_
          refine lv_lxor hx hb dX7_burst_44 ?_
          obtain ⟨hq45, h⟩ := chk_h h
          refine va_last hx hb hK hP hD hS 1 0 rfl rfl hq45 dX7_burst_45 (fun H locs hP hD hS => ?_)
          obtain ⟨f_t_forms_45, e_f_t_forms_45⟩ : ∃ z, z = vp_updL f_t_forms p0.toNatClampNeg ((f_t_forms p0.toNatClampNeg) ^^^ (p2.toInt64 <<< (p1.toInt64 &&& 63))) := ⟨_, rfl⟩
          have h := bnd_h e_f_t_forms_45 h
          have hP : va_P D vwCl [(a_t, .inr (6, [.ref a_t_forms, .ref a_t_roll, .ref a_t_row, .ref a_t_rows, .ref a_t_factors, .ref a_t_found, .ref a_t_foundOtherwise, .int c_t_acts, .int c_t_refusals, .int c_t_knocks])), (a_t_forms, .inl (cyJ, 6, .inr (.inl f_t_forms_45)))] H := by rw [e_f_t_forms_45]; exact hP
          have hD : va_D A [(a_t, .inr (6, [.ref a_t_forms, .ref a_t_roll, .ref a_t_row, .ref a_t_rows, .ref a_t_factors, .ref a_t_found, .ref a_t_foundOtherwise, .int c_t_acts, .int c_t_refusals, .int c_t_knocks])), (a_t_forms, .inl (cyJ, 6, .inr (.inl f_t_forms_45)))] := by rw [e_f_t_forms_45]; exact hD
          refine lv_aload_n hx hb dX7_burst_46 rfl (lv_at hl 0 rfl) ?_
          refine lv_aload_n hx hb dX7_burst_47 rfl (lv_at hl 0 rfl) ?_
          refine va_get (D := D) (ci := 6) (v := .ref a_t_forms) (C := RX7) (T := TX7) (N := 10) hx hb hts hinX7 hown hK hP 0 rfl rfl 0 (by decide) hfl9 (fun _ h9 => h9) rfl dX7_burst_48 ?_
          refine lv_iload_n hx hb dX7_burst_51 rfl (lv_at hl 1 rfl) ?_
          obtain ⟨hq52, h⟩ := chk_h h
          refine va_lald hx hb hK hP 1 0 rfl rfl hq52 dX7_burst_52 ?_
          obtain ⟨r53, hc53, h⟩ := obn_h h
          refine pz_callS (As := [.long (f_t_forms_45 p0.toNatClampNeg)]) (rest := [.ref a_t]) hcf (c_X0_onesOf l (f_t_forms_45 p0.toNatClampNeg) r53 hc53) (va_cwS 1 hts gX7_burst_X0_onesOf rfl rfl rfl ydX0_onesOf ⟨Nat.le_of_ble_eq_true rfl, Nat.le_of_ble_eq_true rfl⟩) hnw rfl hl.1 rfl (Nat.le_of_ble_eq_true rfl) dX7_burst_53 ⟨Nat.le_of_ble_eq_true rfl, Nat.le_of_ble_eq_true rfl⟩ ?_
          obtain ⟨r56, c_t_acts_56, hc56, h⟩ := obn2_h h
          have hPc := hP.sub (ws' := [(a_t, .inr (6, [.ref a_t_forms, .ref a_t_roll, .ref a_t_row, .ref a_t_rows, .ref a_t_factors, .ref a_t_found, .ref a_t_foundOtherwise, .int c_t_acts, .int c_t_refusals, .int c_t_knocks]))]) [0] rfl
          have hDc := hD.sub (ws' := [(a_t, .inr (6, [.ref a_t_forms, .ref a_t_roll, .ref a_t_row, .ref a_t_rows, .ref a_t_factors, .ref a_t_found, .ref a_t_foundOtherwise, .int c_t_acts, .int c_t_refusals, .int c_t_knocks]))]) [0] (by decide) rfl
          refine hp_i (w1 := [(a_t, .inr (6, [.ref a_t_forms, .ref a_t_roll, .ref a_t_row, .ref a_t_rows, .ref a_t_factors, .ref a_t_found, .ref a_t_foundOtherwise, .int c_t_acts_56, .int c_t_refusals, .int c_t_knocks]))]) (wr := [(a_t_forms, .inl (cyJ, 6, .inr (.inl f_t_forms_45)))]) (va_runV (As := [.int r53]) (rest := []) hcf (c_X7_done l D cyJ H.size a_t a_t_forms a_t_roll a_t_row a_t_rows a_t_factors a_t_found a_t_foundOtherwise c_t_acts c_t_refusals c_t_knocks r53 r56 c_t_acts_56 hc56) (cwV 1 hts gX7_burst_X7_done rfl rfl rfl ydX7_done ⟨Nat.le_of_ble_eq_true rfl, Nat.le_of_ble_eq_true rfl⟩) ⟨bl_PD, va_recv hK hP (ci := 6) (q0 := 0) rfl rfl, pr_PD hPc hK0 hDc hnw⟩ rfl rfl hl.1 rfl (lv_room (Nat.le_of_ble_eq_true rfl)) dX7_burst_56 ⟨Nat.le_of_ble_eq_true rfl, Nat.le_of_ble_eq_true rfl⟩) hP hD hS hA [0] [1] rfl rfl (by decide) (by decide) (fun H locs hP hD hS => ?_)
          have hP : va_P D vwCl [(a_t_forms, .inl (cyJ, 6, .inr (.inl f_t_forms_45))), (a_t, .inr (6, [.ref a_t_forms, .ref a_t_roll, .ref a_t_row, .ref a_t_rows, .ref a_t_factors, .ref a_t_found, .ref a_t_foundOtherwise, .int c_t_acts_56, .int c_t_refusals, .int c_t_knocks]))] H := hP
          have hD : va_D A [(a_t_forms, .inl (cyJ, 6, .inr (.inl f_t_forms_45))), (a_t, .inr (6, [.ref a_t_forms, .ref a_t_roll, .ref a_t_row, .ref a_t_rows, .ref a_t_factors, .ref a_t_found, .ref a_t_foundOtherwise, .int c_t_acts_56, .int c_t_refusals, .int c_t_knocks]))] := hD
          obtain ⟨e0, e1, e2, e3, e4⟩ := tup5 h
          subst e0
          subst e1
          subst e2
          subst e3
          subst e4
          have hP9 : va_P D vwCl [(a_t, .inr (6, [.ref a_t_forms, .ref a_t_roll, .ref a_t_row, .ref a_t_rows, .ref a_t_factors, .ref a_t_found, .ref a_t_foundOtherwise, .int c_t_acts_56, .int c_t_refusals, .int c_t_knocks])), (a_t_forms, .inl (cyJ, 6, .inr (.inl f_t_forms_45)))] H := hP.sub [1, 0] rfl
          have hD9 : va_D A [(a_t, .inr (6, [.ref a_t_forms, .ref a_t_roll, .ref a_t_row, .ref a_t_rows, .ref a_t_factors, .ref a_t_found, .ref a_t_foundOtherwise, .int c_t_acts_56, .int c_t_refusals, .int c_t_knocks])), (a_t_forms, .inl (cyJ, 6, .inr (.inl f_t_forms_45)))] := hD.sub [1, 0] (by decide) rfl
          refine vx_ret ?_
          exact W.iret hx hb hr (fun t ht hW => ⟨⟨_, (), rfl, ⟨rfl, rfl⟩, wQA_of ht hP9 hD9⟩, hS.F ht⟩) hS.2.2 dX7_burst_59
        · have h := if_ c25 h
          refine lv_aload_n hx hb dX7_burst_28 rfl (lv_at hl 0 rfl) ?_
          obtain ⟨r29, c_t_refusals_29, hc29, h⟩ := obn2_h h
          have hPc := hP.sub (ws' := [(a_t, .inr (6, [.ref a_t_forms, .ref a_t_roll, .ref a_t_row, .ref a_t_rows, .ref a_t_factors, .ref a_t_found, .ref a_t_foundOtherwise, .int c_t_acts, .int c_t_refusals, .int c_t_knocks]))]) [0] rfl
          have hDc := hD.sub (ws' := [(a_t, .inr (6, [.ref a_t_forms, .ref a_t_roll, .ref a_t_row, .ref a_t_rows, .ref a_t_factors, .ref a_t_found, .ref a_t_foundOtherwise, .int c_t_acts, .int c_t_refusals, .int c_t_knocks]))]) [0] (by decide) rfl
          refine hp_i (w1 := [(a_t, .inr (6, [.ref a_t_forms, .ref a_t_roll, .ref a_t_row, .ref a_t_rows, .ref a_t_factors, .ref a_t_found, .ref a_t_foundOtherwise, .int c_t_acts, .int c_t_refusals_29, .int c_t_knocks]))]) (wr := [(a_t_forms, .inl (cyJ, 6, .inr (.inl f_t_forms)))]) (va_runV (As := []) (rest := []) hcf (c_X7_refuse l D cyJ H.size a_t a_t_forms a_t_roll a_t_row a_t_rows a_t_factors a_t_found a_t_foundOtherwise c_t_acts c_t_refusals c_t_knocks r29 c_t_refusals_29 hc29) (cwV 0 hts gX7_burst_X7_refuse rfl rfl rfl ydX7_refuse ⟨Nat.le_of_ble_eq_true rfl, Nat.le_of_ble_eq_true rfl⟩) ⟨bl_PD, va_recv hK hP (ci := 6) (q0 := 0) rfl rfl, pr_PD hPc hK0 hDc hnw⟩ rfl rfl hl.1 rfl (lv_room (Nat.le_of_ble_eq_true rfl)) dX7_burst_29 ⟨Nat.le_of_ble_eq_true rfl, Nat.le_of_ble_eq_true rfl⟩) hP hD hS hA [0] [1] rfl rfl (by decide) (by decide) (fun H locs hP hD hS => ?_)
          have hP : va_P D vwCl [(a_t_forms, .inl (cyJ, 6, .inr (.inl f_t_forms))), (a_t, .inr (6, [.ref a_t_forms, .ref a_t_roll, .ref a_t_row, .ref a_t_rows, .ref a_t_factors, .ref a_t_found, .ref a_t_foundOtherwise, .int c_t_acts, .int c_t_refusals_29, .int c_t_knocks]))] H := hP
          have hD : va_D A [(a_t_forms, .inl (cyJ, 6, .inr (.inl f_t_forms))), (a_t, .inr (6, [.ref a_t_forms, .ref a_t_roll, .ref a_t_row, .ref a_t_rows, .ref a_t_factors, .ref a_t_found, .ref a_t_foundOtherwise, .int c_t_acts, .int c_t_refusals_29, .int c_t_knocks]))] := hD
          obtain ⟨e0, e1, e2, e3, e4⟩ := tup5 h
          subst e0
          subst e1
          subst e2
          subst e3
          subst e4
          have hP9 : va_P D vwCl [(a_t, .inr (6, [.ref a_t_forms, .ref a_t_roll, .ref a_t_row, .ref a_t_rows, .ref a_t_factors, .ref a_t_found, .ref a_t_foundOtherwise, .int c_t_acts, .int c_t_refusals_29, .int c_t_knocks])), (a_t_forms, .inl (cyJ, 6, .inr (.inl f_t_forms)))] H := hP.sub [1, 0] rfl
          have hD9 : va_D A [(a_t, .inr (6, [.ref a_t_forms, .ref a_t_roll, .ref a_t_row, .ref a_t_rows, .ref a_t_factors, .ref a_t_found, .ref a_t_foundOtherwise, .int c_t_acts, .int c_t_refusals_29, .int c_t_knocks])), (a_t_forms, .inl (cyJ, 6, .inr (.inl f_t_forms)))] := hD.sub [1, 0] (by decide) rfl
          refine vx_ret ?_
          exact W.iret hx hb hr (fun t ht hW => ⟨⟨_, (), rfl, ⟨rfl, rfl⟩, wQA_of ht hP9 hD9⟩, hS.F ht⟩) hS.2.2 dX7_burst_32

noncomputable abbrev rmX3_removeAll : Room := { frames := 0, cells := 0, slots := 0, locals := 0 }
theorem ydX3_removeAll : yX3_removeAll.cls = RX3 ∧ yX3_removeAll.cls ≠ "java/lang/invoke/MethodHandle" ∧ yX3_removeAll.cls ≠ "java/lang/invoke/VarHandle" ∧ (parseMethodDescriptor yX3_removeAll.desc).map (fun d => d.parameters.length) = some 0 := by decide +kernel
noncomputable def F_X3_removeAll : Option (Int32) :=
 some (0 : Int32)
set_option maxHeartbeats 4000000 in
set_option maxRecDepth 100000 in
theorem c_X3_removeAll (l : Launch) (D : va_G) (cyJ : ClassId) (sz : Nat) (a_t : Nat) (a_t_held : Nat) (a_t_before : Nat) (c_t_size : Int32) (o_c_t_size : Int32) (hF : F_X3_removeAll = some o_c_t_size) : Met l yX3_removeAll wsX3_removeAll rmX3_removeAll (va_Pc [.ref a_t] (wPD D [(cyJ, .long)] [(a_t, .inr (3, [.ref a_t_held, .ref a_t_before, .int c_t_size]))] sz)) (va_Qv (fun (_ : Unit) => True) (fun _ t => wQA D [(a_t, .inr (3, [.ref a_t_held, .ref a_t_before, .int o_c_t_size]))] (va_A [(a_t, .inr (3, [.ref a_t_held, .ref a_t_before, .int c_t_size]))] sz) t) (va_A [(a_t, .inr (3, [.ref a_t_held, .ref a_t_before, .int c_t_size]))] sz)) 0 0 (va_A [(a_t, .inr (3, [.ref a_t_held, .ref a_t_before, .int c_t_size]))] sz) := by
  refine Met.ofW (cc := cX3_removeAll) (maxL := 1) (ret := none) (by decide) rfl ?_
  intro p e s m args below meth c s₁ B hml hv
  obtain ⟨rfl, hsz, hP, hK, hD0, hnw⟩ := hv
  have hx := B.exec
  have hb := B.bytes
  have hr := B.returns
  have hts := atoms_spec (ws := wsX3_removeAll) B.pre
  have hown : s.vm.findClass RX3 = some m.cls := findClass_of_methodNamed B.named
  have hlocks := B.notSynchronized
  have hcf : CallFix _ _ _ _ _ _ _ _ _ := ⟨hx, hb, hml, hown, hts⟩
  have hinX3 : ∀ w ∈ u_ws RX3 TX3 3, w ∈ wsX3_removeAll := by decide +kernel
  have hfl18 := hts (.fieldLink RX3 18 "Formwheel$Roll" "size" "I") (by decide +kernel)
  subst hsz
  have hD := hD0.self (sz := s.heap.size)
  generalize hAe : va_A [(a_t, .inr (3, [.ref a_t_held, .ref a_t_before, .int c_t_size]))] s.heap.size = A at hD ⊢
  have hA : ∀ q : Nat, s.heap.size ≤ q → A q := fun q h => by rw [← hAe]; exact Or.inr h
  have hS : va_S A s.heap s.heap [] := va_S.rf
  have hP : va_P D vwCl [(a_t, .inr (3, [.ref a_t_held, .ref a_t_before, .int c_t_size]))] s.heap := hP
  have hK0 := hK
  have hl := lv_entry ([.ref a_t]) (n := 1) (Nat.le_of_ble_eq_true rfl)
  rw [lg_entry_eq]
  generalize (lg_sl ([.ref a_t]) ++ List.replicate (1 - (lg_sl ([.ref a_t])).length) Slot.unset).toArray = ls at hl ⊢
  have hl : lv_has ls 1 [(0, .ref a_t)] := hl
  have h := hF
  clear hF
  unfold F_X3_removeAll at h
  refine lv_aload_n hx hb dX3_removeAll_0 rfl (lv_at hl 0 rfl) ?_
  refine lv_iconst (v := 0) hx hb dX3_removeAll_1 (by decide) ?_
  refine va_put (D := D) (ci := 3) (v := .int (0 : Int32)) (ty := .int) (C := RX3) (T := TX3) (N := 3) hx hb hts hinX3 tyX3 tyX3_ok nmX3 hown hK hP hD hS 0 rfl rfl 2 (by decide) hfl18 (fun _ h9 => h9) rfl (by decide +kernel) rfl rfl (Nat.le_of_ble_eq_true rfl) dX3_removeAll_2 (fun H locs hP hD hS => ?_)
  have hP : va_P D vwCl [(a_t, .inr (3, [.ref a_t_held, .ref a_t_before, .int (0 : Int32)]))] H := hP
  have hD : va_D A [(a_t, .inr (3, [.ref a_t_held, .ref a_t_before, .int (0 : Int32)]))] := hD
  have e1 := Option.some.inj h
  subst e1
  have hP9 : va_P D vwCl [(a_t, .inr (3, [.ref a_t_held, .ref a_t_before, .int (0 : Int32)]))] H := hP.sub [0] rfl
  have hD9 : va_D A [(a_t, .inr (3, [.ref a_t_held, .ref a_t_before, .int (0 : Int32)]))] := hD.sub [0] (by decide) rfl
  exact W.vret hx hb hr (fun t ht hW => ⟨⟨(), rfl, trivial, wQA_of ht hP9 hD9⟩, hS.F ht⟩) hS.2.2 dX3_removeAll_5

noncomputable abbrev rmX3_append : Room := { frames := 0, cells := 0, slots := 0, locals := 0 }
theorem ydX3_append : yX3_append.cls = RX3 ∧ yX3_append.cls ≠ "java/lang/invoke/MethodHandle" ∧ yX3_append.cls ≠ "java/lang/invoke/VarHandle" ∧ (parseMethodDescriptor yX3_append.desc).map (fun d => d.parameters.length) = some 1 := by decide +kernel
noncomputable def F_X3_append (c_t_size : Int32) (f_t_held : Nat → Int64) (p0 : Int64) : Option (Int32 × (Nat → Int64)) :=
 (if (12 : Int32) ≤ c_t_size then
 some (c_t_size, f_t_held)
else
 chk (¬ (c_t_size < 0 ∨ 12 ≤ c_t_size.toNatClampNeg)) (
 bnd (vp_updL f_t_held c_t_size.toNatClampNeg p0) (fun f_t_held_18 =>
 bnd (c_t_size + (1 : Int32)) (fun c_t_size_26 =>
 some (c_t_size_26, f_t_held_18)))))
set_option maxHeartbeats 4000000 in
set_option maxRecDepth 100000 in
theorem c_X3_append (l : Launch) (D : va_G) (cyJ : ClassId) (sz : Nat) (a_t : Nat) (a_t_held : Nat) (a_t_before : Nat) (c_t_size : Int32) (f_t_held : Nat → Int64) (p0 : Int64) (o_c_t_size : Int32) (o_f_t_held : Nat → Int64) (hF : F_X3_append c_t_size f_t_held p0 = some (o_c_t_size, o_f_t_held)) : Met l yX3_append wsX3_append rmX3_append (va_Pc [.ref a_t, .long p0] (wPD D [(cyJ, .long)] [(a_t, .inr (3, [.ref a_t_held, .ref a_t_before, .int c_t_size])), (a_t_held, .inl (cyJ, 12, .inr (.inl f_t_held)))] sz)) (va_Qv (fun (_ : Unit) => True) (fun _ t => wQA D [(a_t, .inr (3, [.ref a_t_held, .ref a_t_before, .int o_c_t_size])), (a_t_held, .inl (cyJ, 12, .inr (.inl o_f_t_held)))] (va_A [(a_t, .inr (3, [.ref a_t_held, .ref a_t_before, .int c_t_size])), (a_t_held, .inl (cyJ, 12, .inr (.inl f_t_held)))] sz) t) (va_A [(a_t, .inr (3, [.ref a_t_held, .ref a_t_before, .int c_t_size])), (a_t_held, .inl (cyJ, 12, .inr (.inl f_t_held)))] sz)) 0 0 (va_A [(a_t, .inr (3, [.ref a_t_held, .ref a_t_before, .int c_t_size])), (a_t_held, .inl (cyJ, 12, .inr (.inl f_t_held)))] sz) := by
  refine Met.ofW (cc := cX3_append) (maxL := 3) (ret := none) (by decide) rfl ?_
  intro p e s m args below meth c s₁ B hml hv
  obtain ⟨rfl, hsz, hP, hK, hD0, hnw⟩ := hv
  have hx := B.exec
  have hb := B.bytes
  have hr := B.returns
  have hts := atoms_spec (ws := wsX3_append) B.pre
  have hown : s.vm.findClass RX3 = some m.cls := findClass_of_methodNamed B.named
  have hlocks := B.notSynchronized
  have hcf : CallFix _ _ _ _ _ _ _ _ _ := ⟨hx, hb, hml, hown, hts⟩
  have hinX3 : ∀ w ∈ u_ws RX3 TX3 3, w ∈ wsX3_append := by decide +kernel
  have hfl18 := hts (.fieldLink RX3 18 "Formwheel$Roll" "size" "I") (by decide +kernel)
  have hfl9 := hts (.fieldLink RX3 9 "Formwheel$Roll" "held" "[J") (by decide +kernel)
  subst hsz
  have hD := hD0.self (sz := s.heap.size)
  generalize hAe : va_A [(a_t, .inr (3, [.ref a_t_held, .ref a_t_before, .int c_t_size])), (a_t_held, .inl (cyJ, 12, .inr (.inl f_t_held)))] s.heap.size = A at hD ⊢
  have hA : ∀ q : Nat, s.heap.size ≤ q → A q := fun q h => by rw [← hAe]; exact Or.inr h
  have hS : va_S A s.heap s.heap [] := va_S.rf
  have hP : va_P D vwCl [(a_t, .inr (3, [.ref a_t_held, .ref a_t_before, .int c_t_size])), (a_t_held, .inl (cyJ, 12, .inr (.inl f_t_held)))] s.heap := hP
  have hK0 := hK
  have hl := lv_entry ([.ref a_t, .long p0]) (n := 3) (Nat.le_of_ble_eq_true rfl)
  rw [lg_entry_eq]
  generalize (lg_sl ([.ref a_t, .long p0]) ++ List.replicate (3 - (lg_sl ([.ref a_t, .long p0])).length) Slot.unset).toArray = ls at hl ⊢
  have hl : lv_has ls 3 [(0, .ref a_t), (1, .long p0)] := hl
  have h := hF
  clear hF
  unfold F_X3_append at h
  refine lv_aload_n hx hb dX3_append_0 rfl (lv_at hl 0 rfl) ?_
  refine va_get (D := D) (ci := 3) (v := .int c_t_size) (C := RX3) (T := TX3) (N := 3) hx hb hts hinX3 hown hK hP 0 rfl rfl 2 (by decide) hfl18 (fun _ h9 => h9) rfl dX3_append_1 ?_
  refine lv_bipush (v := 12) hx hb dX3_append_4 (by decide) ?_
  refine lv_icmp_ge (tgt := 29) hx hb dX3_append_6 (by decide) (fun c6 => ?_) (fun c6 => ?_)
  · have h := it_ c6 h
    obtain ⟨e0, e1⟩ := tup2 h
    subst e0
    subst e1
    have hP9 : va_P D vwCl [(a_t, .inr (3, [.ref a_t_held, .ref a_t_before, .int c_t_size])), (a_t_held, .inl (cyJ, 12, .inr (.inl f_t_held)))] s.heap := hP.sub [0, 1] rfl
    have hD9 : va_D A [(a_t, .inr (3, [.ref a_t_held, .ref a_t_before, .int c_t_size])), (a_t_held, .inl (cyJ, 12, .inr (.inl f_t_held)))] := hD.sub [0, 1] (by decide) rfl
    exact W.vret hx hb hr (fun t ht hW => ⟨⟨(), rfl, trivial, wQA_of ht hP9 hD9⟩, hS.F ht⟩) hS.2.2 dX3_append_29
  · have h := if_ c6 h
    refine lv_aload_n hx hb dX3_append_9 rfl (lv_at hl 0 rfl) ?_
    refine va_get (D := D) (ci := 3) (v := .ref a_t_held) (C := RX3) (T := TX3) (N := 3) hx hb hts hinX3 hown hK hP 0 rfl rfl 0 (by decide) hfl9 (fun _ h9 => h9) rfl dX3_append_10 ?_
    refine lv_aload_n hx hb dX3_append_13 rfl (lv_at hl 0 rfl) ?_
    refine va_get (D := D) (ci := 3) (v := .int c_t_size) (C := RX3) (T := TX3) (N := 3) hx hb hts hinX3 hown hK hP 0 rfl rfl 2 (by decide) hfl18 (fun _ h9 => h9) rfl dX3_append_14 ?_
    refine lv_lload_n hx hb dX3_append_17 rfl (lv_at hl 1 rfl) ?_
    obtain ⟨hq18, h⟩ := chk_h h
    refine va_last hx hb hK hP hD hS 1 0 rfl rfl hq18 dX3_append_18 (fun H locs hP hD hS => ?_)
    obtain ⟨f_t_held_18, e_f_t_held_18⟩ : ∃ z, z = vp_updL f_t_held c_t_size.toNatClampNeg p0 := ⟨_, rfl⟩
    have h := bnd_h e_f_t_held_18 h
    have hP : va_P D vwCl [(a_t, .inr (3, [.ref a_t_held, .ref a_t_before, .int c_t_size])), (a_t_held, .inl (cyJ, 12, .inr (.inl f_t_held_18)))] H := by rw [e_f_t_held_18]; exact hP
    have hD : va_D A [(a_t, .inr (3, [.ref a_t_held, .ref a_t_before, .int c_t_size])), (a_t_held, .inl (cyJ, 12, .inr (.inl f_t_held_18)))] := by rw [e_f_t_held_18]; exact hD
    refine lv_aload_n hx hb dX3_append_19 rfl (lv_at hl 0 rfl) ?_
    refine lv_dup hx hb dX3_append_20 rfl ?_
    refine va_get (D := D) (ci := 3) (v := .int c_t_size) (C := RX3) (T := TX3) (N := 3) hx hb hts hinX3 hown hK hP 0 rfl rfl 2 (by decide) hfl18 (fun _ h9 => h9) rfl dX3_append_21 ?_
    refine lv_iconst (v := 1) hx hb dX3_append_24 (by decide) ?_
    refine lv_iadd hx hb dX3_append_25 ?_
    refine lv_topi (fun c_t_size_26 e_c_t_size_26 => ?_)
    have h := bnd_h e_c_t_size_26 h
    refine va_put (D := D) (ci := 3) (v := .int c_t_size_26) (ty := .int) (C := RX3) (T := TX3) (N := 3) hx hb hts hinX3 tyX3 tyX3_ok nmX3 hown hK hP hD hS 0 rfl rfl 2 (by decide) hfl18 (fun _ h9 => h9) rfl (by decide +kernel) rfl rfl (Nat.le_of_ble_eq_true rfl) dX3_append_26 (fun H locs hP hD hS => ?_)
    have hP : va_P D vwCl [(a_t, .inr (3, [.ref a_t_held, .ref a_t_before, .int c_t_size_26])), (a_t_held, .inl (cyJ, 12, .inr (.inl f_t_held_18)))] H := hP
    have hD : va_D A [(a_t, .inr (3, [.ref a_t_held, .ref a_t_before, .int c_t_size_26])), (a_t_held, .inl (cyJ, 12, .inr (.inl f_t_held_18)))] := hD
    obtain ⟨e0, e1⟩ := tup2 h
    subst e0
    subst e1
    have hP9 : va_P D vwCl [(a_t, .inr (3, [.ref a_t_held, .ref a_t_before, .int c_t_size_26])), (a_t_held, .inl (cyJ, 12, .inr (.inl f_t_held_18)))] H := hP.sub [0, 1] rfl
    have hD9 : va_D A [(a_t, .inr (3, [.ref a_t_held, .ref a_t_before, .int c_t_size_26])), (a_t_held, .inl (cyJ, 12, .inr (.inl f_t_held_18)))] := hD.sub [0, 1] (by decide) rfl
    exact W.vret hx hb hr (fun t ht hW => ⟨⟨(), rfl, trivial, wQA_of ht hP9 hD9⟩, hS.F ht⟩) hS.2.2 dX3_append_29

noncomputable abbrev rmX3_put : Room := { frames := 0, cells := 0, slots := 0, locals := 0 }
theorem ydX3_put : yX3_put.cls = RX3 ∧ yX3_put.cls ≠ "java/lang/invoke/MethodHandle" ∧ yX3_put.cls ≠ "java/lang/invoke/VarHandle" ∧ (parseMethodDescriptor yX3_put.desc).map (fun d => d.parameters.length) = some 2 := by decide +kernel
noncomputable def F_X3_put (c_t_size : Int32) (f_t_held : Nat → Int64) (p0 : Int32) (p1 : Int64) : Option ((Nat → Int64)) :=
 (if p0 < 0 then
 some f_t_held
else
 (if c_t_size ≤ p0 then
 some f_t_held
else
 chk (¬ (p0 < 0 ∨ 12 ≤ p0.toNatClampNeg)) (
 bnd (vp_updL f_t_held p0.toNatClampNeg p1) (fun f_t_held_18 =>
 some f_t_held_18))))
set_option maxHeartbeats 4000000 in
set_option maxRecDepth 100000 in
theorem c_X3_put (l : Launch) (D : va_G) (cyJ : ClassId) (sz : Nat) (a_t : Nat) (a_t_held : Nat) (a_t_before : Nat) (c_t_size : Int32) (f_t_held : Nat → Int64) (p0 : Int32) (p1 : Int64) (o_f_t_held : Nat → Int64) (hF : F_X3_put c_t_size f_t_held p0 p1 = some o_f_t_held) : Met l yX3_put wsX3_put rmX3_put (va_Pc [.ref a_t, .int p0, .long p1] (wPD D [(cyJ, .long)] [(a_t, .inr (3, [.ref a_t_held, .ref a_t_before, .int c_t_size])), (a_t_held, .inl (cyJ, 12, .inr (.inl f_t_held)))] sz)) (va_Qv (fun (_ : Unit) => True) (fun _ t => wQA D [(a_t, .inr (3, [.ref a_t_held, .ref a_t_before, .int c_t_size])), (a_t_held, .inl (cyJ, 12, .inr (.inl o_f_t_held)))] (va_A [(a_t, .inr (3, [.ref a_t_held, .ref a_t_before, .int c_t_size])), (a_t_held, .inl (cyJ, 12, .inr (.inl f_t_held)))] sz) t) (va_A [(a_t, .inr (3, [.ref a_t_held, .ref a_t_before, .int c_t_size])), (a_t_held, .inl (cyJ, 12, .inr (.inl f_t_held)))] sz)) 0 0 (va_A [(a_t, .inr (3, [.ref a_t_held, .ref a_t_before, .int c_t_size])), (a_t_held, .inl (cyJ, 12, .inr (.inl f_t_held)))] sz) := by
  refine Met.ofW (cc := cX3_put) (maxL := 4) (ret := none) (by decide) rfl ?_
  intro p e s m args below meth c s₁ B hml hv
  obtain ⟨rfl, hsz, hP, hK, hD0, hnw⟩ := hv
  have hx := B.exec
  have hb := B.bytes
  have hr := B.returns
  have hts := atoms_spec (ws := wsX3_put) B.pre
  have hown : s.vm.findClass RX3 = some m.cls := findClass_of_methodNamed B.named
  have hlocks := B.notSynchronized
  have hcf : CallFix _ _ _ _ _ _ _ _ _ := ⟨hx, hb, hml, hown, hts⟩
  have hinX3 : ∀ w ∈ u_ws RX3 TX3 3, w ∈ wsX3_put := by decide +kernel
  have hfl18 := hts (.fieldLink RX3 18 "Formwheel$Roll" "size" "I") (by decide +kernel)
  have hfl9 := hts (.fieldLink RX3 9 "Formwheel$Roll" "held" "[J") (by decide +kernel)
  subst hsz
  have hD := hD0.self (sz := s.heap.size)
  generalize hAe : va_A [(a_t, .inr (3, [.ref a_t_held, .ref a_t_before, .int c_t_size])), (a_t_held, .inl (cyJ, 12, .inr (.inl f_t_held)))] s.heap.size = A at hD ⊢
  have hA : ∀ q : Nat, s.heap.size ≤ q → A q := fun q h => by rw [← hAe]; exact Or.inr h
  have hS : va_S A s.heap s.heap [] := va_S.rf
  have hP : va_P D vwCl [(a_t, .inr (3, [.ref a_t_held, .ref a_t_before, .int c_t_size])), (a_t_held, .inl (cyJ, 12, .inr (.inl f_t_held)))] s.heap := hP
  have hK0 := hK
  have hl := lv_entry ([.ref a_t, .int p0, .long p1]) (n := 4) (Nat.le_of_ble_eq_true rfl)
  rw [lg_entry_eq]
  generalize (lg_sl ([.ref a_t, .int p0, .long p1]) ++ List.replicate (4 - (lg_sl ([.ref a_t, .int p0, .long p1])).length) Slot.unset).toArray = ls at hl ⊢
  have hl : lv_has ls 4 [(0, .ref a_t), (1, .int p0), (2, .long p1)] := hl
  have h := hF
  clear hF
  unfold F_X3_put at h
  refine lv_iload_n hx hb dX3_put_0 rfl (lv_at hl 1 rfl) ?_
  refine lv_if_lt (tgt := 19) hx hb dX3_put_1 (by decide) (fun c1 => ?_) (fun c1 => ?_)
  · have h := it_ c1 h
    have e1 := Option.some.inj h
    subst e1
    have hP9 : va_P D vwCl [(a_t, .inr (3, [.ref a_t_held, .ref a_t_before, .int c_t_size])), (a_t_held, .inl (cyJ, 12, .inr (.inl f_t_held)))] s.heap := hP.sub [0, 1] rfl
    have hD9 : va_D A [(a_t, .inr (3, [.ref a_t_held, .ref a_t_before, .int c_t_size])), (a_t_held, .inl (cyJ, 12, .inr (.inl f_t_held)))] := hD.sub [0, 1] (by decide) rfl
    exact W.vret hx hb hr (fun t ht hW => ⟨⟨(), rfl, trivial, wQA_of ht hP9 hD9⟩, hS.F ht⟩) hS.2.2 dX3_put_19
  · have h := if_ c1 h
    refine lv_iload_n hx hb dX3_put_4 rfl (lv_at hl 1 rfl) ?_
    refine lv_aload_n hx hb dX3_put_5 rfl (lv_at hl 0 rfl) ?_
    refine va_get (D := D) (ci := 3) (v := .int c_t_size) (C := RX3) (T := TX3) (N := 3) hx hb hts hinX3 hown hK hP 0 rfl rfl 2 (by decide) hfl18 (fun _ h9 => h9) rfl dX3_put_6 ?_
    refine lv_icmp_ge (tgt := 19) hx hb dX3_put_9 (by decide) (fun c9 => ?_) (fun c9 => ?_)
    · have h := it_ c9 h
      have e1 := Option.some.inj h
      subst e1
      have hP9 : va_P D vwCl [(a_t, .inr (3, [.ref a_t_held, .ref a_t_before, .int c_t_size])), (a_t_held, .inl (cyJ, 12, .inr (.inl f_t_held)))] s.heap := hP.sub [0, 1] rfl
      have hD9 : va_D A [(a_t, .inr (3, [.ref a_t_held, .ref a_t_before, .int c_t_size])), (a_t_held, .inl (cyJ, 12, .inr (.inl f_t_held)))] := hD.sub [0, 1] (by decide) rfl
      exact W.vret hx hb hr (fun t ht hW => ⟨⟨(), rfl, trivial, wQA_of ht hP9 hD9⟩, hS.F ht⟩) hS.2.2 dX3_put_19
    · have h := if_ c9 h
      refine lv_aload_n hx hb dX3_put_12 rfl (lv_at hl 0 rfl) ?_
      refine va_get (D := D) (ci := 3) (v := .ref a_t_held) (C := RX3) (T := TX3) (N := 3) hx hb hts hinX3 hown hK hP 0 rfl rfl 0 (by decide) hfl9 (fun _ h9 => h9) rfl dX3_put_13 ?_
      refine lv_iload_n hx hb dX3_put_16 rfl (lv_at hl 1 rfl) ?_
      refine lv_lload_n hx hb dX3_put_17 rfl (lv_at hl 2 rfl) ?_
      obtain ⟨hq18, h⟩ := chk_h h
      refine va_last hx hb hK hP hD hS 1 0 rfl rfl hq18 dX3_put_18 (fun H locs hP hD hS => ?_)
      obtain ⟨f_t_held_18, e_f_t_held_18⟩ : ∃ z, z = vp_updL f_t_held p0.toNatClampNeg p1 := ⟨_, rfl⟩
      have h := bnd_h e_f_t_held_18 h
      have hP : va_P D vwCl [(a_t, .inr (3, [.ref a_t_held, .ref a_t_before, .int c_t_size])), (a_t_held, .inl (cyJ, 12, .inr (.inl f_t_held_18)))] H := by rw [e_f_t_held_18]; exact hP
      have hD : va_D A [(a_t, .inr (3, [.ref a_t_held, .ref a_t_before, .int c_t_size])), (a_t_held, .inl (cyJ, 12, .inr (.inl f_t_held_18)))] := by rw [e_f_t_held_18]; exact hD
      have e1 := Option.some.inj h
      subst e1
      have hP9 : va_P D vwCl [(a_t, .inr (3, [.ref a_t_held, .ref a_t_before, .int c_t_size])), (a_t_held, .inl (cyJ, 12, .inr (.inl f_t_held_18)))] H := hP.sub [0, 1] rfl
      have hD9 : va_D A [(a_t, .inr (3, [.ref a_t_held, .ref a_t_before, .int c_t_size])), (a_t_held, .inl (cyJ, 12, .inr (.inl f_t_held_18)))] := hD.sub [0, 1] (by decide) rfl
      exact W.vret hx hb hr (fun t ht hW => ⟨⟨(), rfl, trivial, wQA_of ht hP9 hD9⟩, hS.F ht⟩) hS.2.2 dX3_put_19

noncomputable abbrev rmX3_at : Room := { frames := 0, cells := 0, slots := 0, locals := 0 }
theorem ydX3_at : yX3_at.cls = RX3 ∧ yX3_at.cls ≠ "java/lang/invoke/MethodHandle" ∧ yX3_at.cls ≠ "java/lang/invoke/VarHandle" ∧ (parseMethodDescriptor yX3_at.desc).map (fun d => d.parameters.length) = some 1 := by decide +kernel
noncomputable def F_X3_at (c_t_size : Int32) (f_t_held : Nat → Int64) (p0 : Int32) : Option (Int64) :=
 (if p0 < 0 then
 some (0 : Int64)
else
 (if p0 < c_t_size then
 chk (¬ (p0 < 0 ∨ 12 ≤ p0.toNatClampNeg)) (
 some (f_t_held p0.toNatClampNeg))
else
 some (0 : Int64)))
set_option maxHeartbeats 4000000 in
set_option maxRecDepth 100000 in
theorem c_X3_at (l : Launch) (D : va_G) (cyJ : ClassId) (a_t : Nat) (a_t_held : Nat) (a_t_before : Nat) (c_t_size : Int32) (f_t_held : Nat → Int64) (p0 : Int32) (r0 : Int64) (hF : F_X3_at c_t_size f_t_held p0 = some r0) : Met l yX3_at wsX3_at rmX3_at (va_Pc [.ref a_t, .int p0] (wPK D [(cyJ, .long)] [(a_t, .inr (3, [.ref a_t_held, .ref a_t_before, .int c_t_size])), (a_t_held, .inl (cyJ, 12, .inr (.inl f_t_held)))])) (k2_QcV (.long r0)) 0 0 (fun _ => False) := by
  refine Met.ofW (cc := cX3_at) (maxL := 2) (ret := (some .long)) (by decide) rfl ?_
  intro p e s m args below meth c s₁ B hml hv
  obtain ⟨rfl, hP, hK, hnw⟩ := hv
  have hx := B.exec
  have hb := B.bytes
  have hr := B.returns
  have hts := atoms_spec (ws := wsX3_at) B.pre
  have hown : s.vm.findClass RX3 = some m.cls := findClass_of_methodNamed B.named
  have hlocks := B.notSynchronized
  have hcf : CallFix _ _ _ _ _ _ _ _ _ := ⟨hx, hb, hml, hown, hts⟩
  have hinX3 : ∀ w ∈ u_ws RX3 TX3 3, w ∈ wsX3_at := by decide +kernel
  have hfl18 := hts (.fieldLink RX3 18 "Formwheel$Roll" "size" "I") (by decide +kernel)
  have hfl9 := hts (.fieldLink RX3 9 "Formwheel$Roll" "held" "[J") (by decide +kernel)
  have hK0 := hK
  have hl := lv_entry ([.ref a_t, .int p0]) (n := 2) (Nat.le_of_ble_eq_true rfl)
  rw [lg_entry_eq]
  generalize (lg_sl ([.ref a_t, .int p0]) ++ List.replicate (2 - (lg_sl ([.ref a_t, .int p0])).length) Slot.unset).toArray = ls at hl ⊢
  have hl : lv_has ls 2 [(0, .ref a_t), (1, .int p0)] := hl
  have h := hF
  clear hF
  unfold F_X3_at at h
  refine lv_iload_n hx hb dX3_at_0 rfl (lv_at hl 1 rfl) ?_
  refine lv_if_lt (tgt := 12) hx hb dX3_at_1 (by decide) (fun c1 => ?_) (fun c1 => ?_)
  · have h := it_ c1 h
    refine lv_lconst (v := 0) hx hb dX3_at_12 (by decide) ?_
    refine lv_goto (tgt := 22) hx hb dX3_at_13 (by decide) ?_
    have e1 := Option.some.inj h
    subst e1
    exact W.lret hx hb hr (fun t ht _ => ⟨rfl, ht⟩) no_q dX3_at_22
  · have h := if_ c1 h
    refine lv_iload_n hx hb dX3_at_4 rfl (lv_at hl 1 rfl) ?_
    refine lv_aload_n hx hb dX3_at_5 rfl (lv_at hl 0 rfl) ?_
    refine va_get (D := D) (ci := 3) (v := .int c_t_size) (C := RX3) (T := TX3) (N := 3) hx hb hts hinX3 hown hK hP 0 rfl rfl 2 (by decide) hfl18 (fun _ h9 => h9) rfl dX3_at_6 ?_
    refine lv_icmp_lt (tgt := 16) hx hb dX3_at_9 (by decide) (fun c9 => ?_) (fun c9 => ?_)
    · have h := it_ c9 h
      refine lv_aload_n hx hb dX3_at_16 rfl (lv_at hl 0 rfl) ?_
      refine va_get (D := D) (ci := 3) (v := .ref a_t_held) (C := RX3) (T := TX3) (N := 3) hx hb hts hinX3 hown hK hP 0 rfl rfl 0 (by decide) hfl9 (fun _ h9 => h9) rfl dX3_at_17 ?_
      refine lv_iload_n hx hb dX3_at_20 rfl (lv_at hl 1 rfl) ?_
      obtain ⟨hq21, h⟩ := chk_h h
      refine va_lald hx hb hK hP 1 0 rfl rfl hq21 dX3_at_21 ?_
      have e1 := Option.some.inj h
      subst e1
      exact W.lret hx hb hr (fun t ht _ => ⟨rfl, ht⟩) no_q dX3_at_22
    · have h := if_ c9 h
      refine lv_lconst (v := 0) hx hb dX3_at_12 (by decide) ?_
      refine lv_goto (tgt := 22) hx hb dX3_at_13 (by decide) ?_
      have e1 := Option.some.inj h
      subst e1
      exact W.lret hx hb hr (fun t ht _ => ⟨rfl, ht⟩) no_q dX3_at_22

noncomputable abbrev rmX0_trace : Room := { frames := 3, cells := 0, slots := 0, locals := 71 }
theorem ydX0_trace : yX0_trace.cls ≠ "java/lang/invoke/MethodHandle" ∧ yX0_trace.cls ≠ "java/lang/invoke/VarHandle" ∧ (parseMethodDescriptor yX0_trace.desc).map (fun d => d.parameters.length) = some 3 := by decide +kernel
noncomputable def S_X0_trace_16 (z1_16 : Int32) (z2_16 : Int64) (k46 : Int64 → Option (Int64)) (ih16 : Int64 → Int64 → Int32 → Option (Int64)) (y4_16 : Int64) (y6_16 : Int64) (y8_16 : Int32) : Option (Int64) :=
 (if z1_16 ≤ y8_16 then
 k46 y6_16
else
 obn (F_X0_squared y4_16) (fun r24 =>
 obn (F_X0_rest r24 z2_16) (fun r28 =>
 bnd (y6_16 ^^^ r28) (fun x6_38 =>
 bnd (y8_16 + 1) (fun x8_40 =>
 ih16 r28 x6_38 x8_40)))))
noncomputable def F_X0_trace (p0 : Int32) (p1 : Int32) (p2 : Int64) : Option (Int64) :=
 obn (F_X0_rest ((1 : Int64) <<< (p0.toInt64 &&& 63)) p2) (fun r4 =>
 LQ3 (S_X0_trace_16 p1 p2 (fun y6_16_46 =>
 some y6_16_46)) 20000 r4 r4 (1 : Int32))
set_option maxHeartbeats 4000000 in
set_option maxRecDepth 100000 in
theorem c_X0_trace (l : Launch) (p0 : Int32) (p1 : Int32) (p2 : Int64) (r0 : Int64) (hF : F_X0_trace p0 p1 p2 = some r0) : Met l yX0_trace wsX0_trace rmX0_trace (va_Pc [.int p0, .int p1, .long p2] NW) (k2_QcV (.long r0)) 0 0 (fun _ => False) := by
  refine Met.ofW (cc := cX0_trace) (maxL := 9) (ret := (some .long)) (by decide) rfl ?_
  intro p e s m args below meth c s₁ B hml hv
  obtain ⟨rfl, hnw⟩ := hv
  have hx := B.exec
  have hb := B.bytes
  have hr := B.returns
  have hts := atoms_spec (ws := wsX0_trace) B.pre
  have hown : s.vm.findClass RX0 = some m.cls := findClass_of_methodNamed B.named
  have hlocks := B.notSynchronized
  have hcf : CallFix _ _ _ _ _ _ _ _ _ := ⟨hx, hb, hml, hown, hts⟩
  have hl := lv_entry ([.int p0, .int p1, .long p2]) (n := 9) (Nat.le_of_ble_eq_true rfl)
  rw [lg_entry_eq]
  generalize (lg_sl ([.int p0, .int p1, .long p2]) ++ List.replicate (9 - (lg_sl ([.int p0, .int p1, .long p2])).length) Slot.unset).toArray = ls at hl ⊢
  have hl : lv_has ls 9 [(0, .int p0), (1, .int p1), (2, .long p2)] := hl
  have h := hF
  clear hF
  unfold F_X0_trace at h
  refine lv_lconst (v := 1) hx hb dX0_trace_0 (by decide) ?_
  refine lv_iload_n hx hb dX0_trace_1 rfl (lv_at hl 0 rfl) ?_
  refine lv_lshl (v := (1 : Int64) <<< (p0.toInt64 &&& 63)) hx hb dX0_trace_2 rfl ?_
  refine lv_lload_n hx hb dX0_trace_3 rfl (lv_at hl 2 rfl) ?_
  obtain ⟨r4, hc4, h⟩ := obn_h h
  refine pz_callS (As := [.long ((1 : Int64) <<< (p0.toInt64 &&& 63)), .long p2]) (rest := []) hcf (c_X0_rest l ((1 : Int64) <<< (p0.toInt64 &&& 63)) p2 r4 hc4) (va_cwS 2 hts gX0_trace_X0_rest rfl rfl rfl ydX0_rest ⟨Nat.le_of_ble_eq_true rfl, Nat.le_of_ble_eq_true rfl⟩) hnw rfl hl.1 rfl (Nat.le_of_ble_eq_true rfl) dX0_trace_4 ⟨Nat.le_of_ble_eq_true rfl, Nat.le_of_ble_eq_true rfl⟩ ?_
  refine lv_lstore (lv' := [(4, .long r4), (0, .int p0), (1, .int p1), (2, .long p2)]) hx hb dX0_trace_7 hl (by decide) rfl (fun ls hl => ?_)
  refine lv_lload hx hb dX0_trace_9 (lv_at hl 0 rfl) ?_
  refine lv_lstore (lv' := [(6, .long r4), (4, .long r4), (0, .int p0), (1, .int p1), (2, .long p2)]) hx hb dX0_trace_11 hl (by decide) rfl (fun ls hl => ?_)
  refine lv_iconst (v := 1) hx hb dX0_trace_13 (by decide) ?_
  refine lv_istore (lv' := [(8, .int (1 : Int32)), (6, .long r4), (4, .long r4), (0, .int p0), (1, .int p1), (2, .long p2)]) hx hb dX0_trace_14 hl (by decide) rfl (fun ls hl => ?_)
  refine LQ3_k1 (M := fun (y4_16 : Int64) (y6_16 : Int64) (y8_16 : Int32) => ∀ (ls : Array Slot), lv_has ls 9 [(1, .int p1), (2, .long p2), (4, .long y4_16), (6, .long y6_16), (8, .int y8_16)] → W p l e rmX0_trace s m ([.int p0, .int p1, .long p2] : List Value).toArray below meth c s.heap [] 0 0 (MQ below (k2_QcV (.long r0)) ([.int p0, .int p1, .long p2] : List Value).toArray s 0 0 (fun _ => False)) (F0 m 16 ls [])) ?_ _ _ _ _ h ls (lv_sub hl [4, 5, 2, 1, 0] rfl)
  intro k46 hk46 ih16 hih16 y4_16 y6_16 y8_16 h ls hl
  unfold S_X0_trace_16 at h
  refine lv_iload hx hb dX0_trace_16 (lv_at hl 4 rfl) ?_
  refine lv_iload_n hx hb dX0_trace_18 rfl (lv_at hl 0 rfl) ?_
  refine lv_icmp_ge (tgt := 46) hx hb dX0_trace_19 (by decide) (fun c19 => ?_) (fun c19 => ?_)
  · have h := it_ c19 h
    rw [hk46] at h
    refine lv_lload hx hb dX0_trace_46 (lv_at hl 3 rfl) ?_
    have e1 := Option.some.inj h
    subst e1
    exact W.lret hx hb hr (fun t ht _ => ⟨rfl, ht⟩) no_q dX0_trace_48
  · have h := if_ c19 h
    refine lv_lload hx hb dX0_trace_22 (lv_at hl 2 rfl) ?_
    obtain ⟨r24, hc24, h⟩ := obn_h h
    refine pz_callS (As := [.long y4_16]) (rest := []) hcf (c_X0_squared l y4_16 r24 hc24) (va_cwS 1 hts gX0_trace_X0_squared rfl rfl rfl ydX0_squared ⟨Nat.le_of_ble_eq_true rfl, Nat.le_of_ble_eq_true rfl⟩) hnw rfl hl.1 rfl (Nat.le_of_ble_eq_true rfl) dX0_trace_24 ⟨Nat.le_of_ble_eq_true rfl, Nat.le_of_ble_eq_true rfl⟩ ?_
    refine lv_lload_n hx hb dX0_trace_27 rfl (lv_at hl 1 rfl) ?_
    obtain ⟨r28, hc28, h⟩ := obn_h h
    refine pz_callS (As := [.long r24, .long p2]) (rest := []) hcf (c_X0_rest l r24 p2 r28 hc28) (va_cwS 2 hts gX0_trace_X0_rest rfl rfl rfl ydX0_rest ⟨Nat.le_of_ble_eq_true rfl, Nat.le_of_ble_eq_true rfl⟩) hnw rfl hl.1 rfl (Nat.le_of_ble_eq_true rfl) dX0_trace_28 ⟨Nat.le_of_ble_eq_true rfl, Nat.le_of_ble_eq_true rfl⟩ ?_
    refine lv_lstore (lv' := [(4, .long r28), (1, .int p1), (2, .long p2), (6, .long y6_16), (8, .int y8_16)]) hx hb dX0_trace_31 hl (by decide) rfl (fun ls hl => ?_)
    refine lv_lload hx hb dX0_trace_33 (lv_at hl 3 rfl) ?_
    refine lv_lload hx hb dX0_trace_35 (lv_at hl 0 rfl) ?_
    refine lv_lxor hx hb dX0_trace_37 ?_
    refine lv_topl (fun x6_38 e_x6_38 => ?_)
    have h := bnd_h e_x6_38 h
    refine lv_lstore (lv' := [(6, .long x6_38), (4, .long r28), (1, .int p1), (2, .long p2), (8, .int y8_16)]) hx hb dX0_trace_38 hl (by decide) rfl (fun ls hl => ?_)
    obtain ⟨x8_40, e_x8_40⟩ : ∃ z : Int32, z = y8_16 + 1 := ⟨_, rfl⟩
    have h := bnd_h e_x8_40 h
    refine lv_iinc (v := x8_40) (lv' := [(8, .int x8_40), (6, .long x6_38), (4, .long r28), (1, .int p1), (2, .long p2)]) hx hb dX0_trace_40 hl (k := 4) rfl (by rw [e_x8_40]; rfl) (by decide) rfl (fun ls hl => ?_)
    refine lv_goto (tgt := 16) hx hb dX0_trace_43 (by decide) ?_
    exact hih16 r28 x6_38 x8_40 h ls (lv_sub hl [3, 4, 2, 1, 0] rfl)

noncomputable abbrev rmX1_partByTraces : Room := { frames := 4, cells := 0, slots := 0, locals := 101 }
theorem ydX1_partByTraces : yX1_partByTraces.cls = RX1 ∧ yX1_partByTraces.cls ≠ "java/lang/invoke/MethodHandle" ∧ yX1_partByTraces.cls ≠ "java/lang/invoke/VarHandle" ∧ (parseMethodDescriptor yX1_partByTraces.desc).map (fun d => d.parameters.length) = some 2 := by decide +kernel
noncomputable def J_X1_partByTraces_123 (ih50 : Int32 → Int32 → (Nat → Int64) → Option (Int32 × (Nat → Int64))) (j7_123 : Int32) (c_t_parts_size_j123 : Int32) (f_t_parts_held_j123 : Nat → Int64) : Option (Int32 × (Nat → Int64)) :=
 bnd (j7_123 + 1) (fun x7_123 =>
 ih50 x7_123 c_t_parts_size_j123 f_t_parts_held_j123)
noncomputable def S_X1_partByTraces_50 (z3_50 : Int32) (z5_50 : Int32) (z6_50 : Int32) (k129 : Int32 → (Nat → Int64) → Option (Int32 × (Nat → Int64))) (ih50 : Int32 → Int32 → (Nat → Int64) → Option (Int32 × (Nat → Int64))) (y7_50 : Int32) (c_t_parts_size_50 : Int32) (f_t_parts_held_50 : Nat → Int64) : Option (Int32 × (Nat → Int64)) :=
 (if z6_50 ≤ y7_50 then
 k129 c_t_parts_size_50 f_t_parts_held_50
else
 obn (F_X3_at c_t_parts_size_50 f_t_parts_held_50 y7_50) (fun r63 =>
 obn (F_X0_trace z5_50 z3_50 r63) (fun r75 =>
 obn (F_X0_greatestBoth r63 r75) (fun r78 =>
 (if r78 = (1 : Int64) then
 J_X1_partByTraces_123 ih50 y7_50 c_t_parts_size_50 f_t_parts_held_50
else
 (if r78 = r63 then
 J_X1_partByTraces_123 ih50 y7_50 c_t_parts_size_50 f_t_parts_held_50
else
 obn (F_X3_put c_t_parts_size_50 f_t_parts_held_50 y7_50 r78) (fun f_t_parts_held_106 =>
 obn (F_X0_quotient r63 r78) (fun r117 =>
 obn2 (F_X3_append c_t_parts_size_50 f_t_parts_held_106 r117) (fun c_t_parts_size_120 f_t_parts_held_120 =>
 J_X1_partByTraces_123 ih50 y7_50 c_t_parts_size_120 f_t_parts_held_120)))))))))
noncomputable def S_X1_partByTraces_31 (z3_31 : Int32) (z4_31 : Int32) (k135 : Int32 → (Nat → Int64) → Option (Int32 × (Nat → Int64))) (ih31 : Int32 → Int32 → (Nat → Int64) → Option (Int32 × (Nat → Int64))) (y5_31 : Int32) (c_t_parts_size_31 : Int32) (f_t_parts_held_31 : Nat → Int64) : Option (Int32 × (Nat → Int64)) :=
 (if z4_31 ≤ y5_31 then
 k135 c_t_parts_size_31 f_t_parts_held_31
else
 LQ3 (S_X1_partByTraces_50 z3_31 y5_31 c_t_parts_size_31 (fun c_t_parts_size_50_129 f_t_parts_held_50_129 =>
 bnd (y5_31 + 1) (fun x5_129 =>
 ih31 x5_129 c_t_parts_size_50_129 f_t_parts_held_50_129))) 20000 (0 : Int32) c_t_parts_size_31 f_t_parts_held_31)
noncomputable def F_X1_partByTraces (f_t_parts_held : Nat → Int64) (p0 : Int64) (p1 : Int32) : Option (Int32 × (Nat → Int64)) :=
 obn (F_X3_removeAll ) (fun c_t_parts_size_4 =>
 obn (F_X0_degreeOf p0) (fun r8 =>
 (if p1 ≤ r8 then
 obn2 (F_X3_append c_t_parts_size_4 f_t_parts_held p0) (fun c_t_parts_size_25 f_t_parts_held_25 =>
 LQ3 (S_X1_partByTraces_31 p1 r8 (fun c_t_parts_size_31_135 f_t_parts_held_31_135 =>
 some (c_t_parts_size_31_135, f_t_parts_held_31_135))) 20000 (0 : Int32) c_t_parts_size_25 f_t_parts_held_25)
else
 some (c_t_parts_size_4, f_t_parts_held))))
set_option maxHeartbeats 4000000 in
set_option maxRecDepth 100000 in
theorem c_X1_partByTraces (l : Launch) (D : va_G) (cyJ : ClassId) (sz : Nat) (a_t : Nat) (a_t_parts : Nat) (a_t_parts_held : Nat) (a_t_parts_before : Nat) (c_t_parts_size : Int32) (f_t_parts_held : Nat → Int64) (p0 : Int64) (p1 : Int32) (o_c_t_parts_size : Int32) (o_f_t_parts_held : Nat → Int64) (hF : F_X1_partByTraces f_t_parts_held p0 p1 = some (o_c_t_parts_size, o_f_t_parts_held)) : Met l yX1_partByTraces wsX1_partByTraces rmX1_partByTraces (va_Pc [.ref a_t, .long p0, .int p1] (wPD D [(cyJ, .long)] [(a_t, .inr (2, [.ref a_t_parts])), (a_t_parts, .inr (3, [.ref a_t_parts_held, .ref a_t_parts_before, .int c_t_parts_size])), (a_t_parts_held, .inl (cyJ, 12, .inr (.inl f_t_parts_held)))] sz)) (va_Qv (fun (_ : Unit) => True) (fun _ t => wQA D [(a_t, .inr (2, [.ref a_t_parts])), (a_t_parts, .inr (3, [.ref a_t_parts_held, .ref a_t_parts_before, .int o_c_t_parts_size])), (a_t_parts_held, .inl (cyJ, 12, .inr (.inl o_f_t_parts_held)))] (va_A [(a_t, .inr (2, [.ref a_t_parts])), (a_t_parts, .inr (3, [.ref a_t_parts_held, .ref a_t_parts_before, .int c_t_parts_size])), (a_t_parts_held, .inl (cyJ, 12, .inr (.inl f_t_parts_held)))] sz) t) (va_A [(a_t, .inr (2, [.ref a_t_parts])), (a_t_parts, .inr (3, [.ref a_t_parts_held, .ref a_t_parts_before, .int c_t_parts_size])), (a_t_parts_held, .inl (cyJ, 12, .inr (.inl f_t_parts_held)))] sz)) 0 0 (va_A [(a_t, .inr (2, [.ref a_t_parts])), (a_t_parts, .inr (3, [.ref a_t_parts_held, .ref a_t_parts_before, .int c_t_parts_size])), (a_t_parts_held, .inl (cyJ, 12, .inr (.inl f_t_parts_held)))] sz) := by
  refine Met.ofW (cc := cX1_partByTraces) (maxL := 12) (ret := none) (by decide) rfl ?_
  intro p e s m args below meth c s₁ B hml hv
  obtain ⟨rfl, hsz, hP, hK, hD0, hnw⟩ := hv
  have hx := B.exec
  have hb := B.bytes
  have hr := B.returns
  have hts := atoms_spec (ws := wsX1_partByTraces) B.pre
  have hown : s.vm.findClass RX1 = some m.cls := findClass_of_methodNamed B.named
  have hlocks := B.notSynchronized
  have hcf : CallFix _ _ _ _ _ _ _ _ _ := ⟨hx, hb, hml, hown, hts⟩
  have hinX1 : ∀ w ∈ u_ws RX1 TX1 1, w ∈ wsX1_partByTraces := by decide +kernel
  have hfl12 := hts (.fieldLink RX1 12 "Formwheel$Factors" "parts" "LFormwheel$Roll;") (by decide +kernel)
  have hinX3 : ∀ w ∈ u_ws RX3 TX3 3, w ∈ wsX1_partByTraces := by decide +kernel
  have hfl52 := hnw.use (A := ([.ref a_t, .long p0, .int p1] : List Value).toArray) (w := .fieldLinkNest RX1 52 "Formwheel$Roll" "size" "I" "Formwheel") (by decide +kernel)
  subst hsz
  have hD := hD0.self (sz := s.heap.size)
  generalize hAe : va_A [(a_t, .inr (2, [.ref a_t_parts])), (a_t_parts, .inr (3, [.ref a_t_parts_held, .ref a_t_parts_before, .int c_t_parts_size])), (a_t_parts_held, .inl (cyJ, 12, .inr (.inl f_t_parts_held)))] s.heap.size = A at hD ⊢
  have hA : ∀ q : Nat, s.heap.size ≤ q → A q := fun q h => by rw [← hAe]; exact Or.inr h
  have hS : va_S A s.heap s.heap [] := va_S.rf
  have hP : va_P D vwCl [(a_t, .inr (2, [.ref a_t_parts])), (a_t_parts, .inr (3, [.ref a_t_parts_held, .ref a_t_parts_before, .int c_t_parts_size])), (a_t_parts_held, .inl (cyJ, 12, .inr (.inl f_t_parts_held)))] s.heap := hP
  have hK0 := hK
  have hl := lv_entry ([.ref a_t, .long p0, .int p1]) (n := 12) (Nat.le_of_ble_eq_true rfl)
  rw [lg_entry_eq]
  generalize (lg_sl ([.ref a_t, .long p0, .int p1]) ++ List.replicate (12 - (lg_sl ([.ref a_t, .long p0, .int p1])).length) Slot.unset).toArray = ls at hl ⊢
  have hl : lv_has ls 12 [(0, .ref a_t), (1, .long p0), (3, .int p1)] := hl
  have h := hF
  clear hF
  unfold F_X1_partByTraces at h
  refine lv_aload_n hx hb dX1_partByTraces_0 rfl (lv_at hl 0 rfl) ?_
  refine va_get (D := D) (ci := 2) (v := .ref a_t_parts) (C := RX1) (T := TX1) (N := 1) hx hb hts hinX1 hown hK hP 0 rfl rfl 0 (by decide) hfl12 (fun _ h9 => h9) rfl dX1_partByTraces_1 ?_
  obtain ⟨c_t_parts_size_4, hc4, h⟩ := obn_h h
  have hPc := hP.sub (ws' := [(a_t_parts, .inr (3, [.ref a_t_parts_held, .ref a_t_parts_before, .int c_t_parts_size]))]) [1] rfl
  have hDc := hD.sub (ws' := [(a_t_parts, .inr (3, [.ref a_t_parts_held, .ref a_t_parts_before, .int c_t_parts_size]))]) [1] (by decide) rfl
  refine hp_v (w1 := [(a_t_parts, .inr (3, [.ref a_t_parts_held, .ref a_t_parts_before, .int c_t_parts_size_4]))]) (wr := [(a_t, .inr (2, [.ref a_t_parts])), (a_t_parts_held, .inl (cyJ, 12, .inr (.inl f_t_parts_held)))]) (va_runV (As := []) (rest := []) hcf (c_X3_removeAll l D cyJ s.heap.size a_t_parts a_t_parts_held a_t_parts_before c_t_parts_size c_t_parts_size_4 hc4) (cwV 0 hts gX1_partByTraces_X3_removeAll rfl rfl rfl ydX3_removeAll ⟨Nat.le_of_ble_eq_true rfl, Nat.le_of_ble_eq_true rfl⟩) ⟨bl_PD, va_recv hK hP (ci := 3) (q0 := 1) rfl rfl, pr_PD hPc hK0 hDc hnw⟩ rfl rfl hl.1 rfl (lv_room (Nat.le_of_ble_eq_true rfl)) dX1_partByTraces_4 ⟨Nat.le_of_ble_eq_true rfl, Nat.le_of_ble_eq_true rfl⟩) hP hD hS hA [1] [0, 2] rfl rfl (by decide) (by decide) (fun H locs hP hD hS => ?_)
  have hP : va_P D vwCl [(a_t, .inr (2, [.ref a_t_parts])), (a_t_parts_held, .inl (cyJ, 12, .inr (.inl f_t_parts_held))), (a_t_parts, .inr (3, [.ref a_t_parts_held, .ref a_t_parts_before, .int c_t_parts_size_4]))] H := hP
  have hD : va_D A [(a_t, .inr (2, [.ref a_t_parts])), (a_t_parts_held, .inl (cyJ, 12, .inr (.inl f_t_parts_held))), (a_t_parts, .inr (3, [.ref a_t_parts_held, .ref a_t_parts_before, .int c_t_parts_size_4]))] := hD
  refine lv_lload_n hx hb dX1_partByTraces_7 rfl (lv_at hl 1 rfl) ?_
  obtain ⟨r8, hc8, h⟩ := obn_h h
  refine pz_callS (As := [.long p0]) (rest := []) hcf (c_X0_degreeOf l p0 r8 hc8) (va_cwS 1 hts gX1_partByTraces_X0_degreeOf rfl rfl rfl ydX0_degreeOf ⟨Nat.le_of_ble_eq_true rfl, Nat.le_of_ble_eq_true rfl⟩) hnw rfl hl.1 rfl (Nat.le_of_ble_eq_true rfl) dX1_partByTraces_8 ⟨Nat.le_of_ble_eq_true rfl, Nat.le_of_ble_eq_true rfl⟩ ?_
  refine lv_istore (lv' := [(4, .int r8), (0, .ref a_t), (1, .long p0), (3, .int p1)]) hx hb dX1_partByTraces_11 hl (by decide) rfl (fun ls hl => ?_)
  refine lv_iload hx hb dX1_partByTraces_13 (lv_at hl 0 rfl) ?_
  refine lv_iload_n hx hb dX1_partByTraces_15 rfl (lv_at hl 3 rfl) ?_
  refine lv_icmp_ge (tgt := 20) hx hb dX1_partByTraces_16 (by decide) (fun c16 => ?_) (fun c16 => ?_)
  · have h := it_ c16 h
    refine lv_aload_n hx hb dX1_partByTraces_20 rfl (lv_at hl 1 rfl) ?_
    refine va_get (D := D) (ci := 2) (v := .ref a_t_parts) (C := RX1) (T := TX1) (N := 1) hx hb hts hinX1 hown hK hP 0 rfl rfl 0 (by decide) hfl12 (fun _ h9 => h9) rfl dX1_partByTraces_21 ?_
    refine lv_lload_n hx hb dX1_partByTraces_24 rfl (lv_at hl 2 rfl) ?_
    obtain ⟨c_t_parts_size_25, f_t_parts_held_25, hc25, h⟩ := obn2_h h
    have hPc := hP.sub (ws' := [(a_t_parts, .inr (3, [.ref a_t_parts_held, .ref a_t_parts_before, .int c_t_parts_size_4])), (a_t_parts_held, .inl (cyJ, 12, .inr (.inl f_t_parts_held)))]) [2, 1] rfl
    have hDc := hD.sub (ws' := [(a_t_parts, .inr (3, [.ref a_t_parts_held, .ref a_t_parts_before, .int c_t_parts_size_4])), (a_t_parts_held, .inl (cyJ, 12, .inr (.inl f_t_parts_held)))]) [2, 1] (by decide) rfl
    refine hp_v (w1 := [(a_t_parts, .inr (3, [.ref a_t_parts_held, .ref a_t_parts_before, .int c_t_parts_size_25])), (a_t_parts_held, .inl (cyJ, 12, .inr (.inl f_t_parts_held_25)))]) (wr := [(a_t, .inr (2, [.ref a_t_parts]))]) (va_runV (As := [.long p0]) (rest := []) hcf (c_X3_append l D cyJ H.size a_t_parts a_t_parts_held a_t_parts_before c_t_parts_size_4 f_t_parts_held p0 c_t_parts_size_25 f_t_parts_held_25 hc25) (cwV 1 hts gX1_partByTraces_X3_append rfl rfl rfl ydX3_append ⟨Nat.le_of_ble_eq_true rfl, Nat.le_of_ble_eq_true rfl⟩) ⟨bl_PD, va_recv hK hP (ci := 3) (q0 := 2) rfl rfl, pr_PD hPc hK0 hDc hnw⟩ rfl rfl hl.1 rfl (lv_room (Nat.le_of_ble_eq_true rfl)) dX1_partByTraces_25 ⟨Nat.le_of_ble_eq_true rfl, Nat.le_of_ble_eq_true rfl⟩) hP hD hS hA [2, 1] [0] rfl rfl (by decide) (by decide) (fun H locs hP hD hS => ?_)
    have hP : va_P D vwCl [(a_t, .inr (2, [.ref a_t_parts])), (a_t_parts, .inr (3, [.ref a_t_parts_held, .ref a_t_parts_before, .int c_t_parts_size_25])), (a_t_parts_held, .inl (cyJ, 12, .inr (.inl f_t_parts_held_25)))] H := hP
    have hD : va_D A [(a_t, .inr (2, [.ref a_t_parts])), (a_t_parts, .inr (3, [.ref a_t_parts_held, .ref a_t_parts_before, .int c_t_parts_size_25])), (a_t_parts_held, .inl (cyJ, 12, .inr (.inl f_t_parts_held_25)))] := hD
    refine lv_iconst (v := 0) hx hb dX1_partByTraces_28 (by decide) ?_
    refine lv_istore (lv' := [(5, .int (0 : Int32)), (4, .int r8), (0, .ref a_t), (1, .long p0), (3, .int p1)]) hx hb dX1_partByTraces_29 hl (by decide) rfl (fun ls hl => ?_)
    refine LQ3_k1 (M := fun (y5_31 : Int32) (c_t_parts_size_31 : Int32) (f_t_parts_held_31 : Nat → Int64) => ∀ (H : Heap) (locs : List Loc), va_P D vwCl [(a_t, .inr (2, [.ref a_t_parts])), (a_t_parts, .inr (3, [.ref a_t_parts_held, .ref a_t_parts_before, .int c_t_parts_size_31])), (a_t_parts_held, .inl (cyJ, 12, .inr (.inl f_t_parts_held_31)))] H → va_D A [(a_t, .inr (2, [.ref a_t_parts])), (a_t_parts, .inr (3, [.ref a_t_parts_held, .ref a_t_parts_before, .int c_t_parts_size_31])), (a_t_parts_held, .inl (cyJ, 12, .inr (.inl f_t_parts_held_31)))] → va_S A s.heap H locs → ∀ (ls : Array Slot), lv_has ls 12 [(0, .ref a_t), (3, .int p1), (4, .int r8), (5, .int y5_31)] → W p l e rmX1_partByTraces s m ([.ref a_t, .long p0, .int p1] : List Value).toArray below meth c H locs 0 0 (MQ below (va_Qv (fun (_ : Unit) => True) (fun _ t => wQA D [(a_t, .inr (2, [.ref a_t_parts])), (a_t_parts, .inr (3, [.ref a_t_parts_held, .ref a_t_parts_before, .int o_c_t_parts_size])), (a_t_parts_held, .inl (cyJ, 12, .inr (.inl o_f_t_parts_held)))] A t) A) ([.ref a_t, .long p0, .int p1] : List Value).toArray s 0 0 A) (F0 m 31 ls [])) ?_ _ _ _ _ h _ _ hP hD hS ls (lv_sub hl [2, 4, 1, 0] rfl)
    intro k135 hk135 ih31 hih31 y5_31 c_t_parts_size_31 f_t_parts_held_31 h H locs hP hD hS ls hl
    unfold S_X1_partByTraces_31 at h
    refine lv_iload hx hb dX1_partByTraces_31 (lv_at hl 3 rfl) ?_
    refine lv_iload hx hb dX1_partByTraces_33 (lv_at hl 2 rfl) ?_
    refine lv_icmp_ge (tgt := 135) hx hb dX1_partByTraces_35 (by decide) (fun c35 => ?_) (fun c35 => ?_)
    · have h := it_ c35 h
      rw [hk135] at h
      obtain ⟨e0, e1⟩ := tup2 h
      subst e0
      subst e1
      have hP9 : va_P D vwCl [(a_t, .inr (2, [.ref a_t_parts])), (a_t_parts, .inr (3, [.ref a_t_parts_held, .ref a_t_parts_before, .int c_t_parts_size_31])), (a_t_parts_held, .inl (cyJ, 12, .inr (.inl f_t_parts_held_31)))] H := hP.sub [0, 1, 2] rfl
      have hD9 : va_D A [(a_t, .inr (2, [.ref a_t_parts])), (a_t_parts, .inr (3, [.ref a_t_parts_held, .ref a_t_parts_before, .int c_t_parts_size_31])), (a_t_parts_held, .inl (cyJ, 12, .inr (.inl f_t_parts_held_31)))] := hD.sub [0, 1, 2] (by decide) rfl
      exact W.vret hx hb hr (fun t ht hW => ⟨⟨(), rfl, trivial, wQA_of ht hP9 hD9⟩, hS.F ht⟩) hS.2.2 dX1_partByTraces_135
    · have h := if_ c35 h
      refine lv_aload_n hx hb dX1_partByTraces_38 rfl (lv_at hl 0 rfl) ?_
      refine va_get (D := D) (ci := 2) (v := .ref a_t_parts) (C := RX1) (T := TX1) (N := 1) hx hb hts hinX1 hown hK hP 0 rfl rfl 0 (by decide) hfl12 (fun _ h9 => h9) rfl dX1_partByTraces_39 ?_
      refine va_getN (D := D) (ci := 3) (v := .int c_t_parts_size_31) (C := RX3) (T := TX3) (N := 3) hx hb hts hinX3 hown hK hP 1 rfl rfl 2 (by decide) hfl52 (fun _ h9 => h9) rfl dX1_partByTraces_42 ?_
      refine lv_istore (lv' := [(6, .int c_t_parts_size_31), (0, .ref a_t), (3, .int p1), (4, .int r8), (5, .int y5_31)]) hx hb dX1_partByTraces_45 hl (by decide) rfl (fun ls hl => ?_)
      refine lv_iconst (v := 0) hx hb dX1_partByTraces_47 (by decide) ?_
      refine lv_istore (lv' := [(7, .int (0 : Int32)), (6, .int c_t_parts_size_31), (0, .ref a_t), (3, .int p1), (4, .int r8), (5, .int y5_31)]) hx hb dX1_partByTraces_48 hl (by decide) rfl (fun ls hl => ?_)
      refine LQ3_k1 (M := fun (y7_50 : Int32) (c_t_parts_size_50 : Int32) (f_t_parts_held_50 : Nat → Int64) => ∀ (H : Heap) (locs : List Loc), va_P D vwCl [(a_t, .inr (2, [.ref a_t_parts])), (a_t_parts, .inr (3, [.ref a_t_parts_held, .ref a_t_parts_before, .int c_t_parts_size_50])), (a_t_parts_held, .inl (cyJ, 12, .inr (.inl f_t_parts_held_50)))] H → va_D A [(a_t, .inr (2, [.ref a_t_parts])), (a_t_parts, .inr (3, [.ref a_t_parts_held, .ref a_t_parts_before, .int c_t_parts_size_50])), (a_t_parts_held, .inl (cyJ, 12, .inr (.inl f_t_parts_held_50)))] → va_S A s.heap H locs → ∀ (ls : Array Slot), lv_has ls 12 [(0, .ref a_t), (3, .int p1), (4, .int r8), (5, .int y5_31), (6, .int c_t_parts_size_31), (7, .int y7_50)] → W p l e rmX1_partByTraces s m ([.ref a_t, .long p0, .int p1] : List Value).toArray below meth c H locs 0 0 (MQ below (va_Qv (fun (_ : Unit) => True) (fun _ t => wQA D [(a_t, .inr (2, [.ref a_t_parts])), (a_t_parts, .inr (3, [.ref a_t_parts_held, .ref a_t_parts_before, .int o_c_t_parts_size])), (a_t_parts_held, .inl (cyJ, 12, .inr (.inl o_f_t_parts_held)))] A t) A) ([.ref a_t, .long p0, .int p1] : List Value).toArray s 0 0 A) (F0 m 50 ls [])) ?_ _ _ _ _ h _ _ hP hD hS ls (lv_sub hl [2, 3, 4, 5, 1, 0] rfl)
      intro k129 hk129 ih50 hih50 y7_50 c_t_parts_size_50 f_t_parts_held_50 h H locs hP hD hS ls hl
      unfold S_X1_partByTraces_50 at h
      have hj123 : ∀ (j7_123 : Int32) (c_t_parts_size_j123 : Int32) (f_t_parts_held_j123 : Nat → Int64), J_X1_partByTraces_123 ih50 j7_123 c_t_parts_size_j123 f_t_parts_held_j123 = some (o_c_t_parts_size, o_f_t_parts_held) → ∀ (H : Heap) (locs : List Loc), va_P D vwCl [(a_t, .inr (2, [.ref a_t_parts])), (a_t_parts, .inr (3, [.ref a_t_parts_held, .ref a_t_parts_before, .int c_t_parts_size_j123])), (a_t_parts_held, .inl (cyJ, 12, .inr (.inl f_t_parts_held_j123)))] H → va_D A [(a_t, .inr (2, [.ref a_t_parts])), (a_t_parts, .inr (3, [.ref a_t_parts_held, .ref a_t_parts_before, .int c_t_parts_size_j123])), (a_t_parts_held, .inl (cyJ, 12, .inr (.inl f_t_parts_held_j123)))] → va_S A s.heap H locs → ∀ (ls : Array Slot), lv_has ls 12 [(0, .ref a_t), (3, .int p1), (4, .int r8), (5, .int y5_31), (6, .int c_t_parts_size_31), (7, .int j7_123)] → W p l e rmX1_partByTraces s m ([.ref a_t, .long p0, .int p1] : List Value).toArray below meth c H locs 0 0 (MQ below (va_Qv (fun (_ : Unit) => True) (fun _ t => wQA D [(a_t, .inr (2, [.ref a_t_parts])), (a_t_parts, .inr (3, [.ref a_t_parts_held, .ref a_t_parts_before, .int o_c_t_parts_size])), (a_t_parts_held, .inl (cyJ, 12, .inr (.inl o_f_t_parts_held)))] A t) A) ([.ref a_t, .long p0, .int p1] : List Value).toArray s 0 0 A) (F0 m 123 ls []) := by
        intro j7_123 c_t_parts_size_j123 f_t_parts_held_j123 h H locs hP hD hS ls hl
        unfold J_X1_partByTraces_123 at h
        obtain ⟨x7_123, e_x7_123⟩ : ∃ z : Int32, z = j7_123 + 1 := ⟨_, rfl⟩
        have h := bnd_h e_x7_123 h
        refine lv_iinc (v := x7_123) (lv' := [(7, .int x7_123), (0, .ref a_t), (3, .int p1), (4, .int r8), (5, .int y5_31), (6, .int c_t_parts_size_31)]) hx hb dX1_partByTraces_123 hl (k := 5) rfl (by rw [e_x7_123]; rfl) (by decide) rfl (fun ls hl => ?_)
        refine lv_goto (tgt := 50) hx hb dX1_partByTraces_126 (by decide) ?_
        exact hih50 x7_123 c_t_parts_size_j123 f_t_parts_held_j123 h _ _ (hP.sub [0, 1, 2] rfl) (hD.sub [0, 1, 2] (by decide) rfl) hS ls (lv_sub hl [1, 2, 3, 4, 5, 0] rfl)
      refine lv_iload hx hb dX1_partByTraces_50 (lv_at hl 5 rfl) ?_
      refine lv_iload hx hb dX1_partByTraces_52 (lv_at hl 4 rfl) ?_
      refine lv_icmp_ge (tgt := 129) hx hb dX1_partByTraces_54 (by decide) (fun c54 => ?_) (fun c54 => ?_)
      · have h := it_ c54 h
        rw [hk129] at h
        obtain ⟨x5_129, e_x5_129⟩ : ∃ z : Int32, z = y5_31 + 1 := ⟨_, rfl⟩
        have h := bnd_h e_x5_129 h
        refine lv_iinc (v := x5_129) (lv' := [(5, .int x5_129), (0, .ref a_t), (3, .int p1), (4, .int r8), (6, .int c_t_parts_size_31), (7, .int y7_50)]) hx hb dX1_partByTraces_129 hl (k := 3) rfl (by rw [e_x5_129]; rfl) (by decide) rfl (fun ls hl => ?_)
        refine lv_goto (tgt := 31) hx hb dX1_partByTraces_132 (by decide) ?_
        exact hih31 x5_129 c_t_parts_size_50 f_t_parts_held_50 h _ _ (hP.sub [0, 1, 2] rfl) (hD.sub [0, 1, 2] (by decide) rfl) hS ls (lv_sub hl [1, 2, 3, 0] rfl)
      · have h := if_ c54 h
        refine lv_aload_n hx hb dX1_partByTraces_57 rfl (lv_at hl 0 rfl) ?_
        refine va_get (D := D) (ci := 2) (v := .ref a_t_parts) (C := RX1) (T := TX1) (N := 1) hx hb hts hinX1 hown hK hP 0 rfl rfl 0 (by decide) hfl12 (fun _ h9 => h9) rfl dX1_partByTraces_58 ?_
        refine lv_iload hx hb dX1_partByTraces_61 (lv_at hl 5 rfl) ?_
        obtain ⟨r63, hc63, h⟩ := obn_h h
        have hPc : va_P D vwCl [(a_t_parts, .inr (3, [.ref a_t_parts_held, .ref a_t_parts_before, .int c_t_parts_size_50])), (a_t_parts_held, .inl (cyJ, 12, .inr (.inl f_t_parts_held_50)))] H := hP.sub [1, 2] rfl
        refine rd_callV (As := [.int y7_50]) (rest := []) hcf (c_X3_at l D cyJ a_t_parts a_t_parts_held a_t_parts_before c_t_parts_size_50 f_t_parts_held_50 y7_50 r63 hc63) (cwV 1 hts gX1_partByTraces_X3_at rfl rfl rfl ydX3_at ⟨Nat.le_of_ble_eq_true rfl, Nat.le_of_ble_eq_true rfl⟩) hnw hPc hK0 (va_recv hK hP (ci := 3) (q0 := 1) rfl rfl) rfl hl.1 rfl (Nat.le_of_ble_eq_true rfl) dX1_partByTraces_63 ⟨Nat.le_of_ble_eq_true rfl, Nat.le_of_ble_eq_true rfl⟩ ?_
        refine lv_lstore (lv' := [(8, .long r63), (0, .ref a_t), (3, .int p1), (4, .int r8), (5, .int y5_31), (6, .int c_t_parts_size_31), (7, .int y7_50)]) hx hb dX1_partByTraces_66 hl (by decide) rfl (fun ls hl => ?_)
        refine lv_lload hx hb dX1_partByTraces_68 (lv_at hl 0 rfl) ?_
        refine lv_iload hx hb dX1_partByTraces_70 (lv_at hl 4 rfl) ?_
        refine lv_iload_n hx hb dX1_partByTraces_72 rfl (lv_at hl 2 rfl) ?_
        refine lv_lload hx hb dX1_partByTraces_73 (lv_at hl 0 rfl) ?_
        obtain ⟨r75, hc75, h⟩ := obn_h h
        refine pz_callS (As := [.int y5_31, .int p1, .long r63]) (rest := [.long r63]) hcf (c_X0_trace l y5_31 p1 r63 r75 hc75) (va_cwS 3 hts gX1_partByTraces_X0_trace rfl rfl rfl ydX0_trace ⟨Nat.le_of_ble_eq_true rfl, Nat.le_of_ble_eq_true rfl⟩) hnw rfl hl.1 rfl (Nat.le_of_ble_eq_true rfl) dX1_partByTraces_75 ⟨Nat.le_of_ble_eq_true rfl, Nat.le_of_ble_eq_true rfl⟩ ?_
        obtain ⟨r78, hc78, h⟩ := obn_h h
        refine pz_callS (As := [.long r63, .long r75]) (rest := []) hcf (c_X0_greatestBoth l r63 r75 r78 hc78) (va_cwS 2 hts gX1_partByTraces_X0_greatestBoth rfl rfl rfl ydX0_greatestBoth ⟨Nat.le_of_ble_eq_true rfl, Nat.le_of_ble_eq_true rfl⟩) hnw rfl hl.1 rfl (Nat.le_of_ble_eq_true rfl) dX1_partByTraces_78 ⟨Nat.le_of_ble_eq_true rfl, Nat.le_of_ble_eq_true rfl⟩ ?_
        refine lv_lstore (lv' := [(10, .long r78), (8, .long r63), (0, .ref a_t), (3, .int p1), (4, .int r8), (5, .int y5_31), (6, .int c_t_parts_size_31), (7, .int y7_50)]) hx hb dX1_partByTraces_81 hl (by decide) rfl (fun ls hl => ?_)
        refine lv_lload hx hb dX1_partByTraces_83 (lv_at hl 0 rfl) ?_
        refine lv_lconst (v := 1) hx hb dX1_partByTraces_85 (by decide) ?_
        refine W.lcmp hx hb dX1_partByTraces_86 ?_
        refine lv_if_eq (tgt := 123) hx hb dX1_partByTraces_87 (by decide) (fun c87 => ?_) (fun c87 => ?_)
        · have c87 := (lg_cmp_eq _ _).mp c87
          have h := it_ c87 h
          exact hj123 y7_50 c_t_parts_size_50 f_t_parts_held_50 h _ _ (hP.sub [0, 1, 2] rfl) (hD.sub [0, 1, 2] (by decide) rfl) hS ls (lv_sub hl [2, 3, 4, 5, 6, 7] rfl)
        · have c87 := fun z => c87 ((lg_cmp_eq _ _).mpr z)
          have h := if_ c87 h
          refine lv_lload hx hb dX1_partByTraces_90 (lv_at hl 0 rfl) ?_
          refine lv_lload hx hb dX1_partByTraces_92 (lv_at hl 1 rfl) ?_
          refine W.lcmp hx hb dX1_partByTraces_94 ?_
          refine lv_if_eq (tgt := 123) hx hb dX1_partByTraces_95 (by decide) (fun c95 => ?_) (fun c95 => ?_)
          · have c95 := (lg_cmp_eq _ _).mp c95
            have h := it_ c95 h
            exact hj123 y7_50 c_t_parts_size_50 f_t_parts_held_50 h _ _ (hP.sub [0, 1, 2] rfl) (hD.sub [0, 1, 2] (by decide) rfl) hS ls (lv_sub hl [2, 3, 4, 5, 6, 7] rfl)
          · have c95 := fun z => c95 ((lg_cmp_eq _ _).mpr z)
            have h := if_ c95 h
            refine lv_aload_n hx hb dX1_partByTraces_98 rfl (lv_at hl 2 rfl) ?_
            refine va_get (D := D) (ci := 2) (v := .ref a_t_parts) (C := RX1) (T := TX1) (N := 1) hx hb hts hinX1 hown hK hP 0 rfl rfl 0 (by decide) hfl12 (fun _ h9 => h9) rfl dX1_partByTraces_99 ?_
            refine lv_iload hx hb dX1_partByTraces_102 (lv_at hl 7 rfl) ?_
            refine lv_lload hx hb dX1_partByTraces_104 (lv_at hl 0 rfl) ?_
            obtain ⟨f_t_parts_held_106, hc106, h⟩ := obn_h h
            have hPc := hP.sub (ws' := [(a_t_parts, .inr (3, [.ref a_t_parts_held, .ref a_t_parts_before, .int c_t_parts_size_50])), (a_t_parts_held, .inl (cyJ, 12, .inr (.inl f_t_parts_held_50)))]) [1, 2] rfl
            have hDc := hD.sub (ws' := [(a_t_parts, .inr (3, [.ref a_t_parts_held, .ref a_t_parts_before, .int c_t_parts_size_50])), (a_t_parts_held, .inl (cyJ, 12, .inr (.inl f_t_parts_held_50)))]) [1, 2] (by decide) rfl
            refine hp_v (w1 := [(a_t_parts, .inr (3, [.ref a_t_parts_held, .ref a_t_parts_before, .int c_t_parts_size_50])), (a_t_parts_held, .inl (cyJ, 12, .inr (.inl f_t_parts_held_106)))]) (wr := [(a_t, .inr (2, [.ref a_t_parts]))]) (va_runV (As := [.int y7_50, .long r78]) (rest := []) hcf (c_X3_put l D cyJ H.size a_t_parts a_t_parts_held a_t_parts_before c_t_parts_size_50 f_t_parts_held_50 y7_50 r78 f_t_parts_held_106 hc106) (cwV 2 hts gX1_partByTraces_X3_put rfl rfl rfl ydX3_put ⟨Nat.le_of_ble_eq_true rfl, Nat.le_of_ble_eq_true rfl⟩) ⟨bl_PD, va_recv hK hP (ci := 3) (q0 := 1) rfl rfl, pr_PD hPc hK0 hDc hnw⟩ rfl rfl hl.1 rfl (lv_room (Nat.le_of_ble_eq_true rfl)) dX1_partByTraces_106 ⟨Nat.le_of_ble_eq_true rfl, Nat.le_of_ble_eq_true rfl⟩) hP hD hS hA [1, 2] [0] rfl rfl (by decide) (by decide) (fun H locs hP hD hS => ?_)
            have hP : va_P D vwCl [(a_t, .inr (2, [.ref a_t_parts])), (a_t_parts, .inr (3, [.ref a_t_parts_held, .ref a_t_parts_before, .int c_t_parts_size_50])), (a_t_parts_held, .inl (cyJ, 12, .inr (.inl f_t_parts_held_106)))] H := hP
            have hD : va_D A [(a_t, .inr (2, [.ref a_t_parts])), (a_t_parts, .inr (3, [.ref a_t_parts_held, .ref a_t_parts_before, .int c_t_parts_size_50])), (a_t_parts_held, .inl (cyJ, 12, .inr (.inl f_t_parts_held_106)))] := hD
            refine lv_aload_n hx hb dX1_partByTraces_109 rfl (lv_at hl 2 rfl) ?_
            refine va_get (D := D) (ci := 2) (v := .ref a_t_parts) (C := RX1) (T := TX1) (N := 1) hx hb hts hinX1 hown hK hP 0 rfl rfl 0 (by decide) hfl12 (fun _ h9 => h9) rfl dX1_partByTraces_110 ?_
            refine lv_lload hx hb dX1_partByTraces_113 (lv_at hl 1 rfl) ?_
            refine lv_lload hx hb dX1_partByTraces_115 (lv_at hl 0 rfl) ?_
            obtain ⟨r117, hc117, h⟩ := obn_h h
            refine pz_callS (As := [.long r63, .long r78]) (rest := [.ref a_t_parts]) hcf (c_X0_quotient l r63 r78 r117 hc117) (va_cwS 2 hts gX1_partByTraces_X0_quotient rfl rfl rfl ydX0_quotient ⟨Nat.le_of_ble_eq_true rfl, Nat.le_of_ble_eq_true rfl⟩) hnw rfl hl.1 rfl (Nat.le_of_ble_eq_true rfl) dX1_partByTraces_117 ⟨Nat.le_of_ble_eq_true rfl, Nat.le_of_ble_eq_true rfl⟩ ?_
            obtain ⟨c_t_parts_size_120, f_t_parts_held_120, hc120, h⟩ := obn2_h h
            have hPc := hP.sub (ws' := [(a_t_parts, .inr (3, [.ref a_t_parts_held, .ref a_t_parts_before, .int c_t_parts_size_50])), (a_t_parts_held, .inl (cyJ, 12, .inr (.inl f_t_parts_held_106)))]) [1, 2] rfl
            have hDc := hD.sub (ws' := [(a_t_parts, .inr (3, [.ref a_t_parts_held, .ref a_t_parts_before, .int c_t_parts_size_50])), (a_t_parts_held, .inl (cyJ, 12, .inr (.inl f_t_parts_held_106)))]) [1, 2] (by decide) rfl
            refine hp_v (w1 := [(a_t_parts, .inr (3, [.ref a_t_parts_held, .ref a_t_parts_before, .int c_t_parts_size_120])), (a_t_parts_held, .inl (cyJ, 12, .inr (.inl f_t_parts_held_120)))]) (wr := [(a_t, .inr (2, [.ref a_t_parts]))]) (va_runV (As := [.long r117]) (rest := []) hcf (c_X3_append l D cyJ H.size a_t_parts a_t_parts_held a_t_parts_before c_t_parts_size_50 f_t_parts_held_106 r117 c_t_parts_size_120 f_t_parts_held_120 hc120) (cwV 1 hts gX1_partByTraces_X3_append rfl rfl rfl ydX3_append ⟨Nat.le_of_ble_eq_true rfl, Nat.le_of_ble_eq_true rfl⟩) ⟨bl_PD, va_recv hK hP (ci := 3) (q0 := 1) rfl rfl, pr_PD hPc hK0 hDc hnw⟩ rfl rfl hl.1 rfl (lv_room (Nat.le_of_ble_eq_true rfl)) dX1_partByTraces_120 ⟨Nat.le_of_ble_eq_true rfl, Nat.le_of_ble_eq_true rfl⟩) hP hD hS hA [1, 2] [0] rfl rfl (by decide) (by decide) (fun H locs hP hD hS => ?_)
            have hP : va_P D vwCl [(a_t, .inr (2, [.ref a_t_parts])), (a_t_parts, .inr (3, [.ref a_t_parts_held, .ref a_t_parts_before, .int c_t_parts_size_120])), (a_t_parts_held, .inl (cyJ, 12, .inr (.inl f_t_parts_held_120)))] H := hP
            have hD : va_D A [(a_t, .inr (2, [.ref a_t_parts])), (a_t_parts, .inr (3, [.ref a_t_parts_held, .ref a_t_parts_before, .int c_t_parts_size_120])), (a_t_parts_held, .inl (cyJ, 12, .inr (.inl f_t_parts_held_120)))] := hD
            exact hj123 y7_50 c_t_parts_size_120 f_t_parts_held_120 h _ _ (hP.sub [0, 1, 2] rfl) (hD.sub [0, 1, 2] (by decide) rfl) hS ls (lv_sub hl [2, 3, 4, 5, 6, 7] rfl)
  · have h := if_ c16 h
    obtain ⟨e0, e1⟩ := tup2 h
    subst e0
    subst e1
    have hP9 : va_P D vwCl [(a_t, .inr (2, [.ref a_t_parts])), (a_t_parts, .inr (3, [.ref a_t_parts_held, .ref a_t_parts_before, .int c_t_parts_size_4])), (a_t_parts_held, .inl (cyJ, 12, .inr (.inl f_t_parts_held)))] H := hP.sub [0, 2, 1] rfl
    have hD9 : va_D A [(a_t, .inr (2, [.ref a_t_parts])), (a_t_parts, .inr (3, [.ref a_t_parts_held, .ref a_t_parts_before, .int c_t_parts_size_4])), (a_t_parts_held, .inl (cyJ, 12, .inr (.inl f_t_parts_held)))] := hD.sub [0, 2, 1] (by decide) rfl
    exact W.vret hx hb hr (fun t ht hW => ⟨⟨(), rfl, trivial, wQA_of ht hP9 hD9⟩, hS.F ht⟩) hS.2.2 dX1_partByTraces_19

noncomputable abbrev rmX1_dividedOut : Room := { frames := 4, cells := 0, slots := 0, locals := 94 }
theorem ydX1_dividedOut : yX1_dividedOut.cls ≠ "java/lang/invoke/MethodHandle" ∧ yX1_dividedOut.cls ≠ "java/lang/invoke/VarHandle" ∧ (parseMethodDescriptor yX1_dividedOut.desc).map (fun d => d.parameters.length) = some 3 := by decide +kernel
noncomputable def S_X1_dividedOut_6 (z2_6 : Int64) (k42 : Int64 → Int32 → (Nat → Int64) → Option (Int64 × Int32 × (Nat → Int64))) (ih6 : Int64 → Int32 → Int32 → (Nat → Int64) → Option (Int64 × Int32 × (Nat → Int64))) (y5_6 : Int64) (y7_6 : Int32) (c_q2_size_6 : Int32) (f_q2_held_6 : Nat → Int64) : Option (Int64 × Int32 × (Nat → Int64)) :=
 (if (10 : Int32) ≤ y7_6 then
 k42 y5_6 c_q2_size_6 f_q2_held_6
else
 obn (F_X0_goesInto z2_6 y5_6) (fun r16 =>
 (if r16 = 0 then
 k42 y5_6 c_q2_size_6 f_q2_held_6
else
 obn2 (F_X3_append c_q2_size_6 f_q2_held_6 z2_6) (fun c_q2_size_25 f_q2_held_25 =>
 obn (F_X0_quotient y5_6 z2_6) (fun r31 =>
 bnd (y7_6 + 1) (fun x7_36 =>
 ih6 r31 x7_36 c_q2_size_25 f_q2_held_25))))))
noncomputable def F_X1_dividedOut (c_q2_size : Int32) (f_q2_held : Nat → Int64) (p0 : Int64) (p1 : Int64) : Option (Int64 × Int32 × (Nat → Int64)) :=
 LQ4 (S_X1_dividedOut_6 p1 (fun y5_6_42 c_q2_size_6_42 f_q2_held_6_42 =>
 some (y5_6_42, c_q2_size_6_42, f_q2_held_6_42))) 20000 p0 (0 : Int32) c_q2_size f_q2_held
set_option maxHeartbeats 4000000 in
set_option maxRecDepth 100000 in
theorem c_X1_dividedOut (l : Launch) (D : va_G) (cyJ : ClassId) (sz : Nat) (a_q2 : Nat) (a_q2_held : Nat) (a_q2_before : Nat) (c_q2_size : Int32) (f_q2_held : Nat → Int64) (p0 : Int64) (p1 : Int64) (r0 : Int64) (o_c_q2_size : Int32) (o_f_q2_held : Nat → Int64) (hF : F_X1_dividedOut c_q2_size f_q2_held p0 p1 = some (r0, o_c_q2_size, o_f_q2_held)) : Met l yX1_dividedOut wsX1_dividedOut rmX1_dividedOut (va_Pc [.long p0, .long p1, .ref a_q2] (wPD D [(cyJ, .long)] [(a_q2, .inr (3, [.ref a_q2_held, .ref a_q2_before, .int c_q2_size])), (a_q2_held, .inl (cyJ, 12, .inr (.inl f_q2_held)))] sz)) (va_Ql (fun (r : Int64) (_ : Unit) => r = r0) (fun _ t => wQA D [(a_q2, .inr (3, [.ref a_q2_held, .ref a_q2_before, .int o_c_q2_size])), (a_q2_held, .inl (cyJ, 12, .inr (.inl o_f_q2_held)))] (va_A [(a_q2, .inr (3, [.ref a_q2_held, .ref a_q2_before, .int c_q2_size])), (a_q2_held, .inl (cyJ, 12, .inr (.inl f_q2_held)))] sz) t) (va_A [(a_q2, .inr (3, [.ref a_q2_held, .ref a_q2_before, .int c_q2_size])), (a_q2_held, .inl (cyJ, 12, .inr (.inl f_q2_held)))] sz)) 0 0 (va_A [(a_q2, .inr (3, [.ref a_q2_held, .ref a_q2_before, .int c_q2_size])), (a_q2_held, .inl (cyJ, 12, .inr (.inl f_q2_held)))] sz) := by
  refine Met.ofW (cc := cX1_dividedOut) (maxL := 8) (ret := (some .long)) (by decide) rfl ?_
  intro p e s m args below meth c s₁ B hml hv
  obtain ⟨rfl, hsz, hP, hK, hD0, hnw⟩ := hv
  have hx := B.exec
  have hb := B.bytes
  have hr := B.returns
  have hts := atoms_spec (ws := wsX1_dividedOut) B.pre
  have hown : s.vm.findClass RX1 = some m.cls := findClass_of_methodNamed B.named
  have hlocks := B.notSynchronized
  have hcf : CallFix _ _ _ _ _ _ _ _ _ := ⟨hx, hb, hml, hown, hts⟩
  subst hsz
  have hD := hD0.self (sz := s.heap.size)
  generalize hAe : va_A [(a_q2, .inr (3, [.ref a_q2_held, .ref a_q2_before, .int c_q2_size])), (a_q2_held, .inl (cyJ, 12, .inr (.inl f_q2_held)))] s.heap.size = A at hD ⊢
  have hA : ∀ q : Nat, s.heap.size ≤ q → A q := fun q h => by rw [← hAe]; exact Or.inr h
  have hS : va_S A s.heap s.heap [] := va_S.rf
  have hP : va_P D vwCl [(a_q2, .inr (3, [.ref a_q2_held, .ref a_q2_before, .int c_q2_size])), (a_q2_held, .inl (cyJ, 12, .inr (.inl f_q2_held)))] s.heap := hP
  have hK0 := hK
  have hl := lv_entry ([.long p0, .long p1, .ref a_q2]) (n := 8) (Nat.le_of_ble_eq_true rfl)
  rw [lg_entry_eq]
  generalize (lg_sl ([.long p0, .long p1, .ref a_q2]) ++ List.replicate (8 - (lg_sl ([.long p0, .long p1, .ref a_q2])).length) Slot.unset).toArray = ls at hl ⊢
  have hl : lv_has ls 8 [(0, .long p0), (2, .long p1), (4, .ref a_q2)] := hl
  have h := hF
  clear hF
  unfold F_X1_dividedOut at h
  refine lv_lload_n hx hb dX1_dividedOut_0 rfl (lv_at hl 0 rfl) ?_
  refine lv_lstore (lv' := [(5, .long p0), (0, .long p0), (2, .long p1), (4, .ref a_q2)]) hx hb dX1_dividedOut_1 hl (by decide) rfl (fun ls hl => ?_)
  refine lv_iconst (v := 0) hx hb dX1_dividedOut_3 (by decide) ?_
  refine lv_istore (lv' := [(7, .int (0 : Int32)), (5, .long p0), (0, .long p0), (2, .long p1), (4, .ref a_q2)]) hx hb dX1_dividedOut_4 hl (by decide) rfl (fun ls hl => ?_)
  refine LQ4_k1 (M := fun (y5_6 : Int64) (y7_6 : Int32) (c_q2_size_6 : Int32) (f_q2_held_6 : Nat → Int64) => ∀ (H : Heap) (locs : List Loc), va_P D vwCl [(a_q2, .inr (3, [.ref a_q2_held, .ref a_q2_before, .int c_q2_size_6])), (a_q2_held, .inl (cyJ, 12, .inr (.inl f_q2_held_6)))] H → va_D A [(a_q2, .inr (3, [.ref a_q2_held, .ref a_q2_before, .int c_q2_size_6])), (a_q2_held, .inl (cyJ, 12, .inr (.inl f_q2_held_6)))] → va_S A s.heap H locs → ∀ (ls : Array Slot), lv_has ls 8 [(2, .long p1), (4, .ref a_q2), (5, .long y5_6), (7, .int y7_6)] → W p l e rmX1_dividedOut s m ([.long p0, .long p1, .ref a_q2] : List Value).toArray below meth c H locs 0 0 (MQ below (va_Ql (fun (r : Int64) (_ : Unit) => r = r0) (fun _ t => wQA D [(a_q2, .inr (3, [.ref a_q2_held, .ref a_q2_before, .int o_c_q2_size])), (a_q2_held, .inl (cyJ, 12, .inr (.inl o_f_q2_held)))] A t) A) ([.long p0, .long p1, .ref a_q2] : List Value).toArray s 0 0 A) (F0 m 6 ls [])) ?_ _ _ _ _ _ h _ _ hP hD hS ls (lv_sub hl [3, 4, 1, 0] rfl)
  intro k42 hk42 ih6 hih6 y5_6 y7_6 c_q2_size_6 f_q2_held_6 h H locs hP hD hS ls hl
  unfold S_X1_dividedOut_6 at h
  refine lv_iload hx hb dX1_dividedOut_6 (lv_at hl 3 rfl) ?_
  refine lv_bipush (v := 10) hx hb dX1_dividedOut_8 (by decide) ?_
  refine lv_icmp_ge (tgt := 42) hx hb dX1_dividedOut_10 (by decide) (fun c10 => ?_) (fun c10 => ?_)
  · have h := it_ c10 h
    rw [hk42] at h
    refine lv_lload hx hb dX1_dividedOut_42 (lv_at hl 2 rfl) ?_
    obtain ⟨e0, e1, e2⟩ := tup3 h
    subst e0
    subst e1
    subst e2
    have hP9 : va_P D vwCl [(a_q2, .inr (3, [.ref a_q2_held, .ref a_q2_before, .int c_q2_size_6])), (a_q2_held, .inl (cyJ, 12, .inr (.inl f_q2_held_6)))] H := hP.sub [0, 1] rfl
    have hD9 : va_D A [(a_q2, .inr (3, [.ref a_q2_held, .ref a_q2_before, .int c_q2_size_6])), (a_q2_held, .inl (cyJ, 12, .inr (.inl f_q2_held_6)))] := hD.sub [0, 1] (by decide) rfl
    exact W.lret hx hb hr (fun t ht hW => ⟨⟨_, (), rfl, rfl, wQA_of ht hP9 hD9⟩, hS.F ht⟩) hS.2.2 dX1_dividedOut_44
  · have h := if_ c10 h
    refine lv_lload_n hx hb dX1_dividedOut_13 rfl (lv_at hl 0 rfl) ?_
    refine lv_lload hx hb dX1_dividedOut_14 (lv_at hl 2 rfl) ?_
    obtain ⟨r16, hc16, h⟩ := obn_h h
    refine pz_callS (As := [.long p1, .long y5_6]) (rest := []) hcf (c_X0_goesInto l p1 y5_6 r16 hc16) (va_cwS 2 hts gX1_dividedOut_X0_goesInto rfl rfl rfl ydX0_goesInto ⟨Nat.le_of_ble_eq_true rfl, Nat.le_of_ble_eq_true rfl⟩) hnw rfl hl.1 rfl (Nat.le_of_ble_eq_true rfl) dX1_dividedOut_16 ⟨Nat.le_of_ble_eq_true rfl, Nat.le_of_ble_eq_true rfl⟩ ?_
    refine lv_if_eq (tgt := 42) hx hb dX1_dividedOut_19 (by decide) (fun c19 => ?_) (fun c19 => ?_)
    · have h := it_ c19 h
      rw [hk42] at h
      refine lv_lload hx hb dX1_dividedOut_42 (lv_at hl 2 rfl) ?_
      obtain ⟨e0, e1, e2⟩ := tup3 h
      subst e0
      subst e1
      subst e2
      have hP9 : va_P D vwCl [(a_q2, .inr (3, [.ref a_q2_held, .ref a_q2_before, .int c_q2_size_6])), (a_q2_held, .inl (cyJ, 12, .inr (.inl f_q2_held_6)))] H := hP.sub [0, 1] rfl
      have hD9 : va_D A [(a_q2, .inr (3, [.ref a_q2_held, .ref a_q2_before, .int c_q2_size_6])), (a_q2_held, .inl (cyJ, 12, .inr (.inl f_q2_held_6)))] := hD.sub [0, 1] (by decide) rfl
      exact W.lret hx hb hr (fun t ht hW => ⟨⟨_, (), rfl, rfl, wQA_of ht hP9 hD9⟩, hS.F ht⟩) hS.2.2 dX1_dividedOut_44
    · have h := if_ c19 h
      refine lv_aload hx hb dX1_dividedOut_22 (lv_at hl 1 rfl) ?_
      refine lv_lload_n hx hb dX1_dividedOut_24 rfl (lv_at hl 0 rfl) ?_
      obtain ⟨c_q2_size_25, f_q2_held_25, hc25, h⟩ := obn2_h h
      have hPc := hP.sub (ws' := [(a_q2, .inr (3, [.ref a_q2_held, .ref a_q2_before, .int c_q2_size_6])), (a_q2_held, .inl (cyJ, 12, .inr (.inl f_q2_held_6)))]) [0, 1] rfl
      have hDc := hD.sub (ws' := [(a_q2, .inr (3, [.ref a_q2_held, .ref a_q2_before, .int c_q2_size_6])), (a_q2_held, .inl (cyJ, 12, .inr (.inl f_q2_held_6)))]) [0, 1] (by decide) rfl
      refine hp_v (w1 := [(a_q2, .inr (3, [.ref a_q2_held, .ref a_q2_before, .int c_q2_size_25])), (a_q2_held, .inl (cyJ, 12, .inr (.inl f_q2_held_25)))]) (wr := []) (va_runV (As := [.long p1]) (rest := []) hcf (c_X3_append l D cyJ H.size a_q2 a_q2_held a_q2_before c_q2_size_6 f_q2_held_6 p1 c_q2_size_25 f_q2_held_25 hc25) (cwV 1 hts gX1_dividedOut_X3_append rfl rfl rfl ydX3_append ⟨Nat.le_of_ble_eq_true rfl, Nat.le_of_ble_eq_true rfl⟩) ⟨bl_PD, va_recv hK hP (ci := 3) (q0 := 0) rfl rfl, pr_PD hPc hK0 hDc hnw⟩ rfl rfl hl.1 rfl (lv_room (Nat.le_of_ble_eq_true rfl)) dX1_dividedOut_25 ⟨Nat.le_of_ble_eq_true rfl, Nat.le_of_ble_eq_true rfl⟩) hP hD hS hA [0, 1] [] rfl rfl (by decide) (by decide) (fun H locs hP hD hS => ?_)
      have hP : va_P D vwCl [(a_q2, .inr (3, [.ref a_q2_held, .ref a_q2_before, .int c_q2_size_25])), (a_q2_held, .inl (cyJ, 12, .inr (.inl f_q2_held_25)))] H := hP
      have hD : va_D A [(a_q2, .inr (3, [.ref a_q2_held, .ref a_q2_before, .int c_q2_size_25])), (a_q2_held, .inl (cyJ, 12, .inr (.inl f_q2_held_25)))] := hD
      refine lv_lload hx hb dX1_dividedOut_28 (lv_at hl 2 rfl) ?_
      refine lv_lload_n hx hb dX1_dividedOut_30 rfl (lv_at hl 0 rfl) ?_
      obtain ⟨r31, hc31, h⟩ := obn_h h
      refine pz_callS (As := [.long y5_6, .long p1]) (rest := []) hcf (c_X0_quotient l y5_6 p1 r31 hc31) (va_cwS 2 hts gX1_dividedOut_X0_quotient rfl rfl rfl ydX0_quotient ⟨Nat.le_of_ble_eq_true rfl, Nat.le_of_ble_eq_true rfl⟩) hnw rfl hl.1 rfl (Nat.le_of_ble_eq_true rfl) dX1_dividedOut_31 ⟨Nat.le_of_ble_eq_true rfl, Nat.le_of_ble_eq_true rfl⟩ ?_
      refine lv_lstore (lv' := [(5, .long r31), (2, .long p1), (4, .ref a_q2), (7, .int y7_6)]) hx hb dX1_dividedOut_34 hl (by decide) rfl (fun ls hl => ?_)
      obtain ⟨x7_36, e_x7_36⟩ : ∃ z : Int32, z = y7_6 + 1 := ⟨_, rfl⟩
      have h := bnd_h e_x7_36 h
      refine lv_iinc (v := x7_36) (lv' := [(7, .int x7_36), (5, .long r31), (2, .long p1), (4, .ref a_q2)]) hx hb dX1_dividedOut_36 hl (k := 3) rfl (by rw [e_x7_36]; rfl) (by decide) rfl (fun ls hl => ?_)
      refine lv_goto (tgt := 6) hx hb dX1_dividedOut_39 (by decide) ?_
      exact hih6 r31 x7_36 c_q2_size_25 f_q2_held_25 h _ _ (hP.sub [0, 1] rfl) (hD.sub [0, 1] (by decide) rfl) hS ls (lv_sub hl [2, 3, 1, 0] rfl)

noncomputable abbrev rmX0_risenRest : Room := { frames := 3, cells := 0, slots := 0, locals := 71 }
theorem ydX0_risenRest : yX0_risenRest.cls ≠ "java/lang/invoke/MethodHandle" ∧ yX0_risenRest.cls ≠ "java/lang/invoke/VarHandle" ∧ (parseMethodDescriptor yX0_risenRest.desc).map (fun d => d.parameters.length) = some 2 := by decide +kernel
noncomputable def S_X0_risenRest_11 (z0_11 : Int32) (z1_11 : Int64) (k32 : Int64 → Option (Int64)) (ih11 : Int64 → Int32 → Option (Int64)) (y3_11 : Int64) (y5_11 : Int32) : Option (Int64) :=
 (if z0_11 ≤ y5_11 then
 k32 y3_11
else
 obn (F_X0_squared y3_11) (fun r18 =>
 obn (F_X0_rest r18 z1_11) (fun r22 =>
 bnd (y5_11 + 1) (fun x5_26 =>
 ih11 r22 x5_26))))
noncomputable def F_X0_risenRest (p0 : Int32) (p1 : Int64) : Option (Int64) :=
 obn (F_X0_rest (2 : Int64) p1) (fun r4 =>
 LQ2 (S_X0_risenRest_11 p0 p1 (fun y3_11_32 =>
 some y3_11_32)) 20000 r4 (0 : Int32))
set_option maxHeartbeats 4000000 in
set_option maxRecDepth 100000 in
theorem c_X0_risenRest (l : Launch) (p0 : Int32) (p1 : Int64) (r0 : Int64) (hF : F_X0_risenRest p0 p1 = some r0) : Met l yX0_risenRest wsX0_risenRest rmX0_risenRest (va_Pc [.int p0, .long p1] NW) (k2_QcV (.long r0)) 0 0 (fun _ => False) := by
  refine Met.ofW (cc := cX0_risenRest) (maxL := 6) (ret := (some .long)) (by decide) rfl ?_
  intro p e s m args below meth c s₁ B hml hv
  obtain ⟨rfl, hnw⟩ := hv
  have hx := B.exec
  have hb := B.bytes
  have hr := B.returns
  have hts := atoms_spec (ws := wsX0_risenRest) B.pre
  have hown : s.vm.findClass RX0 = some m.cls := findClass_of_methodNamed B.named
  have hlocks := B.notSynchronized
  have hcf : CallFix _ _ _ _ _ _ _ _ _ := ⟨hx, hb, hml, hown, hts⟩
  have hl := lv_entry ([.int p0, .long p1]) (n := 6) (Nat.le_of_ble_eq_true rfl)
  rw [lg_entry_eq]
  generalize (lg_sl ([.int p0, .long p1]) ++ List.replicate (6 - (lg_sl ([.int p0, .long p1])).length) Slot.unset).toArray = ls at hl ⊢
  have hl : lv_has ls 6 [(0, .int p0), (1, .long p1)] := hl
  have h := hF
  clear hF
  unfold F_X0_risenRest at h
  refine lv_ldc2 hx hb hown (hts (.constantLong RX0 28 (2)) (by decide +kernel)) dX0_risenRest_0 ?_
  refine lv_lload_n hx hb dX0_risenRest_3 rfl (lv_at hl 1 rfl) ?_
  obtain ⟨r4, hc4, h⟩ := obn_h h
  refine pz_callS (As := [.long (2 : Int64), .long p1]) (rest := []) hcf (c_X0_rest l (2 : Int64) p1 r4 hc4) (va_cwS 2 hts gX0_risenRest_X0_rest rfl rfl rfl ydX0_rest ⟨Nat.le_of_ble_eq_true rfl, Nat.le_of_ble_eq_true rfl⟩) hnw rfl hl.1 rfl (Nat.le_of_ble_eq_true rfl) dX0_risenRest_4 ⟨Nat.le_of_ble_eq_true rfl, Nat.le_of_ble_eq_true rfl⟩ ?_
  refine lv_lstore_n (lv' := [(3, .long r4), (0, .int p0), (1, .long p1)]) hx hb dX0_risenRest_7 rfl hl (by decide) rfl (fun ls hl => ?_)
  refine lv_iconst (v := 0) hx hb dX0_risenRest_8 (by decide) ?_
  refine lv_istore (lv' := [(5, .int (0 : Int32)), (3, .long r4), (0, .int p0), (1, .long p1)]) hx hb dX0_risenRest_9 hl (by decide) rfl (fun ls hl => ?_)
  refine LQ2_k1 (M := fun (y3_11 : Int64) (y5_11 : Int32) => ∀ (ls : Array Slot), lv_has ls 6 [(0, .int p0), (1, .long p1), (3, .long y3_11), (5, .int y5_11)] → W p l e rmX0_risenRest s m ([.int p0, .long p1] : List Value).toArray below meth c s.heap [] 0 0 (MQ below (k2_QcV (.long r0)) ([.int p0, .long p1] : List Value).toArray s 0 0 (fun _ => False)) (F0 m 11 ls [])) ?_ _ _ _ h ls (lv_sub hl [2, 3, 1, 0] rfl)
  intro k32 hk32 ih11 hih11 y3_11 y5_11 h ls hl
  unfold S_X0_risenRest_11 at h
  refine lv_iload hx hb dX0_risenRest_11 (lv_at hl 3 rfl) ?_
  refine lv_iload_n hx hb dX0_risenRest_13 rfl (lv_at hl 0 rfl) ?_
  refine lv_icmp_ge (tgt := 32) hx hb dX0_risenRest_14 (by decide) (fun c14 => ?_) (fun c14 => ?_)
  · have h := it_ c14 h
    rw [hk32] at h
    refine lv_lload_n hx hb dX0_risenRest_32 rfl (lv_at hl 2 rfl) ?_
    have e1 := Option.some.inj h
    subst e1
    exact W.lret hx hb hr (fun t ht _ => ⟨rfl, ht⟩) no_q dX0_risenRest_33
  · have h := if_ c14 h
    refine lv_lload_n hx hb dX0_risenRest_17 rfl (lv_at hl 2 rfl) ?_
    obtain ⟨r18, hc18, h⟩ := obn_h h
    refine pz_callS (As := [.long y3_11]) (rest := []) hcf (c_X0_squared l y3_11 r18 hc18) (va_cwS 1 hts gX0_risenRest_X0_squared rfl rfl rfl ydX0_squared ⟨Nat.le_of_ble_eq_true rfl, Nat.le_of_ble_eq_true rfl⟩) hnw rfl hl.1 rfl (Nat.le_of_ble_eq_true rfl) dX0_risenRest_18 ⟨Nat.le_of_ble_eq_true rfl, Nat.le_of_ble_eq_true rfl⟩ ?_
    refine lv_lload_n hx hb dX0_risenRest_21 rfl (lv_at hl 1 rfl) ?_
    obtain ⟨r22, hc22, h⟩ := obn_h h
    refine pz_callS (As := [.long r18, .long p1]) (rest := []) hcf (c_X0_rest l r18 p1 r22 hc22) (va_cwS 2 hts gX0_risenRest_X0_rest rfl rfl rfl ydX0_rest ⟨Nat.le_of_ble_eq_true rfl, Nat.le_of_ble_eq_true rfl⟩) hnw rfl hl.1 rfl (Nat.le_of_ble_eq_true rfl) dX0_risenRest_22 ⟨Nat.le_of_ble_eq_true rfl, Nat.le_of_ble_eq_true rfl⟩ ?_
    refine lv_lstore_n (lv' := [(3, .long r22), (0, .int p0), (1, .long p1), (5, .int y5_11)]) hx hb dX0_risenRest_25 rfl hl (by decide) rfl (fun ls hl => ?_)
    obtain ⟨x5_26, e_x5_26⟩ : ∃ z : Int32, z = y5_11 + 1 := ⟨_, rfl⟩
    have h := bnd_h e_x5_26 h
    refine lv_iinc (v := x5_26) (lv' := [(5, .int x5_26), (3, .long r22), (0, .int p0), (1, .long p1)]) hx hb dX0_risenRest_26 hl (k := 3) rfl (by rw [e_x5_26]; rfl) (by decide) rfl (fun ls hl => ?_)
    refine lv_goto (tgt := 11) hx hb dX0_risenRest_29 (by decide) ?_
    exact hih11 r22 x5_26 h ls (lv_sub hl [2, 3, 1, 0] rfl)
