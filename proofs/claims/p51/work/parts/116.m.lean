noncomputable abbrev rmX9_turn : Room := { frames := 4, cells := 0, slots := 0, locals := 89 }
theorem ydX9_turn : yX9_turn.cls = RX9 ∧ yX9_turn.cls ≠ "java/lang/invoke/MethodHandle" ∧ yX9_turn.cls ≠ "java/lang/invoke/VarHandle" ∧ (parseMethodDescriptor yX9_turn.desc).map (fun d => d.parameters.length) = some 1 := by decide +kernel
noncomputable def F_X9_turn (c_t_acts : Int32) (f_t_forms : Nat → Int64) (p0 : Int32) : Option (Int32 × Int32 × Int32 × (Nat → Int64)) :=
 obn (F_X9_isForm p0) (fun r2 =>
 (if r2 = 0 then
 obn2 (F_X9_isThrown_ (1 : Int32)) (fun r13 c_t_thrown_13 =>
 (if r13 = 0 then
 chk (¬ (p0 < 0 ∨ 6 ≤ p0.toNatClampNeg)) (
 obn (F_X9_turnedOf (f_t_forms p0.toNatClampNeg)) (fun r31 =>
 obn3 (F_X9_give c_t_acts f_t_forms p0 r31) (fun r34 c_t_acts_34 f_t_forms_34 =>
 some (r34, c_t_acts_34, c_t_thrown_13, f_t_forms_34))))
else
 some ((0 : Int32), c_t_acts, c_t_thrown_13, f_t_forms)))
else
 obn2 (F_X9_isThrown_ (0 : Int32)) (fun r13 c_t_thrown_13 =>
 (if r13 = 0 then
 chk (¬ (p0 < 0 ∨ 6 ≤ p0.toNatClampNeg)) (
 obn (F_X9_turnedOf (f_t_forms p0.toNatClampNeg)) (fun r31 =>
 obn3 (F_X9_give c_t_acts f_t_forms p0 r31) (fun r34 c_t_acts_34 f_t_forms_34 =>
 some (r34, c_t_acts_34, c_t_thrown_13, f_t_forms_34))))
else
 some ((0 : Int32), c_t_acts, c_t_thrown_13, f_t_forms)))))
set_option maxHeartbeats 4000000 in
set_option maxRecDepth 100000 in
theorem c_X9_turn (l : Launch) (D : va_G) (cyJ : ClassId) (sz : Nat) (a_t : Nat) (a_t_forms : Nat) (a_t_roll : Nat) (c_t_many : Int32) (c_t_taps : Int64) (c_t_cells : Int32) (c_t_acts : Int32) (c_t_refused : Int32) (c_t_knocks : Int32) (c_t_thrown : Int32) (f_t_forms : Nat → Int64) (p0 : Int32) (r0 : Int32) (o_c_t_acts : Int32) (o_c_t_thrown : Int32) (o_f_t_forms : Nat → Int64) (hF : F_X9_turn c_t_acts f_t_forms p0 = some (r0, o_c_t_acts, o_c_t_thrown, o_f_t_forms)) : Met l yX9_turn wsX9_turn rmX9_turn (va_Pc [.ref a_t, .int p0] (wPD D [(cyJ, .long)] [(a_t, .inr (8, [.ref a_t_forms, .ref a_t_roll, .int c_t_many, .long c_t_taps, .int c_t_cells, .int c_t_acts, .int c_t_refused, .int c_t_knocks, .int c_t_thrown])), (a_t_forms, .inl (cyJ, 6, .inr (.inl f_t_forms)))] sz)) (va_Qi (fun (r : Int32) (_ : Unit) => r = r0) (fun _ t => wQA D [(a_t, .inr (8, [.ref a_t_forms, .ref a_t_roll, .int c_t_many, .long c_t_taps, .int c_t_cells, .int o_c_t_acts, .int c_t_refused, .int c_t_knocks, .int o_c_t_thrown])), (a_t_forms, .inl (cyJ, 6, .inr (.inl o_f_t_forms)))] (va_A [(a_t, .inr (8, [.ref a_t_forms, .ref a_t_roll, .int c_t_many, .long c_t_taps, .int c_t_cells, .int c_t_acts, .int c_t_refused, .int c_t_knocks, .int c_t_thrown])), (a_t_forms, .inl (cyJ, 6, .inr (.inl f_t_forms)))] sz) t) (va_A [(a_t, .inr (8, [.ref a_t_forms, .ref a_t_roll, .int c_t_many, .long c_t_taps, .int c_t_cells, .int c_t_acts, .int c_t_refused, .int c_t_knocks, .int c_t_thrown])), (a_t_forms, .inl (cyJ, 6, .inr (.inl f_t_forms)))] sz)) 0 0 (va_A [(a_t, .inr (8, [.ref a_t_forms, .ref a_t_roll, .int c_t_many, .long c_t_taps, .int c_t_cells, .int c_t_acts, .int c_t_refused, .int c_t_knocks, .int c_t_thrown])), (a_t_forms, .inl (cyJ, 6, .inr (.inl f_t_forms)))] sz) := by
  refine Met.ofW (cc := cX9_turn) (maxL := 2) (ret := (some .int)) (by decide) rfl ?_
  intro p e s m args below meth c s₁ B hml hv
  obtain ⟨rfl, hsz, hP, hK, hD0, hnw⟩ := hv
  have hx := B.exec
  have hb := B.bytes
  have hr := B.returns
  have hts := atoms_spec (ws := wsX9_turn) B.pre
  have hown : s.vm.findClass RX9 = some m.cls := findClass_of_methodNamed B.named
  have hlocks := B.notSynchronized
  have hcf : CallFix _ _ _ _ _ _ _ _ _ := ⟨hx, hb, hml, hown, hts⟩
  have hinX9 : ∀ w ∈ u_ws RX9 TX9 9, w ∈ wsX9_turn := by decide +kernel
  have hfl9 := hts (.fieldLink RX9 9 "FormwheelModel" "forms" "[J") (by decide +kernel)
  subst hsz
  have hD := hD0.self (sz := s.heap.size)
  generalize hAe : va_A [(a_t, .inr (8, [.ref a_t_forms, .ref a_t_roll, .int c_t_many, .long c_t_taps, .int c_t_cells, .int c_t_acts, .int c_t_refused, .int c_t_knocks, .int c_t_thrown])), (a_t_forms, .inl (cyJ, 6, .inr (.inl f_t_forms)))] s.heap.size = A at hD ⊢
  have hA : ∀ q : Nat, s.heap.size ≤ q → A q := fun q h => by rw [← hAe]; exact Or.inr h
  have hS : va_S A s.heap s.heap [] := va_S.rf
  have hP : va_P D vwCl [(a_t, .inr (8, [.ref a_t_forms, .ref a_t_roll, .int c_t_many, .long c_t_taps, .int c_t_cells, .int c_t_acts, .int c_t_refused, .int c_t_knocks, .int c_t_thrown])), (a_t_forms, .inl (cyJ, 6, .inr (.inl f_t_forms)))] s.heap := hP
  have hK0 := hK
  have hl := lv_entry ([.ref a_t, .int p0]) (n := 2) (Nat.le_of_ble_eq_true rfl)
  rw [lg_entry_eq]
  generalize (lg_sl ([.ref a_t, .int p0]) ++ List.replicate (2 - (lg_sl ([.ref a_t, .int p0])).length) Slot.unset).toArray = ls at hl ⊢
  have hl : lv_has ls 2 [(0, .ref a_t), (1, .int p0)] := hl
  have h := hF
  clear hF
  unfold F_X9_turn at h
  refine lv_aload_n hx hb dX9_turn_0 rfl (lv_at hl 0 rfl) ?_
  refine lv_iload_n hx hb dX9_turn_1 rfl (lv_at hl 1 rfl) ?_
  obtain ⟨r2, hc2, h⟩ := obn_h h
  refine pz_callS (As := [.int p0]) (rest := [.ref a_t]) hcf (c_X9_isForm l p0 r2 hc2) (va_cwS 1 hts gX9_turn_X9_isForm rfl rfl rfl ydX9_isForm ⟨Nat.le_of_ble_eq_true rfl, Nat.le_of_ble_eq_true rfl⟩) hnw rfl hl.1 rfl (Nat.le_of_ble_eq_true rfl) dX9_turn_2 ⟨Nat.le_of_ble_eq_true rfl, Nat.le_of_ble_eq_true rfl⟩ ?_
  refine lv_if_ne (tgt := 12) hx hb dX9_turn_5 (by decide) (fun c5 => ?_) (fun c5 => ?_)
  · have h := if_ c5 h
    refine lv_iconst (v := 0) hx hb dX9_turn_12 (by decide) ?_
    obtain ⟨r13, c_t_thrown_13, hc13, h⟩ := obn2_h h
    have hPc := hP.sub (ws' := [(a_t, .inr (8, [.ref a_t_forms, .ref a_t_roll, .int c_t_many, .long c_t_taps, .int c_t_cells, .int c_t_acts, .int c_t_refused, .int c_t_knocks, .int c_t_thrown]))]) [0] rfl
    have hDc := hD.sub (ws' := [(a_t, .inr (8, [.ref a_t_forms, .ref a_t_roll, .int c_t_many, .long c_t_taps, .int c_t_cells, .int c_t_acts, .int c_t_refused, .int c_t_knocks, .int c_t_thrown]))]) [0] (by decide) rfl
    refine hp_i (w1 := [(a_t, .inr (8, [.ref a_t_forms, .ref a_t_roll, .int c_t_many, .long c_t_taps, .int c_t_cells, .int c_t_acts, .int c_t_refused, .int c_t_knocks, .int c_t_thrown_13]))]) (wr := [(a_t_forms, .inl (cyJ, 6, .inr (.inl f_t_forms)))]) (va_runV (As := [.int (0 : Int32)]) (rest := []) hcf (c_X9_isThrown_ l D cyJ s.heap.size a_t a_t_forms a_t_roll c_t_many c_t_taps c_t_cells c_t_acts c_t_refused c_t_knocks c_t_thrown (0 : Int32) r13 c_t_thrown_13 hc13) (cwV 1 hts gX9_turn_X9_isThrown_ rfl rfl rfl ydX9_isThrown_ ⟨Nat.le_of_ble_eq_true rfl, Nat.le_of_ble_eq_true rfl⟩) ⟨bl_PD, va_recv hK hP (ci := 8) (q0 := 0) rfl rfl, pr_PD hPc hK0 hDc hnw⟩ rfl rfl hl.1 rfl (lv_room (Nat.le_of_ble_eq_true rfl)) dX9_turn_13 ⟨Nat.le_of_ble_eq_true rfl, Nat.le_of_ble_eq_true rfl⟩) hP hD hS hA [0] [1] rfl rfl (by decide) (by decide) (fun H locs hP hD hS => ?_)
    have hP : va_P D vwCl [(a_t_forms, .inl (cyJ, 6, .inr (.inl f_t_forms))), (a_t, .inr (8, [.ref a_t_forms, .ref a_t_roll, .int c_t_many, .long c_t_taps, .int c_t_cells, .int c_t_acts, .int c_t_refused, .int c_t_knocks, .int c_t_thrown_13]))] H := hP
    have hD : va_D A [(a_t_forms, .inl (cyJ, 6, .inr (.inl f_t_forms))), (a_t, .inr (8, [.ref a_t_forms, .ref a_t_roll, .int c_t_many, .long c_t_taps, .int c_t_cells, .int c_t_acts, .int c_t_refused, .int c_t_knocks, .int c_t_thrown_13]))] := hD
    refine lv_if_eq (tgt := 23) hx hb dX9_turn_16 (by decide) (fun c16 => ?_) (fun c16 => ?_)
    · have h := it_ c16 h
      refine lv_aload_n hx hb dX9_turn_23 rfl (lv_at hl 0 rfl) ?_
      refine lv_iload_n hx hb dX9_turn_24 rfl (lv_at hl 1 rfl) ?_
      refine lv_aload_n hx hb dX9_turn_25 rfl (lv_at hl 0 rfl) ?_
      refine va_get (D := D) (ci := 8) (v := .ref a_t_forms) (C := RX9) (T := TX9) (N := 9) hx hb hts hinX9 hown hK hP 1 rfl rfl 0 (by decide) hfl9 (fun _ h9 => h9) rfl dX9_turn_26 ?_
      refine lv_iload_n hx hb dX9_turn_29 rfl (lv_at hl 1 rfl) ?_
      obtain ⟨hq30, h⟩ := chk_h h
      refine va_lald hx hb hK hP 0 0 rfl rfl hq30 dX9_turn_30 ?_
      obtain ⟨r31, hc31, h⟩ := obn_h h
      refine pz_callS (As := [.long (f_t_forms p0.toNatClampNeg)]) (rest := [.int p0, .ref a_t]) hcf (c_X9_turnedOf l (f_t_forms p0.toNatClampNeg) r31 hc31) (va_cwS 1 hts gX9_turn_X9_turnedOf rfl rfl rfl ydX9_turnedOf ⟨Nat.le_of_ble_eq_true rfl, Nat.le_of_ble_eq_true rfl⟩) hnw rfl hl.1 rfl (Nat.le_of_ble_eq_true rfl) dX9_turn_31 ⟨Nat.le_of_ble_eq_true rfl, Nat.le_of_ble_eq_true rfl⟩ ?_
      obtain ⟨r34, c_t_acts_34, f_t_forms_34, hc34, h⟩ := obn3_h h
      have hPc := hP.sub (ws' := [(a_t, .inr (8, [.ref a_t_forms, .ref a_t_roll, .int c_t_many, .long c_t_taps, .int c_t_cells, .int c_t_acts, .int c_t_refused, .int c_t_knocks, .int c_t_thrown_13])), (a_t_forms, .inl (cyJ, 6, .inr (.inl f_t_forms)))]) [1, 0] rfl
      have hDc := hD.sub (ws' := [(a_t, .inr (8, [.ref a_t_forms, .ref a_t_roll, .int c_t_many, .long c_t_taps, .int c_t_cells, .int c_t_acts, .int c_t_refused, .int c_t_knocks, .int c_t_thrown_13])), (a_t_forms, .inl (cyJ, 6, .inr (.inl f_t_forms)))]) [1, 0] (by decide) rfl
      refine hp_i (w1 := [(a_t, .inr (8, [.ref a_t_forms, .ref a_t_roll, .int c_t_many, .long c_t_taps, .int c_t_cells, .int c_t_acts_34, .int c_t_refused, .int c_t_knocks, .int c_t_thrown_13])), (a_t_forms, .inl (cyJ, 6, .inr (.inl f_t_forms_34)))]) (wr := []) (va_runV (As := [.int p0, .long r31]) (rest := []) hcf (c_X9_give l D cyJ H.size a_t a_t_forms a_t_roll c_t_many c_t_taps c_t_cells c_t_acts c_t_refused c_t_knocks c_t_thrown_13 f_t_forms p0 r31 r34 c_t_acts_34 f_t_forms_34 hc34) (cwV 2 hts gX9_turn_X9_give rfl rfl rfl ydX9_give ⟨Nat.le_of_ble_eq_true rfl, Nat.le_of_ble_eq_true rfl⟩) ⟨bl_PD, va_recv hK hP (ci := 8) (q0 := 1) rfl rfl, pr_PD hPc hK0 hDc hnw⟩ rfl rfl hl.1 rfl (lv_room (Nat.le_of_ble_eq_true rfl)) dX9_turn_34 ⟨Nat.le_of_ble_eq_true rfl, Nat.le_of_ble_eq_true rfl⟩) hP hD hS hA [1, 0] [] rfl rfl (by decide) (by decide) (fun H locs hP hD hS => ?_)
      have hP : va_P D vwCl [(a_t, .inr (8, [.ref a_t_forms, .ref a_t_roll, .int c_t_many, .long c_t_taps, .int c_t_cells, .int c_t_acts_34, .int c_t_refused, .int c_t_knocks, .int c_t_thrown_13])), (a_t_forms, .inl (cyJ, 6, .inr (.inl f_t_forms_34)))] H := hP
      have hD : va_D A [(a_t, .inr (8, [.ref a_t_forms, .ref a_t_roll, .int c_t_many, .long c_t_taps, .int c_t_cells, .int c_t_acts_34, .int c_t_refused, .int c_t_knocks, .int c_t_thrown_13])), (a_t_forms, .inl (cyJ, 6, .inr (.inl f_t_forms_34)))] := hD
      obtain ⟨e0, e1, e2, e3⟩ := tup4 h
      subst e0
      subst e1
      subst e2
      subst e3
      have hP9 : va_P D vwCl [(a_t, .inr (8, [.ref a_t_forms, .ref a_t_roll, .int c_t_many, .long c_t_taps, .int c_t_cells, .int c_t_acts_34, .int c_t_refused, .int c_t_knocks, .int c_t_thrown_13])), (a_t_forms, .inl (cyJ, 6, .inr (.inl f_t_forms_34)))] H := hP.sub [0, 1] rfl
      have hD9 : va_D A [(a_t, .inr (8, [.ref a_t_forms, .ref a_t_roll, .int c_t_many, .long c_t_taps, .int c_t_cells, .int c_t_acts_34, .int c_t_refused, .int c_t_knocks, .int c_t_thrown_13])), (a_t_forms, .inl (cyJ, 6, .inr (.inl f_t_forms_34)))] := hD.sub [0, 1] (by decide) rfl
      exact W.iret hx hb hr (fun t ht hW => ⟨⟨_, (), rfl, rfl, wQA_of ht hP9 hD9⟩, hS.F ht⟩) hS.2.2 dX9_turn_37
    · have h := if_ c16 h
      refine lv_iconst (v := 0) hx hb dX9_turn_19 (by decide) ?_
      refine lv_goto (tgt := 37) hx hb dX9_turn_20 (by decide) ?_
      obtain ⟨e0, e1, e2, e3⟩ := tup4 h
      subst e0
      subst e1
      subst e2
      subst e3
      have hP9 : va_P D vwCl [(a_t, .inr (8, [.ref a_t_forms, .ref a_t_roll, .int c_t_many, .long c_t_taps, .int c_t_cells, .int c_t_acts, .int c_t_refused, .int c_t_knocks, .int c_t_thrown_13])), (a_t_forms, .inl (cyJ, 6, .inr (.inl f_t_forms)))] H := hP.sub [1, 0] rfl
      have hD9 : va_D A [(a_t, .inr (8, [.ref a_t_forms, .ref a_t_roll, .int c_t_many, .long c_t_taps, .int c_t_cells, .int c_t_acts, .int c_t_refused, .int c_t_knocks, .int c_t_thrown_13])), (a_t_forms, .inl (cyJ, 6, .inr (.inl f_t_forms)))] := hD.sub [1, 0] (by decide) rfl
      exact W.iret hx hb hr (fun t ht hW => ⟨⟨_, (), rfl, rfl, wQA_of ht hP9 hD9⟩, hS.F ht⟩) hS.2.2 dX9_turn_37
  · have h := it_ c5 h
    refine lv_iconst (v := 1) hx hb dX9_turn_8 (by decide) ?_
    refine lv_goto (tgt := 13) hx hb dX9_turn_9 (by decide) ?_
    obtain ⟨r13, c_t_thrown_13, hc13, h⟩ := obn2_h h
    have hPc := hP.sub (ws' := [(a_t, .inr (8, [.ref a_t_forms, .ref a_t_roll, .int c_t_many, .long c_t_taps, .int c_t_cells, .int c_t_acts, .int c_t_refused, .int c_t_knocks, .int c_t_thrown]))]) [0] rfl
    have hDc := hD.sub (ws' := [(a_t, .inr (8, [.ref a_t_forms, .ref a_t_roll, .int c_t_many, .long c_t_taps, .int c_t_cells, .int c_t_acts, .int c_t_refused, .int c_t_knocks, .int c_t_thrown]))]) [0] (by decide) rfl
    refine hp_i (w1 := [(a_t, .inr (8, [.ref a_t_forms, .ref a_t_roll, .int c_t_many, .long c_t_taps, .int c_t_cells, .int c_t_acts, .int c_t_refused, .int c_t_knocks, .int c_t_thrown_13]))]) (wr := [(a_t_forms, .inl (cyJ, 6, .inr (.inl f_t_forms)))]) (va_runV (As := [.int (1 : Int32)]) (rest := []) hcf (c_X9_isThrown_ l D cyJ s.heap.size a_t a_t_forms a_t_roll c_t_many c_t_taps c_t_cells c_t_acts c_t_refused c_t_knocks c_t_thrown (1 : Int32) r13 c_t_thrown_13 hc13) (cwV 1 hts gX9_turn_X9_isThrown_ rfl rfl rfl ydX9_isThrown_ ⟨Nat.le_of_ble_eq_true rfl, Nat.le_of_ble_eq_true rfl⟩) ⟨bl_PD, va_recv hK hP (ci := 8) (q0 := 0) rfl rfl, pr_PD hPc hK0 hDc hnw⟩ rfl rfl hl.1 rfl (lv_room (Nat.le_of_ble_eq_true rfl)) dX9_turn_13 ⟨Nat.le_of_ble_eq_true rfl, Nat.le_of_ble_eq_true rfl⟩) hP hD hS hA [0] [1] rfl rfl (by decide) (by decide) (fun H locs hP hD hS => ?_)
    have hP : va_P D vwCl [(a_t_forms, .inl (cyJ, 6, .inr (.inl f_t_forms))), (a_t, .inr (8, [.ref a_t_forms, .ref a_t_roll, .int c_t_many, .long c_t_taps, .int c_t_cells, .int c_t_acts, .int c_t_refused, .int c_t_knocks, .int c_t_thrown_13]))] H := hP
    have hD : va_D A [(a_t_forms, .inl (cyJ, 6, .inr (.inl f_t_forms))), (a_t, .inr (8, [.ref a_t_forms, .ref a_t_roll, .int c_t_many, .long c_t_taps, .int c_t_cells, .int c_t_acts, .int c_t_refused, .int c_t_knocks, .int c_t_thrown_13]))] := hD
    refine lv_if_eq (tgt := 23) hx hb dX9_turn_16 (by decide) (fun c16 => ?_) (fun c16 => ?_)
    · have h := it_ c16 h
      refine lv_aload_n hx hb dX9_turn_23 rfl (lv_at hl 0 rfl) ?_
      refine lv_iload_n hx hb dX9_turn_24 rfl (lv_at hl 1 rfl) ?_
      refine lv_aload_n hx hb dX9_turn_25 rfl (lv_at hl 0 rfl) ?_
      refine va_get (D := D) (ci := 8) (v := .ref a_t_forms) (C := RX9) (T := TX9) (N := 9) hx hb hts hinX9 hown hK hP 1 rfl rfl 0 (by decide) hfl9 (fun _ h9 => h9) rfl dX9_turn_26 ?_
      refine lv_iload_n hx hb dX9_turn_29 rfl (lv_at hl 1 rfl) ?_
      obtain ⟨hq30, h⟩ := chk_h h
      refine va_lald hx hb hK hP 0 0 rfl rfl hq30 dX9_turn_30 ?_
      obtain ⟨r31, hc31, h⟩ := obn_h h
      refine pz_callS (As := [.long (f_t_forms p0.toNatClampNeg)]) (rest := [.int p0, .ref a_t]) hcf (c_X9_turnedOf l (f_t_forms p0.toNatClampNeg) r31 hc31) (va_cwS 1 hts gX9_turn_X9_turnedOf rfl rfl rfl ydX9_turnedOf ⟨Nat.le_of_ble_eq_true rfl, Nat.le_of_ble_eq_true rfl⟩) hnw rfl hl.1 rfl (Nat.le_of_ble_eq_true rfl) dX9_turn_31 ⟨Nat.le_of_ble_eq_true rfl, Nat.le_of_ble_eq_true rfl⟩ ?_
      obtain ⟨r34, c_t_acts_34, f_t_forms_34, hc34, h⟩ := obn3_h h
      have hPc := hP.sub (ws' := [(a_t, .inr (8, [.ref a_t_forms, .ref a_t_roll, .int c_t_many, .long c_t_taps, .int c_t_cells, .int c_t_acts, .int c_t_refused, .int c_t_knocks, .int c_t_thrown_13])), (a_t_forms, .inl (cyJ, 6, .inr (.inl f_t_forms)))]) [1, 0] rfl
      have hDc := hD.sub (ws' := [(a_t, .inr (8, [.ref a_t_forms, .ref a_t_roll, .int c_t_many, .long c_t_taps, .int c_t_cells, .int c_t_acts, .int c_t_refused, .int c_t_knocks, .int c_t_thrown_13])), (a_t_forms, .inl (cyJ, 6, .inr (.inl f_t_forms)))]) [1, 0] (by decide) rfl
      refine hp_i (w1 := [(a_t, .inr (8, [.ref a_t_forms, .ref a_t_roll, .int c_t_many, .long c_t_taps, .int c_t_cells, .int c_t_acts_34, .int c_t_refused, .int c_t_knocks, .int c_t_thrown_13])), (a_t_forms, .inl (cyJ, 6, .inr (.inl f_t_forms_34)))]) (wr := []) (va_runV (As := [.int p0, .long r31]) (rest := []) hcf (c_X9_give l D cyJ H.size a_t a_t_forms a_t_roll c_t_many c_t_taps c_t_cells c_t_acts c_t_refused c_t_knocks c_t_thrown_13 f_t_forms p0 r31 r34 c_t_acts_34 f_t_forms_34 hc34) (cwV 2 hts gX9_turn_X9_give rfl rfl rfl ydX9_give ⟨Nat.le_of_ble_eq_true rfl, Nat.le_of_ble_eq_true rfl⟩) ⟨bl_PD, va_recv hK hP (ci := 8) (q0 := 1) rfl rfl, pr_PD hPc hK0 hDc hnw⟩ rfl rfl hl.1 rfl (lv_room (Nat.le_of_ble_eq_true rfl)) dX9_turn_34 ⟨Nat.le_of_ble_eq_true rfl, Nat.le_of_ble_eq_true rfl⟩) hP hD hS hA [1, 0] [] rfl rfl (by decide) (by decide) (fun H locs hP hD hS => ?_)
      have hP : va_P D vwCl [(a_t, .inr (8, [.ref a_t_forms, .ref a_t_roll, .int c_t_many, .long c_t_taps, .int c_t_cells, .int c_t_acts_34, .int c_t_refused, .int c_t_knocks, .int c_t_thrown_13])), (a_t_forms, .inl (cyJ, 6, .inr (.inl f_t_forms_34)))] H := hP
      have hD : va_D A [(a_t, .inr (8, [.ref a_t_forms, .ref a_t_roll, .int c_t_many, .long c_t_taps, .int c_t_cells, .int c_t_acts_34, .int c_t_refused, .int c_t_knocks, .int c_t_thrown_13])), (a_t_forms, .inl (cyJ, 6, .inr (.inl f_t_forms_34)))] := hD
      obtain ⟨e0, e1, e2, e3⟩ := tup4 h
      subst e0
      subst e1
      subst e2
      subst e3
      have hP9 : va_P D vwCl [(a_t, .inr (8, [.ref a_t_forms, .ref a_t_roll, .int c_t_many, .long c_t_taps, .int c_t_cells, .int c_t_acts_34, .int c_t_refused, .int c_t_knocks, .int c_t_thrown_13])), (a_t_forms, .inl (cyJ, 6, .inr (.inl f_t_forms_34)))] H := hP.sub [0, 1] rfl
      have hD9 : va_D A [(a_t, .inr (8, [.ref a_t_forms, .ref a_t_roll, .int c_t_many, .long c_t_taps, .int c_t_cells, .int c_t_acts_34, .int c_t_refused, .int c_t_knocks, .int c_t_thrown_13])), (a_t_forms, .inl (cyJ, 6, .inr (.inl f_t_forms_34)))] := hD.sub [0, 1] (by decide) rfl
      exact W.iret hx hb hr (fun t ht hW => ⟨⟨_, (), rfl, rfl, wQA_of ht hP9 hD9⟩, hS.F ht⟩) hS.2.2 dX9_turn_37
    · have h := if_ c16 h
      refine lv_iconst (v := 0) hx hb dX9_turn_19 (by decide) ?_
      refine lv_goto (tgt := 37) hx hb dX9_turn_20 (by decide) ?_
      obtain ⟨e0, e1, e2, e3⟩ := tup4 h
      subst e0
      subst e1
      subst e2
      subst e3
      have hP9 : va_P D vwCl [(a_t, .inr (8, [.ref a_t_forms, .ref a_t_roll, .int c_t_many, .long c_t_taps, .int c_t_cells, .int c_t_acts, .int c_t_refused, .int c_t_knocks, .int c_t_thrown_13])), (a_t_forms, .inl (cyJ, 6, .inr (.inl f_t_forms)))] H := hP.sub [1, 0] rfl
      have hD9 : va_D A [(a_t, .inr (8, [.ref a_t_forms, .ref a_t_roll, .int c_t_many, .long c_t_taps, .int c_t_cells, .int c_t_acts, .int c_t_refused, .int c_t_knocks, .int c_t_thrown_13])), (a_t_forms, .inl (cyJ, 6, .inr (.inl f_t_forms)))] := hD.sub [1, 0] (by decide) rfl
      exact W.iret hx hb hr (fun t ht hW => ⟨⟨_, (), rfl, rfl, wQA_of ht hP9 hD9⟩, hS.F ht⟩) hS.2.2 dX9_turn_37

noncomputable abbrev rmX9_slope : Room := { frames := 4, cells := 0, slots := 0, locals := 87 }
theorem ydX9_slope : yX9_slope.cls = RX9 ∧ yX9_slope.cls ≠ "java/lang/invoke/MethodHandle" ∧ yX9_slope.cls ≠ "java/lang/invoke/VarHandle" ∧ (parseMethodDescriptor yX9_slope.desc).map (fun d => d.parameters.length) = some 1 := by decide +kernel
noncomputable def S_X9_slope_26 (z1_26 : Int32) (f_t_forms_z26 : Nat → Int64) (k58 : Int64 → Option (Int32 × Int32 × Int32 × (Nat → Int64))) (ih26 : Int64 → Int32 → Option (Int32 × Int32 × Int32 × (Nat → Int64))) (y2_26 : Int64) (y4_26 : Int32) : Option (Int32 × Int32 × Int32 × (Nat → Int64)) :=
 (if (40 : Int32) ≤ y4_26 then
 k58 y2_26
else
 chk (¬ (z1_26 < 0 ∨ 6 ≤ z1_26.toNatClampNeg)) (
 bnd (y2_26 ||| ((((f_t_forms_z26 z1_26.toNatClampNeg) >>> ((y4_26 + (1 : Int32)).toInt64 &&& 63)) &&& (1 : Int64)) <<< (y4_26.toInt64 &&& 63))) (fun x2_51 =>
 bnd (y4_26 + 2) (fun x4_52 =>
 ih26 x2_51 x4_52))))
noncomputable def F_X9_slope (c_t_acts : Int32) (f_t_forms : Nat → Int64) (p0 : Int32) : Option (Int32 × Int32 × Int32 × (Nat → Int64)) :=
 obn (F_X9_isForm p0) (fun r2 =>
 (if r2 = 0 then
 obn2 (F_X9_isThrown_ (1 : Int32)) (fun r13 c_t_thrown_13 =>
 (if r13 = 0 then
 LQ2 (S_X9_slope_26 p0 f_t_forms (fun y2_26_58 =>
 obn3 (F_X9_give c_t_acts f_t_forms p0 y2_26_58) (fun r61 c_t_acts_61 f_t_forms_61 =>
 some (r61, c_t_acts_61, c_t_thrown_13, f_t_forms_61)))) 20000 (0 : Int64) (0 : Int32)
else
 some ((0 : Int32), c_t_acts, c_t_thrown_13, f_t_forms)))
else
 obn2 (F_X9_isThrown_ (0 : Int32)) (fun r13 c_t_thrown_13 =>
 (if r13 = 0 then
 LQ2 (S_X9_slope_26 p0 f_t_forms (fun y2_26_58 =>
 obn3 (F_X9_give c_t_acts f_t_forms p0 y2_26_58) (fun r61 c_t_acts_61 f_t_forms_61 =>
 some (r61, c_t_acts_61, c_t_thrown_13, f_t_forms_61)))) 20000 (0 : Int64) (0 : Int32)
else
 some ((0 : Int32), c_t_acts, c_t_thrown_13, f_t_forms)))))
set_option maxHeartbeats 4000000 in
set_option maxRecDepth 100000 in
theorem c_X9_slope (l : Launch) (D : va_G) (cyJ : ClassId) (sz : Nat) (a_t : Nat) (a_t_forms : Nat) (a_t_roll : Nat) (c_t_many : Int32) (c_t_taps : Int64) (c_t_cells : Int32) (c_t_acts : Int32) (c_t_refused : Int32) (c_t_knocks : Int32) (c_t_thrown : Int32) (f_t_forms : Nat → Int64) (p0 : Int32) (r0 : Int32) (o_c_t_acts : Int32) (o_c_t_thrown : Int32) (o_f_t_forms : Nat → Int64) (hF : F_X9_slope c_t_acts f_t_forms p0 = some (r0, o_c_t_acts, o_c_t_thrown, o_f_t_forms)) : Met l yX9_slope wsX9_slope rmX9_slope (va_Pc [.ref a_t, .int p0] (wPD D [(cyJ, .long)] [(a_t, .inr (8, [.ref a_t_forms, .ref a_t_roll, .int c_t_many, .long c_t_taps, .int c_t_cells, .int c_t_acts, .int c_t_refused, .int c_t_knocks, .int c_t_thrown])), (a_t_forms, .inl (cyJ, 6, .inr (.inl f_t_forms)))] sz)) (va_Qi (fun (r : Int32) (_ : Unit) => r = r0) (fun _ t => wQA D [(a_t, .inr (8, [.ref a_t_forms, .ref a_t_roll, .int c_t_many, .long c_t_taps, .int c_t_cells, .int o_c_t_acts, .int c_t_refused, .int c_t_knocks, .int o_c_t_thrown])), (a_t_forms, .inl (cyJ, 6, .inr (.inl o_f_t_forms)))] (va_A [(a_t, .inr (8, [.ref a_t_forms, .ref a_t_roll, .int c_t_many, .long c_t_taps, .int c_t_cells, .int c_t_acts, .int c_t_refused, .int c_t_knocks, .int c_t_thrown])), (a_t_forms, .inl (cyJ, 6, .inr (.inl f_t_forms)))] sz) t) (va_A [(a_t, .inr (8, [.ref a_t_forms, .ref a_t_roll, .int c_t_many, .long c_t_taps, .int c_t_cells, .int c_t_acts, .int c_t_refused, .int c_t_knocks, .int c_t_thrown])), (a_t_forms, .inl (cyJ, 6, .inr (.inl f_t_forms)))] sz)) 0 0 (va_A [(a_t, .inr (8, [.ref a_t_forms, .ref a_t_roll, .int c_t_many, .long c_t_taps, .int c_t_cells, .int c_t_acts, .int c_t_refused, .int c_t_knocks, .int c_t_thrown])), (a_t_forms, .inl (cyJ, 6, .inr (.inl f_t_forms)))] sz) := by
  refine Met.ofW (cc := cX9_slope) (maxL := 5) (ret := (some .int)) (by decide) rfl ?_
  intro p e s m args below meth c s₁ B hml hv
  obtain ⟨rfl, hsz, hP, hK, hD0, hnw⟩ := hv
  have hx := B.exec
  have hb := B.bytes
  have hr := B.returns
  have hts := atoms_spec (ws := wsX9_slope) B.pre
  have hown : s.vm.findClass RX9 = some m.cls := findClass_of_methodNamed B.named
  have hlocks := B.notSynchronized
  have hcf : CallFix _ _ _ _ _ _ _ _ _ := ⟨hx, hb, hml, hown, hts⟩
  have hinX9 : ∀ w ∈ u_ws RX9 TX9 9, w ∈ wsX9_slope := by decide +kernel
  have hfl9 := hts (.fieldLink RX9 9 "FormwheelModel" "forms" "[J") (by decide +kernel)
  subst hsz
  have hD := hD0.self (sz := s.heap.size)
  generalize hAe : va_A [(a_t, .inr (8, [.ref a_t_forms, .ref a_t_roll, .int c_t_many, .long c_t_taps, .int c_t_cells, .int c_t_acts, .int c_t_refused, .int c_t_knocks, .int c_t_thrown])), (a_t_forms, .inl (cyJ, 6, .inr (.inl f_t_forms)))] s.heap.size = A at hD ⊢
  have hA : ∀ q : Nat, s.heap.size ≤ q → A q := fun q h => by rw [← hAe]; exact Or.inr h
  have hS : va_S A s.heap s.heap [] := va_S.rf
  have hP : va_P D vwCl [(a_t, .inr (8, [.ref a_t_forms, .ref a_t_roll, .int c_t_many, .long c_t_taps, .int c_t_cells, .int c_t_acts, .int c_t_refused, .int c_t_knocks, .int c_t_thrown])), (a_t_forms, .inl (cyJ, 6, .inr (.inl f_t_forms)))] s.heap := hP
  have hK0 := hK
  have hl := lv_entry ([.ref a_t, .int p0]) (n := 5) (Nat.le_of_ble_eq_true rfl)
  rw [lg_entry_eq]
  generalize (lg_sl ([.ref a_t, .int p0]) ++ List.replicate (5 - (lg_sl ([.ref a_t, .int p0])).length) Slot.unset).toArray = ls at hl ⊢
  have hl : lv_has ls 5 [(0, .ref a_t), (1, .int p0)] := hl
  have h := hF
  clear hF
  unfold F_X9_slope at h
  refine lv_aload_n hx hb dX9_slope_0 rfl (lv_at hl 0 rfl) ?_
  refine lv_iload_n hx hb dX9_slope_1 rfl (lv_at hl 1 rfl) ?_
  obtain ⟨r2, hc2, h⟩ := obn_h h
  refine pz_callS (As := [.int p0]) (rest := [.ref a_t]) hcf (c_X9_isForm l p0 r2 hc2) (va_cwS 1 hts gX9_slope_X9_isForm rfl rfl rfl ydX9_isForm ⟨Nat.le_of_ble_eq_true rfl, Nat.le_of_ble_eq_true rfl⟩) hnw rfl hl.1 rfl (Nat.le_of_ble_eq_true rfl) dX9_slope_2 ⟨Nat.le_of_ble_eq_true rfl, Nat.le_of_ble_eq_true rfl⟩ ?_
  refine lv_if_ne (tgt := 12) hx hb dX9_slope_5 (by decide) (fun c5 => ?_) (fun c5 => ?_)
  · have h := if_ c5 h
    refine lv_iconst (v := 0) hx hb dX9_slope_12 (by decide) ?_
    obtain ⟨r13, c_t_thrown_13, hc13, h⟩ := obn2_h h
    have hPc := hP.sub (ws' := [(a_t, .inr (8, [.ref a_t_forms, .ref a_t_roll, .int c_t_many, .long c_t_taps, .int c_t_cells, .int c_t_acts, .int c_t_refused, .int c_t_knocks, .int c_t_thrown]))]) [0] rfl
    have hDc := hD.sub (ws' := [(a_t, .inr (8, [.ref a_t_forms, .ref a_t_roll, .int c_t_many, .long c_t_taps, .int c_t_cells, .int c_t_acts, .int c_t_refused, .int c_t_knocks, .int c_t_thrown]))]) [0] (by decide) rfl
    refine hp_i (w1 := [(a_t, .inr (8, [.ref a_t_forms, .ref a_t_roll, .int c_t_many, .long c_t_taps, .int c_t_cells, .int c_t_acts, .int c_t_refused, .int c_t_knocks, .int c_t_thrown_13]))]) (wr := [(a_t_forms, .inl (cyJ, 6, .inr (.inl f_t_forms)))]) (va_runV (As := [.int (0 : Int32)]) (rest := []) hcf (c_X9_isThrown_ l D cyJ s.heap.size a_t a_t_forms a_t_roll c_t_many c_t_taps c_t_cells c_t_acts c_t_refused c_t_knocks c_t_thrown (0 : Int32) r13 c_t_thrown_13 hc13) (cwV 1 hts gX9_slope_X9_isThrown_ rfl rfl rfl ydX9_isThrown_ ⟨Nat.le_of_ble_eq_true rfl, Nat.le_of_ble_eq_true rfl⟩) ⟨bl_PD, va_recv hK hP (ci := 8) (q0 := 0) rfl rfl, pr_PD hPc hK0 hDc hnw⟩ rfl rfl hl.1 rfl (lv_room (Nat.le_of_ble_eq_true rfl)) dX9_slope_13 ⟨Nat.le_of_ble_eq_true rfl, Nat.le_of_ble_eq_true rfl⟩) hP hD hS hA [0] [1] rfl rfl (by decide) (by decide) (fun H locs hP hD hS => ?_)
    have hP : va_P D vwCl [(a_t_forms, .inl (cyJ, 6, .inr (.inl f_t_forms))), (a_t, .inr (8, [.ref a_t_forms, .ref a_t_roll, .int c_t_many, .long c_t_taps, .int c_t_cells, .int c_t_acts, .int c_t_refused, .int c_t_knocks, .int c_t_thrown_13]))] H := hP
    have hD : va_D A [(a_t_forms, .inl (cyJ, 6, .inr (.inl f_t_forms))), (a_t, .inr (8, [.ref a_t_forms, .ref a_t_roll, .int c_t_many, .long c_t_taps, .int c_t_cells, .int c_t_acts, .int c_t_refused, .int c_t_knocks, .int c_t_thrown_13]))] := hD
    refine lv_if_eq (tgt := 21) hx hb dX9_slope_16 (by decide) (fun c16 => ?_) (fun c16 => ?_)
    · have h := it_ c16 h
      refine lv_lconst (v := 0) hx hb dX9_slope_21 (by decide) ?_
      refine lv_lstore_n (lv' := [(2, .long (0 : Int64)), (0, .ref a_t), (1, .int p0)]) hx hb dX9_slope_22 rfl hl (by decide) rfl (fun ls hl => ?_)
      refine lv_iconst (v := 0) hx hb dX9_slope_23 (by decide) ?_
      refine lv_istore (lv' := [(4, .int (0 : Int32)), (2, .long (0 : Int64)), (0, .ref a_t), (1, .int p0)]) hx hb dX9_slope_24 hl (by decide) rfl (fun ls hl => ?_)
      refine LQ2_k1 (M := fun (y2_26 : Int64) (y4_26 : Int32) => ∀ (ls : Array Slot), lv_has ls 5 [(0, .ref a_t), (1, .int p0), (2, .long y2_26), (4, .int y4_26)] → W p l e rmX9_slope s m ([.ref a_t, .int p0] : List Value).toArray below meth c H locs 0 0 (MQ below (va_Qi (fun (r : Int32) (_ : Unit) => r = r0) (fun _ t => wQA D [(a_t, .inr (8, [.ref a_t_forms, .ref a_t_roll, .int c_t_many, .long c_t_taps, .int c_t_cells, .int o_c_t_acts, .int c_t_refused, .int c_t_knocks, .int o_c_t_thrown])), (a_t_forms, .inl (cyJ, 6, .inr (.inl o_f_t_forms)))] A t) A) ([.ref a_t, .int p0] : List Value).toArray s 0 0 A) (F0 m 26 ls [])) ?_ _ _ _ h ls (lv_sub hl [2, 3, 1, 0] rfl)
      intro k58 hk58 ih26 hih26 y2_26 y4_26 h ls hl
      unfold S_X9_slope_26 at h
      refine lv_iload hx hb dX9_slope_26 (lv_at hl 3 rfl) ?_
      refine lv_bipush (v := 40) hx hb dX9_slope_28 (by decide) ?_
      refine lv_icmp_ge (tgt := 58) hx hb dX9_slope_30 (by decide) (fun c30 => ?_) (fun c30 => ?_)
      · have h := it_ c30 h
        rw [hk58] at h
        refine lv_aload_n hx hb dX9_slope_58 rfl (lv_at hl 0 rfl) ?_
        refine lv_iload_n hx hb dX9_slope_59 rfl (lv_at hl 1 rfl) ?_
        refine lv_lload_n hx hb dX9_slope_60 rfl (lv_at hl 2 rfl) ?_
        obtain ⟨r61, c_t_acts_61, f_t_forms_61, hc61, h⟩ := obn3_h h
        have hPc := hP.sub (ws' := [(a_t, .inr (8, [.ref a_t_forms, .ref a_t_roll, .int c_t_many, .long c_t_taps, .int c_t_cells, .int c_t_acts, .int c_t_refused, .int c_t_knocks, .int c_t_thrown_13])), (a_t_forms, .inl (cyJ, 6, .inr (.inl f_t_forms)))]) [1, 0] rfl
        have hDc := hD.sub (ws' := [(a_t, .inr (8, [.ref a_t_forms, .ref a_t_roll, .int c_t_many, .long c_t_taps, .int c_t_cells, .int c_t_acts, .int c_t_refused, .int c_t_knocks, .int c_t_thrown_13])), (a_t_forms, .inl (cyJ, 6, .inr (.inl f_t_forms)))]) [1, 0] (by decide) rfl
        refine hp_i (w1 := [(a_t, .inr (8, [.ref a_t_forms, .ref a_t_roll, .int c_t_many, .long c_t_taps, .int c_t_cells, .int c_t_acts_61, .int c_t_refused, .int c_t_knocks, .int c_t_thrown_13])), (a_t_forms, .inl (cyJ, 6, .inr (.inl f_t_forms_61)))]) (wr := []) (va_runV (As := [.int p0, .long y2_26]) (rest := []) hcf (c_X9_give l D cyJ H.size a_t a_t_forms a_t_roll c_t_many c_t_taps c_t_cells c_t_acts c_t_refused c_t_knocks c_t_thrown_13 f_t_forms p0 y2_26 r61 c_t_acts_61 f_t_forms_61 hc61) (cwV 2 hts gX9_slope_X9_give rfl rfl rfl ydX9_give ⟨Nat.le_of_ble_eq_true rfl, Nat.le_of_ble_eq_true rfl⟩) ⟨bl_PD, va_recv hK hP (ci := 8) (q0 := 1) rfl rfl, pr_PD hPc hK0 hDc hnw⟩ rfl rfl hl.1 rfl (lv_room (Nat.le_of_ble_eq_true rfl)) dX9_slope_61 ⟨Nat.le_of_ble_eq_true rfl, Nat.le_of_ble_eq_true rfl⟩) hP hD hS hA [1, 0] [] rfl rfl (by decide) (by decide) (fun H locs hP hD hS => ?_)
        have hP : va_P D vwCl [(a_t, .inr (8, [.ref a_t_forms, .ref a_t_roll, .int c_t_many, .long c_t_taps, .int c_t_cells, .int c_t_acts_61, .int c_t_refused, .int c_t_knocks, .int c_t_thrown_13])), (a_t_forms, .inl (cyJ, 6, .inr (.inl f_t_forms_61)))] H := hP
        have hD : va_D A [(a_t, .inr (8, [.ref a_t_forms, .ref a_t_roll, .int c_t_many, .long c_t_taps, .int c_t_cells, .int c_t_acts_61, .int c_t_refused, .int c_t_knocks, .int c_t_thrown_13])), (a_t_forms, .inl (cyJ, 6, .inr (.inl f_t_forms_61)))] := hD
        obtain ⟨e0, e1, e2, e3⟩ := tup4 h
        subst e0
        subst e1
        subst e2
        subst e3
        have hP9 : va_P D vwCl [(a_t, .inr (8, [.ref a_t_forms, .ref a_t_roll, .int c_t_many, .long c_t_taps, .int c_t_cells, .int c_t_acts_61, .int c_t_refused, .int c_t_knocks, .int c_t_thrown_13])), (a_t_forms, .inl (cyJ, 6, .inr (.inl f_t_forms_61)))] H := hP.sub [0, 1] rfl
        have hD9 : va_D A [(a_t, .inr (8, [.ref a_t_forms, .ref a_t_roll, .int c_t_many, .long c_t_taps, .int c_t_cells, .int c_t_acts_61, .int c_t_refused, .int c_t_knocks, .int c_t_thrown_13])), (a_t_forms, .inl (cyJ, 6, .inr (.inl f_t_forms_61)))] := hD.sub [0, 1] (by decide) rfl
        exact W.iret hx hb hr (fun t ht hW => ⟨⟨_, (), rfl, rfl, wQA_of ht hP9 hD9⟩, hS.F ht⟩) hS.2.2 dX9_slope_64
      · have h := if_ c30 h
        refine lv_lload_n hx hb dX9_slope_33 rfl (lv_at hl 2 rfl) ?_
        refine lv_aload_n hx hb dX9_slope_34 rfl (lv_at hl 0 rfl) ?_
        refine va_get (D := D) (ci := 8) (v := .ref a_t_forms) (C := RX9) (T := TX9) (N := 9) hx hb hts hinX9 hown hK hP 1 rfl rfl 0 (by decide) hfl9 (fun _ h9 => h9) rfl dX9_slope_35 ?_
        refine lv_iload_n hx hb dX9_slope_38 rfl (lv_at hl 1 rfl) ?_
        obtain ⟨hq39, h⟩ := chk_h h
        refine va_lald hx hb hK hP 0 0 rfl rfl hq39 dX9_slope_39 ?_
        refine lv_iload hx hb dX9_slope_40 (lv_at hl 3 rfl) ?_
        refine lv_iconst (v := 1) hx hb dX9_slope_42 (by decide) ?_
        refine lv_iadd hx hb dX9_slope_43 ?_
        refine lv_lshr (v := (f_t_forms p0.toNatClampNeg) >>> ((y4_26 + (1 : Int32)).toInt64 &&& 63)) hx hb dX9_slope_44 rfl ?_
        refine lv_lconst (v := 1) hx hb dX9_slope_45 (by decide) ?_
        refine lv_land hx hb dX9_slope_46 ?_
        refine lv_iload hx hb dX9_slope_47 (lv_at hl 3 rfl) ?_
        refine lv_lshl (v := (((f_t_forms p0.toNatClampNeg) >>> ((y4_26 + (1 : Int32)).toInt64 &&& 63)) &&& (1 : Int64)) <<< (y4_26.toInt64 &&& 63)) hx hb dX9_slope_49 rfl ?_
        refine lv_lor hx hb dX9_slope_50 ?_
        refine lv_topl (fun x2_51 e_x2_51 => ?_)
        have h := bnd_h e_x2_51 h
        refine lv_lstore_n (lv' := [(2, .long x2_51), (0, .ref a_t), (1, .int p0), (4, .int y4_26)]) hx hb dX9_slope_51 rfl hl (by decide) rfl (fun ls hl => ?_)
        obtain ⟨x4_52, e_x4_52⟩ : ∃ z : Int32, z = y4_26 + 2 := ⟨_, rfl⟩
        have h := bnd_h e_x4_52 h
        refine lv_iinc (v := x4_52) (lv' := [(4, .int x4_52), (2, .long x2_51), (0, .ref a_t), (1, .int p0)]) hx hb dX9_slope_52 hl (k := 3) rfl (by rw [e_x4_52]; rfl) (by decide) rfl (fun ls hl => ?_)
        refine lv_goto (tgt := 26) hx hb dX9_slope_55 (by decide) ?_
        exact hih26 x2_51 x4_52 h ls (lv_sub hl [2, 3, 1, 0] rfl)
    · have h := if_ c16 h
      refine lv_iconst (v := 0) hx hb dX9_slope_19 (by decide) ?_
      obtain ⟨e0, e1, e2, e3⟩ := tup4 h
      subst e0
      subst e1
      subst e2
      subst e3
      have hP9 : va_P D vwCl [(a_t, .inr (8, [.ref a_t_forms, .ref a_t_roll, .int c_t_many, .long c_t_taps, .int c_t_cells, .int c_t_acts, .int c_t_refused, .int c_t_knocks, .int c_t_thrown_13])), (a_t_forms, .inl (cyJ, 6, .inr (.inl f_t_forms)))] H := hP.sub [1, 0] rfl
      have hD9 : va_D A [(a_t, .inr (8, [.ref a_t_forms, .ref a_t_roll, .int c_t_many, .long c_t_taps, .int c_t_cells, .int c_t_acts, .int c_t_refused, .int c_t_knocks, .int c_t_thrown_13])), (a_t_forms, .inl (cyJ, 6, .inr (.inl f_t_forms)))] := hD.sub [1, 0] (by decide) rfl
      exact W.iret hx hb hr (fun t ht hW => ⟨⟨_, (), rfl, rfl, wQA_of ht hP9 hD9⟩, hS.F ht⟩) hS.2.2 dX9_slope_20
  · have h := it_ c5 h
    refine lv_iconst (v := 1) hx hb dX9_slope_8 (by decide) ?_
    refine lv_goto (tgt := 13) hx hb dX9_slope_9 (by decide) ?_
    obtain ⟨r13, c_t_thrown_13, hc13, h⟩ := obn2_h h
    have hPc := hP.sub (ws' := [(a_t, .inr (8, [.ref a_t_forms, .ref a_t_roll, .int c_t_many, .long c_t_taps, .int c_t_cells, .int c_t_acts, .int c_t_refused, .int c_t_knocks, .int c_t_thrown]))]) [0] rfl
    have hDc := hD.sub (ws' := [(a_t, .inr (8, [.ref a_t_forms, .ref a_t_roll, .int c_t_many, .long c_t_taps, .int c_t_cells, .int c_t_acts, .int c_t_refused, .int c_t_knocks, .int c_t_thrown]))]) [0] (by decide) rfl
    refine hp_i (w1 := [(a_t, .inr (8, [.ref a_t_forms, .ref a_t_roll, .int c_t_many, .long c_t_taps, .int c_t_cells, .int c_t_acts, .int c_t_refused, .int c_t_knocks, .int c_t_thrown_13]))]) (wr := [(a_t_forms, .inl (cyJ, 6, .inr (.inl f_t_forms)))]) (va_runV (As := [.int (1 : Int32)]) (rest := []) hcf (c_X9_isThrown_ l D cyJ s.heap.size a_t a_t_forms a_t_roll c_t_many c_t_taps c_t_cells c_t_acts c_t_refused c_t_knocks c_t_thrown (1 : Int32) r13 c_t_thrown_13 hc13) (cwV 1 hts gX9_slope_X9_isThrown_ rfl rfl rfl ydX9_isThrown_ ⟨Nat.le_of_ble_eq_true rfl, Nat.le_of_ble_eq_true rfl⟩) ⟨bl_PD, va_recv hK hP (ci := 8) (q0 := 0) rfl rfl, pr_PD hPc hK0 hDc hnw⟩ rfl rfl hl.1 rfl (lv_room (Nat.le_of_ble_eq_true rfl)) dX9_slope_13 ⟨Nat.le_of_ble_eq_true rfl, Nat.le_of_ble_eq_true rfl⟩) hP hD hS hA [0] [1] rfl rfl (by decide) (by decide) (fun H locs hP hD hS => ?_)
    have hP : va_P D vwCl [(a_t_forms, .inl (cyJ, 6, .inr (.inl f_t_forms))), (a_t, .inr (8, [.ref a_t_forms, .ref a_t_roll, .int c_t_many, .long c_t_taps, .int c_t_cells, .int c_t_acts, .int c_t_refused, .int c_t_knocks, .int c_t_thrown_13]))] H := hP
    have hD : va_D A [(a_t_forms, .inl (cyJ, 6, .inr (.inl f_t_forms))), (a_t, .inr (8, [.ref a_t_forms, .ref a_t_roll, .int c_t_many, .long c_t_taps, .int c_t_cells, .int c_t_acts, .int c_t_refused, .int c_t_knocks, .int c_t_thrown_13]))] := hD
    refine lv_if_eq (tgt := 21) hx hb dX9_slope_16 (by decide) (fun c16 => ?_) (fun c16 => ?_)
    · have h := it_ c16 h
      refine lv_lconst (v := 0) hx hb dX9_slope_21 (by decide) ?_
      refine lv_lstore_n (lv' := [(2, .long (0 : Int64)), (0, .ref a_t), (1, .int p0)]) hx hb dX9_slope_22 rfl hl (by decide) rfl (fun ls hl => ?_)
      refine lv_iconst (v := 0) hx hb dX9_slope_23 (by decide) ?_
      refine lv_istore (lv' := [(4, .int (0 : Int32)), (2, .long (0 : Int64)), (0, .ref a_t), (1, .int p0)]) hx hb dX9_slope_24 hl (by decide) rfl (fun ls hl => ?_)
      refine LQ2_k1 (M := fun (y2_26 : Int64) (y4_26 : Int32) => ∀ (ls : Array Slot), lv_has ls 5 [(0, .ref a_t), (1, .int p0), (2, .long y2_26), (4, .int y4_26)] → W p l e rmX9_slope s m ([.ref a_t, .int p0] : List Value).toArray below meth c H locs 0 0 (MQ below (va_Qi (fun (r : Int32) (_ : Unit) => r = r0) (fun _ t => wQA D [(a_t, .inr (8, [.ref a_t_forms, .ref a_t_roll, .int c_t_many, .long c_t_taps, .int c_t_cells, .int o_c_t_acts, .int c_t_refused, .int c_t_knocks, .int o_c_t_thrown])), (a_t_forms, .inl (cyJ, 6, .inr (.inl o_f_t_forms)))] A t) A) ([.ref a_t, .int p0] : List Value).toArray s 0 0 A) (F0 m 26 ls [])) ?_ _ _ _ h ls (lv_sub hl [2, 3, 1, 0] rfl)
      intro k58 hk58 ih26 hih26 y2_26 y4_26 h ls hl
      unfold S_X9_slope_26 at h
      refine lv_iload hx hb dX9_slope_26 (lv_at hl 3 rfl) ?_
      refine lv_bipush (v := 40) hx hb dX9_slope_28 (by decide) ?_
      refine lv_icmp_ge (tgt := 58) hx hb dX9_slope_30 (by decide) (fun c30 => ?_) (fun c30 => ?_)
      · have h := it_ c30 h
        rw [hk58] at h
        refine lv_aload_n hx hb dX9_slope_58 rfl (lv_at hl 0 rfl) ?_
        refine lv_iload_n hx hb dX9_slope_59 rfl (lv_at hl 1 rfl) ?_
        refine lv_lload_n hx hb dX9_slope_60 rfl (lv_at hl 2 rfl) ?_
        obtain ⟨r61, c_t_acts_61, f_t_forms_61, hc61, h⟩ := obn3_h h
        have hPc := hP.sub (ws' := [(a_t, .inr (8, [.ref a_t_forms, .ref a_t_roll, .int c_t_many, .long c_t_taps, .int c_t_cells, .int c_t_acts, .int c_t_refused, .int c_t_knocks, .int c_t_thrown_13])), (a_t_forms, .inl (cyJ, 6, .inr (.inl f_t_forms)))]) [1, 0] rfl
        have hDc := hD.sub (ws' := [(a_t, .inr (8, [.ref a_t_forms, .ref a_t_roll, .int c_t_many, .long c_t_taps, .int c_t_cells, .int c_t_acts, .int c_t_refused, .int c_t_knocks, .int c_t_thrown_13])), (a_t_forms, .inl (cyJ, 6, .inr (.inl f_t_forms)))]) [1, 0] (by decide) rfl
        refine hp_i (w1 := [(a_t, .inr (8, [.ref a_t_forms, .ref a_t_roll, .int c_t_many, .long c_t_taps, .int c_t_cells, .int c_t_acts_61, .int c_t_refused, .int c_t_knocks, .int c_t_thrown_13])), (a_t_forms, .inl (cyJ, 6, .inr (.inl f_t_forms_61)))]) (wr := []) (va_runV (As := [.int p0, .long y2_26]) (rest := []) hcf (c_X9_give l D cyJ H.size a_t a_t_forms a_t_roll c_t_many c_t_taps c_t_cells c_t_acts c_t_refused c_t_knocks c_t_thrown_13 f_t_forms p0 y2_26 r61 c_t_acts_61 f_t_forms_61 hc61) (cwV 2 hts gX9_slope_X9_give rfl rfl rfl ydX9_give ⟨Nat.le_of_ble_eq_true rfl, Nat.le_of_ble_eq_true rfl⟩) ⟨bl_PD, va_recv hK hP (ci := 8) (q0 := 1) rfl rfl, pr_PD hPc hK0 hDc hnw⟩ rfl rfl hl.1 rfl (lv_room (Nat.le_of_ble_eq_true rfl)) dX9_slope_61 ⟨Nat.le_of_ble_eq_true rfl, Nat.le_of_ble_eq_true rfl⟩) hP hD hS hA [1, 0] [] rfl rfl (by decide) (by decide) (fun H locs hP hD hS => ?_)
        have hP : va_P D vwCl [(a_t, .inr (8, [.ref a_t_forms, .ref a_t_roll, .int c_t_many, .long c_t_taps, .int c_t_cells, .int c_t_acts_61, .int c_t_refused, .int c_t_knocks, .int c_t_thrown_13])), (a_t_forms, .inl (cyJ, 6, .inr (.inl f_t_forms_61)))] H := hP
        have hD : va_D A [(a_t, .inr (8, [.ref a_t_forms, .ref a_t_roll, .int c_t_many, .long c_t_taps, .int c_t_cells, .int c_t_acts_61, .int c_t_refused, .int c_t_knocks, .int c_t_thrown_13])), (a_t_forms, .inl (cyJ, 6, .inr (.inl f_t_forms_61)))] := hD
        obtain ⟨e0, e1, e2, e3⟩ := tup4 h
        subst e0
        subst e1
        subst e2
        subst e3
        have hP9 : va_P D vwCl [(a_t, .inr (8, [.ref a_t_forms, .ref a_t_roll, .int c_t_many, .long c_t_taps, .int c_t_cells, .int c_t_acts_61, .int c_t_refused, .int c_t_knocks, .int c_t_thrown_13])), (a_t_forms, .inl (cyJ, 6, .inr (.inl f_t_forms_61)))] H := hP.sub [0, 1] rfl
        have hD9 : va_D A [(a_t, .inr (8, [.ref a_t_forms, .ref a_t_roll, .int c_t_many, .long c_t_taps, .int c_t_cells, .int c_t_acts_61, .int c_t_refused, .int c_t_knocks, .int c_t_thrown_13])), (a_t_forms, .inl (cyJ, 6, .inr (.inl f_t_forms_61)))] := hD.sub [0, 1] (by decide) rfl
        exact W.iret hx hb hr (fun t ht hW => ⟨⟨_, (), rfl, rfl, wQA_of ht hP9 hD9⟩, hS.F ht⟩) hS.2.2 dX9_slope_64
      · have h := if_ c30 h
        refine lv_lload_n hx hb dX9_slope_33 rfl (lv_at hl 2 rfl) ?_
        refine lv_aload_n hx hb dX9_slope_34 rfl (lv_at hl 0 rfl) ?_
        refine va_get (D := D) (ci := 8) (v := .ref a_t_forms) (C := RX9) (T := TX9) (N := 9) hx hb hts hinX9 hown hK hP 1 rfl rfl 0 (by decide) hfl9 (fun _ h9 => h9) rfl dX9_slope_35 ?_
        refine lv_iload_n hx hb dX9_slope_38 rfl (lv_at hl 1 rfl) ?_
        obtain ⟨hq39, h⟩ := chk_h h
        refine va_lald hx hb hK hP 0 0 rfl rfl hq39 dX9_slope_39 ?_
        refine lv_iload hx hb dX9_slope_40 (lv_at hl 3 rfl) ?_
        refine lv_iconst (v := 1) hx hb dX9_slope_42 (by decide) ?_
        refine lv_iadd hx hb dX9_slope_43 ?_
        refine lv_lshr (v := (f_t_forms p0.toNatClampNeg) >>> ((y4_26 + (1 : Int32)).toInt64 &&& 63)) hx hb dX9_slope_44 rfl ?_
        refine lv_lconst (v := 1) hx hb dX9_slope_45 (by decide) ?_
        refine lv_land hx hb dX9_slope_46 ?_
        refine lv_iload hx hb dX9_slope_47 (lv_at hl 3 rfl) ?_
        refine lv_lshl (v := (((f_t_forms p0.toNatClampNeg) >>> ((y4_26 + (1 : Int32)).toInt64 &&& 63)) &&& (1 : Int64)) <<< (y4_26.toInt64 &&& 63)) hx hb dX9_slope_49 rfl ?_
        refine lv_lor hx hb dX9_slope_50 ?_
        refine lv_topl (fun x2_51 e_x2_51 => ?_)
        have h := bnd_h e_x2_51 h
        refine lv_lstore_n (lv' := [(2, .long x2_51), (0, .ref a_t), (1, .int p0), (4, .int y4_26)]) hx hb dX9_slope_51 rfl hl (by decide) rfl (fun ls hl => ?_)
        obtain ⟨x4_52, e_x4_52⟩ : ∃ z : Int32, z = y4_26 + 2 := ⟨_, rfl⟩
        have h := bnd_h e_x4_52 h
        refine lv_iinc (v := x4_52) (lv' := [(4, .int x4_52), (2, .long x2_51), (0, .ref a_t), (1, .int p0)]) hx hb dX9_slope_52 hl (k := 3) rfl (by rw [e_x4_52]; rfl) (by decide) rfl (fun ls hl => ?_)
        refine lv_goto (tgt := 26) hx hb dX9_slope_55 (by decide) ?_
        exact hih26 x2_51 x4_52 h ls (lv_sub hl [2, 3, 1, 0] rfl)
    · have h := if_ c16 h
      refine lv_iconst (v := 0) hx hb dX9_slope_19 (by decide) ?_
      obtain ⟨e0, e1, e2, e3⟩ := tup4 h
      subst e0
      subst e1
      subst e2
      subst e3
      have hP9 : va_P D vwCl [(a_t, .inr (8, [.ref a_t_forms, .ref a_t_roll, .int c_t_many, .long c_t_taps, .int c_t_cells, .int c_t_acts, .int c_t_refused, .int c_t_knocks, .int c_t_thrown_13])), (a_t_forms, .inl (cyJ, 6, .inr (.inl f_t_forms)))] H := hP.sub [1, 0] rfl
      have hD9 : va_D A [(a_t, .inr (8, [.ref a_t_forms, .ref a_t_roll, .int c_t_many, .long c_t_taps, .int c_t_cells, .int c_t_acts, .int c_t_refused, .int c_t_knocks, .int c_t_thrown_13])), (a_t_forms, .inl (cyJ, 6, .inr (.inl f_t_forms)))] := hD.sub [1, 0] (by decide) rfl
      exact W.iret hx hb hr (fun t ht hW => ⟨⟨_, (), rfl, rfl, wQA_of ht hP9 hD9⟩, hS.F ht⟩) hS.2.2 dX9_slope_20

noncomputable abbrev rmX9_add : Room := { frames := 4, cells := 0, slots := 0, locals := 87 }
theorem ydX9_add : yX9_add.cls = RX9 ∧ yX9_add.cls ≠ "java/lang/invoke/MethodHandle" ∧ yX9_add.cls ≠ "java/lang/invoke/VarHandle" ∧ (parseMethodDescriptor yX9_add.desc).map (fun d => d.parameters.length) = some 3 := by decide +kernel
noncomputable def F_X9_add (c_t_acts : Int32) (f_t_forms : Nat → Int64) (p0 : Int32) (p1 : Int32) (p2 : Int32) : Option (Int32 × Int32 × Int32 × (Nat → Int64)) :=
 obn2 (F_X9_areNot p0 p1 p2) (fun r4 c_t_thrown_4 =>
 (if r4 = 0 then
 chk (¬ (p0 < 0 ∨ 6 ≤ p0.toNatClampNeg)) (
 chk (¬ (p1 < 0 ∨ 6 ≤ p1.toNatClampNeg)) (
 obn3 (F_X9_give c_t_acts f_t_forms p2 ((f_t_forms p0.toNatClampNeg) ^^^ (f_t_forms p1.toNatClampNeg))) (fun r29 c_t_acts_29 f_t_forms_29 =>
 some (r29, c_t_acts_29, c_t_thrown_4, f_t_forms_29))))
else
 some ((0 : Int32), c_t_acts, c_t_thrown_4, f_t_forms)))
set_option maxHeartbeats 4000000 in
set_option maxRecDepth 100000 in
theorem c_X9_add (l : Launch) (D : va_G) (cyJ : ClassId) (sz : Nat) (a_t : Nat) (a_t_forms : Nat) (a_t_roll : Nat) (c_t_many : Int32) (c_t_taps : Int64) (c_t_cells : Int32) (c_t_acts : Int32) (c_t_refused : Int32) (c_t_knocks : Int32) (c_t_thrown : Int32) (f_t_forms : Nat → Int64) (p0 : Int32) (p1 : Int32) (p2 : Int32) (r0 : Int32) (o_c_t_acts : Int32) (o_c_t_thrown : Int32) (o_f_t_forms : Nat → Int64) (hF : F_X9_add c_t_acts f_t_forms p0 p1 p2 = some (r0, o_c_t_acts, o_c_t_thrown, o_f_t_forms)) : Met l yX9_add wsX9_add rmX9_add (va_Pc [.ref a_t, .int p0, .int p1, .int p2] (wPD D [(cyJ, .long)] [(a_t, .inr (8, [.ref a_t_forms, .ref a_t_roll, .int c_t_many, .long c_t_taps, .int c_t_cells, .int c_t_acts, .int c_t_refused, .int c_t_knocks, .int c_t_thrown])), (a_t_forms, .inl (cyJ, 6, .inr (.inl f_t_forms)))] sz)) (va_Qi (fun (r : Int32) (_ : Unit) => r = r0) (fun _ t => wQA D [(a_t, .inr (8, [.ref a_t_forms, .ref a_t_roll, .int c_t_many, .long c_t_taps, .int c_t_cells, .int o_c_t_acts, .int c_t_refused, .int c_t_knocks, .int o_c_t_thrown])), (a_t_forms, .inl (cyJ, 6, .inr (.inl o_f_t_forms)))] (va_A [(a_t, .inr (8, [.ref a_t_forms, .ref a_t_roll, .int c_t_many, .long c_t_taps, .int c_t_cells, .int c_t_acts, .int c_t_refused, .int c_t_knocks, .int c_t_thrown])), (a_t_forms, .inl (cyJ, 6, .inr (.inl f_t_forms)))] sz) t) (va_A [(a_t, .inr (8, [.ref a_t_forms, .ref a_t_roll, .int c_t_many, .long c_t_taps, .int c_t_cells, .int c_t_acts, .int c_t_refused, .int c_t_knocks, .int c_t_thrown])), (a_t_forms, .inl (cyJ, 6, .inr (.inl f_t_forms)))] sz)) 0 0 (va_A [(a_t, .inr (8, [.ref a_t_forms, .ref a_t_roll, .int c_t_many, .long c_t_taps, .int c_t_cells, .int c_t_acts, .int c_t_refused, .int c_t_knocks, .int c_t_thrown])), (a_t_forms, .inl (cyJ, 6, .inr (.inl f_t_forms)))] sz) := by
  refine Met.ofW (cc := cX9_add) (maxL := 4) (ret := (some .int)) (by decide) rfl ?_
  intro p e s m args below meth c s₁ B hml hv
  obtain ⟨rfl, hsz, hP, hK, hD0, hnw⟩ := hv
  have hx := B.exec
  have hb := B.bytes
  have hr := B.returns
  have hts := atoms_spec (ws := wsX9_add) B.pre
  have hown : s.vm.findClass RX9 = some m.cls := findClass_of_methodNamed B.named
  have hlocks := B.notSynchronized
  have hcf : CallFix _ _ _ _ _ _ _ _ _ := ⟨hx, hb, hml, hown, hts⟩
  have hinX9 : ∀ w ∈ u_ws RX9 TX9 9, w ∈ wsX9_add := by decide +kernel
  have hfl9 := hts (.fieldLink RX9 9 "FormwheelModel" "forms" "[J") (by decide +kernel)
  subst hsz
  have hD := hD0.self (sz := s.heap.size)
  generalize hAe : va_A [(a_t, .inr (8, [.ref a_t_forms, .ref a_t_roll, .int c_t_many, .long c_t_taps, .int c_t_cells, .int c_t_acts, .int c_t_refused, .int c_t_knocks, .int c_t_thrown])), (a_t_forms, .inl (cyJ, 6, .inr (.inl f_t_forms)))] s.heap.size = A at hD ⊢
  have hA : ∀ q : Nat, s.heap.size ≤ q → A q := fun q h => by rw [← hAe]; exact Or.inr h
  have hS : va_S A s.heap s.heap [] := va_S.rf
  have hP : va_P D vwCl [(a_t, .inr (8, [.ref a_t_forms, .ref a_t_roll, .int c_t_many, .long c_t_taps, .int c_t_cells, .int c_t_acts, .int c_t_refused, .int c_t_knocks, .int c_t_thrown])), (a_t_forms, .inl (cyJ, 6, .inr (.inl f_t_forms)))] s.heap := hP
  have hK0 := hK
  have hl := lv_entry ([.ref a_t, .int p0, .int p1, .int p2]) (n := 4) (Nat.le_of_ble_eq_true rfl)
  rw [lg_entry_eq]
  generalize (lg_sl ([.ref a_t, .int p0, .int p1, .int p2]) ++ List.replicate (4 - (lg_sl ([.ref a_t, .int p0, .int p1, .int p2])).length) Slot.unset).toArray = ls at hl ⊢
  have hl : lv_has ls 4 [(0, .ref a_t), (1, .int p0), (2, .int p1), (3, .int p2)] := hl
  have h := hF
  clear hF
  unfold F_X9_add at h
  refine lv_aload_n hx hb dX9_add_0 rfl (lv_at hl 0 rfl) ?_
  refine lv_iload_n hx hb dX9_add_1 rfl (lv_at hl 1 rfl) ?_
  refine lv_iload_n hx hb dX9_add_2 rfl (lv_at hl 2 rfl) ?_
  refine lv_iload_n hx hb dX9_add_3 rfl (lv_at hl 3 rfl) ?_
  obtain ⟨r4, c_t_thrown_4, hc4, h⟩ := obn2_h h
  have hPc := hP.sub (ws' := [(a_t, .inr (8, [.ref a_t_forms, .ref a_t_roll, .int c_t_many, .long c_t_taps, .int c_t_cells, .int c_t_acts, .int c_t_refused, .int c_t_knocks, .int c_t_thrown]))]) [0] rfl
  have hDc := hD.sub (ws' := [(a_t, .inr (8, [.ref a_t_forms, .ref a_t_roll, .int c_t_many, .long c_t_taps, .int c_t_cells, .int c_t_acts, .int c_t_refused, .int c_t_knocks, .int c_t_thrown]))]) [0] (by decide) rfl
  refine hp_i (w1 := [(a_t, .inr (8, [.ref a_t_forms, .ref a_t_roll, .int c_t_many, .long c_t_taps, .int c_t_cells, .int c_t_acts, .int c_t_refused, .int c_t_knocks, .int c_t_thrown_4]))]) (wr := [(a_t_forms, .inl (cyJ, 6, .inr (.inl f_t_forms)))]) (va_runV (As := [.int p0, .int p1, .int p2]) (rest := []) hcf (c_X9_areNot l D cyJ s.heap.size a_t a_t_forms a_t_roll c_t_many c_t_taps c_t_cells c_t_acts c_t_refused c_t_knocks c_t_thrown p0 p1 p2 r4 c_t_thrown_4 hc4) (cwV 3 hts gX9_add_X9_areNot rfl rfl rfl ydX9_areNot ⟨Nat.le_of_ble_eq_true rfl, Nat.le_of_ble_eq_true rfl⟩) ⟨bl_PD, va_recv hK hP (ci := 8) (q0 := 0) rfl rfl, pr_PD hPc hK0 hDc hnw⟩ rfl rfl hl.1 rfl (lv_room (Nat.le_of_ble_eq_true rfl)) dX9_add_4 ⟨Nat.le_of_ble_eq_true rfl, Nat.le_of_ble_eq_true rfl⟩) hP hD hS hA [0] [1] rfl rfl (by decide) (by decide) (fun H locs hP hD hS => ?_)
  have hP : va_P D vwCl [(a_t_forms, .inl (cyJ, 6, .inr (.inl f_t_forms))), (a_t, .inr (8, [.ref a_t_forms, .ref a_t_roll, .int c_t_many, .long c_t_taps, .int c_t_cells, .int c_t_acts, .int c_t_refused, .int c_t_knocks, .int c_t_thrown_4]))] H := hP
  have hD : va_D A [(a_t_forms, .inl (cyJ, 6, .inr (.inl f_t_forms))), (a_t, .inr (8, [.ref a_t_forms, .ref a_t_roll, .int c_t_many, .long c_t_taps, .int c_t_cells, .int c_t_acts, .int c_t_refused, .int c_t_knocks, .int c_t_thrown_4]))] := hD
  refine lv_if_eq (tgt := 14) hx hb dX9_add_7 (by decide) (fun c7 => ?_) (fun c7 => ?_)
  · have h := it_ c7 h
    refine lv_aload_n hx hb dX9_add_14 rfl (lv_at hl 0 rfl) ?_
    refine lv_iload_n hx hb dX9_add_15 rfl (lv_at hl 3 rfl) ?_
    refine lv_aload_n hx hb dX9_add_16 rfl (lv_at hl 0 rfl) ?_
    refine va_get (D := D) (ci := 8) (v := .ref a_t_forms) (C := RX9) (T := TX9) (N := 9) hx hb hts hinX9 hown hK hP 1 rfl rfl 0 (by decide) hfl9 (fun _ h9 => h9) rfl dX9_add_17 ?_
    refine lv_iload_n hx hb dX9_add_20 rfl (lv_at hl 1 rfl) ?_
    obtain ⟨hq21, h⟩ := chk_h h
    refine va_lald hx hb hK hP 0 0 rfl rfl hq21 dX9_add_21 ?_
    refine lv_aload_n hx hb dX9_add_22 rfl (lv_at hl 0 rfl) ?_
    refine va_get (D := D) (ci := 8) (v := .ref a_t_forms) (C := RX9) (T := TX9) (N := 9) hx hb hts hinX9 hown hK hP 1 rfl rfl 0 (by decide) hfl9 (fun _ h9 => h9) rfl dX9_add_23 ?_
    refine lv_iload_n hx hb dX9_add_26 rfl (lv_at hl 2 rfl) ?_
    obtain ⟨hq27, h⟩ := chk_h h
    refine va_lald hx hb hK hP 0 0 rfl rfl hq27 dX9_add_27 ?_
    refine lv_lxor hx hb dX9_add_28 ?_
    obtain ⟨r29, c_t_acts_29, f_t_forms_29, hc29, h⟩ := obn3_h h
    have hPc := hP.sub (ws' := [(a_t, .inr (8, [.ref a_t_forms, .ref a_t_roll, .int c_t_many, .long c_t_taps, .int c_t_cells, .int c_t_acts, .int c_t_refused, .int c_t_knocks, .int c_t_thrown_4])), (a_t_forms, .inl (cyJ, 6, .inr (.inl f_t_forms)))]) [1, 0] rfl
    have hDc := hD.sub (ws' := [(a_t, .inr (8, [.ref a_t_forms, .ref a_t_roll, .int c_t_many, .long c_t_taps, .int c_t_cells, .int c_t_acts, .int c_t_refused, .int c_t_knocks, .int c_t_thrown_4])), (a_t_forms, .inl (cyJ, 6, .inr (.inl f_t_forms)))]) [1, 0] (by decide) rfl
    refine hp_i (w1 := [(a_t, .inr (8, [.ref a_t_forms, .ref a_t_roll, .int c_t_many, .long c_t_taps, .int c_t_cells, .int c_t_acts_29, .int c_t_refused, .int c_t_knocks, .int c_t_thrown_4])), (a_t_forms, .inl (cyJ, 6, .inr (.inl f_t_forms_29)))]) (wr := []) (va_runV (As := [.int p2, .long ((f_t_forms p0.toNatClampNeg) ^^^ (f_t_forms p1.toNatClampNeg))]) (rest := []) hcf (c_X9_give l D cyJ H.size a_t a_t_forms a_t_roll c_t_many c_t_taps c_t_cells c_t_acts c_t_refused c_t_knocks c_t_thrown_4 f_t_forms p2 ((f_t_forms p0.toNatClampNeg) ^^^ (f_t_forms p1.toNatClampNeg)) r29 c_t_acts_29 f_t_forms_29 hc29) (cwV 2 hts gX9_add_X9_give rfl rfl rfl ydX9_give ⟨Nat.le_of_ble_eq_true rfl, Nat.le_of_ble_eq_true rfl⟩) ⟨bl_PD, va_recv hK hP (ci := 8) (q0 := 1) rfl rfl, pr_PD hPc hK0 hDc hnw⟩ rfl rfl hl.1 rfl (lv_room (Nat.le_of_ble_eq_true rfl)) dX9_add_29 ⟨Nat.le_of_ble_eq_true rfl, Nat.le_of_ble_eq_true rfl⟩) hP hD hS hA [1, 0] [] rfl rfl (by decide) (by decide) (fun H locs hP hD hS => ?_)
    have hP : va_P D vwCl [(a_t, .inr (8, [.ref a_t_forms, .ref a_t_roll, .int c_t_many, .long c_t_taps, .int c_t_cells, .int c_t_acts_29, .int c_t_refused, .int c_t_knocks, .int c_t_thrown_4])), (a_t_forms, .inl (cyJ, 6, .inr (.inl f_t_forms_29)))] H := hP
    have hD : va_D A [(a_t, .inr (8, [.ref a_t_forms, .ref a_t_roll, .int c_t_many, .long c_t_taps, .int c_t_cells, .int c_t_acts_29, .int c_t_refused, .int c_t_knocks, .int c_t_thrown_4])), (a_t_forms, .inl (cyJ, 6, .inr (.inl f_t_forms_29)))] := hD
    obtain ⟨e0, e1, e2, e3⟩ := tup4 h
    subst e0
    subst e1
    subst e2
    subst e3
    have hP9 : va_P D vwCl [(a_t, .inr (8, [.ref a_t_forms, .ref a_t_roll, .int c_t_many, .long c_t_taps, .int c_t_cells, .int c_t_acts_29, .int c_t_refused, .int c_t_knocks, .int c_t_thrown_4])), (a_t_forms, .inl (cyJ, 6, .inr (.inl f_t_forms_29)))] H := hP.sub [0, 1] rfl
    have hD9 : va_D A [(a_t, .inr (8, [.ref a_t_forms, .ref a_t_roll, .int c_t_many, .long c_t_taps, .int c_t_cells, .int c_t_acts_29, .int c_t_refused, .int c_t_knocks, .int c_t_thrown_4])), (a_t_forms, .inl (cyJ, 6, .inr (.inl f_t_forms_29)))] := hD.sub [0, 1] (by decide) rfl
    exact W.iret hx hb hr (fun t ht hW => ⟨⟨_, (), rfl, rfl, wQA_of ht hP9 hD9⟩, hS.F ht⟩) hS.2.2 dX9_add_32
  · have h := if_ c7 h
    refine lv_iconst (v := 0) hx hb dX9_add_10 (by decide) ?_
    refine lv_goto (tgt := 32) hx hb dX9_add_11 (by decide) ?_
    obtain ⟨e0, e1, e2, e3⟩ := tup4 h
    subst e0
    subst e1
    subst e2
    subst e3
    have hP9 : va_P D vwCl [(a_t, .inr (8, [.ref a_t_forms, .ref a_t_roll, .int c_t_many, .long c_t_taps, .int c_t_cells, .int c_t_acts, .int c_t_refused, .int c_t_knocks, .int c_t_thrown_4])), (a_t_forms, .inl (cyJ, 6, .inr (.inl f_t_forms)))] H := hP.sub [1, 0] rfl
    have hD9 : va_D A [(a_t, .inr (8, [.ref a_t_forms, .ref a_t_roll, .int c_t_many, .long c_t_taps, .int c_t_cells, .int c_t_acts, .int c_t_refused, .int c_t_knocks, .int c_t_thrown_4])), (a_t_forms, .inl (cyJ, 6, .inr (.inl f_t_forms)))] := hD.sub [1, 0] (by decide) rfl
    exact W.iret hx hb hr (fun t ht hW => ⟨⟨_, (), rfl, rfl, wQA_of ht hP9 hD9⟩, hS.F ht⟩) hS.2.2 dX9_add_32

noncomputable abbrev rmX9_isTooHigh : Room := { frames := 3, cells := 0, slots := 0, locals := 64 }
theorem ydX9_isTooHigh : yX9_isTooHigh.cls = RX9 ∧ yX9_isTooHigh.cls ≠ "java/lang/invoke/MethodHandle" ∧ yX9_isTooHigh.cls ≠ "java/lang/invoke/VarHandle" ∧ (parseMethodDescriptor yX9_isTooHigh.desc).map (fun d => d.parameters.length) = some 2 := by decide +kernel
noncomputable def F_X9_isTooHigh (p0 : Int64) (p1 : Int64) : Option (Int32) :=
 (if p0 = (0 : Int64) then
 some (0 : Int32)
else
 (if p1 = (0 : Int64) then
 some (0 : Int32)
else
 obn (F_X9_degreeOf p0) (fun r13 =>
 obn (F_X9_degreeOf p1) (fun r17 =>
 (if (r13 + r17) < (40 : Int32) then
 some (0 : Int32)
else
 some (1 : Int32))))))
set_option maxHeartbeats 4000000 in
set_option maxRecDepth 100000 in
theorem c_X9_isTooHigh (l : Launch) (D : va_G) (cyJ : ClassId) (a_t : Nat) (p0 : Int64) (p1 : Int64) (r0 : Int32) (hF : F_X9_isTooHigh p0 p1 = some r0) : Met l yX9_isTooHigh wsX9_isTooHigh rmX9_isTooHigh (va_Pc [.ref a_t, .long p0, .long p1] (wPK D [(cyJ, .long)] [])) (k2_QcV (.int r0)) 0 0 (fun _ => False) := by
  refine Met.ofW (cc := cX9_isTooHigh) (maxL := 5) (ret := (some .boolean)) (by decide) rfl ?_
  intro p e s m args below meth c s₁ B hml hv
  obtain ⟨rfl, hP, hK, hnw⟩ := hv
  have hx := B.exec
  have hb := B.bytes
  have hr := B.returns
  have hts := atoms_spec (ws := wsX9_isTooHigh) B.pre
  have hown : s.vm.findClass RX9 = some m.cls := findClass_of_methodNamed B.named
  have hlocks := B.notSynchronized
  have hcf : CallFix _ _ _ _ _ _ _ _ _ := ⟨hx, hb, hml, hown, hts⟩
  have hK0 := hK
  have hl := lv_entry ([.ref a_t, .long p0, .long p1]) (n := 5) (Nat.le_of_ble_eq_true rfl)
  rw [lg_entry_eq]
  generalize (lg_sl ([.ref a_t, .long p0, .long p1]) ++ List.replicate (5 - (lg_sl ([.ref a_t, .long p0, .long p1])).length) Slot.unset).toArray = ls at hl ⊢
  have hl : lv_has ls 5 [(0, .ref a_t), (1, .long p0), (3, .long p1)] := hl
  have h := hF
  clear hF
  unfold F_X9_isTooHigh at h
  refine lv_lload_n hx hb dX9_isTooHigh_0 rfl (lv_at hl 1 rfl) ?_
  refine lv_lconst (v := 0) hx hb dX9_isTooHigh_1 (by decide) ?_
  refine W.lcmp hx hb dX9_isTooHigh_2 ?_
  refine lv_if_eq (tgt := 30) hx hb dX9_isTooHigh_3 (by decide) (fun c3 => ?_) (fun c3 => ?_)
  · have c3 := (lg_cmp_eq _ _).mp c3
    have h := it_ c3 h
    refine lv_iconst (v := 0) hx hb dX9_isTooHigh_30 (by decide) ?_
    have e1 := Option.some.inj h
    subst e1
    exact W.zret hx hb hr narrow_b0 (fun t ht _ => ⟨rfl, ht⟩) no_q dX9_isTooHigh_31
  · have c3 := fun z => c3 ((lg_cmp_eq _ _).mpr z)
    have h := if_ c3 h
    refine lv_lload_n hx hb dX9_isTooHigh_6 rfl (lv_at hl 2 rfl) ?_
    refine lv_lconst (v := 0) hx hb dX9_isTooHigh_7 (by decide) ?_
    refine W.lcmp hx hb dX9_isTooHigh_8 ?_
    refine lv_if_eq (tgt := 30) hx hb dX9_isTooHigh_9 (by decide) (fun c9 => ?_) (fun c9 => ?_)
    · have c9 := (lg_cmp_eq _ _).mp c9
      have h := it_ c9 h
      refine lv_iconst (v := 0) hx hb dX9_isTooHigh_30 (by decide) ?_
      have e1 := Option.some.inj h
      subst e1
      exact W.zret hx hb hr narrow_b0 (fun t ht _ => ⟨rfl, ht⟩) no_q dX9_isTooHigh_31
    · have c9 := fun z => c9 ((lg_cmp_eq _ _).mpr z)
      have h := if_ c9 h
      refine lv_lload_n hx hb dX9_isTooHigh_12 rfl (lv_at hl 1 rfl) ?_
      obtain ⟨r13, hc13, h⟩ := obn_h h
      refine pz_callS (As := [.long p0]) (rest := []) hcf (c_X9_degreeOf l p0 r13 hc13) (va_cwS 1 hts gX9_isTooHigh_X9_degreeOf rfl rfl rfl ydX9_degreeOf ⟨Nat.le_of_ble_eq_true rfl, Nat.le_of_ble_eq_true rfl⟩) hnw rfl hl.1 rfl (Nat.le_of_ble_eq_true rfl) dX9_isTooHigh_13 ⟨Nat.le_of_ble_eq_true rfl, Nat.le_of_ble_eq_true rfl⟩ ?_
      refine lv_lload_n hx hb dX9_isTooHigh_16 rfl (lv_at hl 2 rfl) ?_
      obtain ⟨r17, hc17, h⟩ := obn_h h
      refine pz_callS (As := [.long p1]) (rest := [.int r13]) hcf (c_X9_degreeOf l p1 r17 hc17) (va_cwS 1 hts gX9_isTooHigh_X9_degreeOf rfl rfl rfl ydX9_degreeOf ⟨Nat.le_of_ble_eq_true rfl, Nat.le_of_ble_eq_true rfl⟩) hnw rfl hl.1 rfl (Nat.le_of_ble_eq_true rfl) dX9_isTooHigh_17 ⟨Nat.le_of_ble_eq_true rfl, Nat.le_of_ble_eq_true rfl⟩ ?_
      refine lv_iadd hx hb dX9_isTooHigh_20 ?_
      refine lv_bipush (v := 40) hx hb dX9_isTooHigh_21 (by decide) ?_
      refine lv_icmp_lt (tgt := 30) hx hb dX9_isTooHigh_23 (by decide) (fun c23 => ?_) (fun c23 => ?_)
      · have h := it_ c23 h
        refine lv_iconst (v := 0) hx hb dX9_isTooHigh_30 (by decide) ?_
        have e1 := Option.some.inj h
        subst e1
        exact W.zret hx hb hr narrow_b0 (fun t ht _ => ⟨rfl, ht⟩) no_q dX9_isTooHigh_31
      · have h := if_ c23 h
        refine lv_iconst (v := 1) hx hb dX9_isTooHigh_26 (by decide) ?_
        refine lv_goto (tgt := 31) hx hb dX9_isTooHigh_27 (by decide) ?_
        have e1 := Option.some.inj h
        subst e1
        exact W.zret hx hb hr narrow_b1 (fun t ht _ => ⟨rfl, ht⟩) no_q dX9_isTooHigh_31

noncomputable abbrev rmX9_multiply : Room := { frames := 4, cells := 0, slots := 0, locals := 88 }
theorem ydX9_multiply : yX9_multiply.cls = RX9 ∧ yX9_multiply.cls ≠ "java/lang/invoke/MethodHandle" ∧ yX9_multiply.cls ≠ "java/lang/invoke/VarHandle" ∧ (parseMethodDescriptor yX9_multiply.desc).map (fun d => d.parameters.length) = some 3 := by decide +kernel
noncomputable def F_X9_multiply (c_t_acts : Int32) (c_t_refused : Int32) (f_t_forms : Nat → Int64) (p0 : Int32) (p1 : Int32) (p2 : Int32) : Option (Int32 × Int32 × Int32 × Int32 × (Nat → Int64)) :=
 obn2 (F_X9_areNot p0 p1 p2) (fun r4 c_t_thrown_4 =>
 (if r4 = 0 then
 chk (¬ (p0 < 0 ∨ 6 ≤ p0.toNatClampNeg)) (
 chk (¬ (p1 < 0 ∨ 6 ≤ p1.toNatClampNeg)) (
 obn (F_X9_isTooHigh (f_t_forms p0.toNatClampNeg) (f_t_forms p1.toNatClampNeg)) (fun r25 =>
 (if r25 = 0 then
 chk (¬ (p0 < 0 ∨ 6 ≤ p0.toNatClampNeg)) (
 chk (¬ (p1 < 0 ∨ 6 ≤ p1.toNatClampNeg)) (
 obn (F_X9_productOf (f_t_forms p0.toNatClampNeg) (f_t_forms p1.toNatClampNeg)) (fun r52 =>
 obn3 (F_X9_give c_t_acts f_t_forms p2 r52) (fun r55 c_t_acts_55 f_t_forms_55 =>
 some (r55, c_t_acts_55, c_t_refused, c_t_thrown_4, f_t_forms_55)))))
else
 obn2 (F_X9_no c_t_refused) (fun r32 c_t_refused_32 =>
 some (r32, c_t_acts, c_t_refused_32, c_t_thrown_4, f_t_forms))))))
else
 some ((0 : Int32), c_t_acts, c_t_refused, c_t_thrown_4, f_t_forms)))
set_option maxHeartbeats 4000000 in
set_option maxRecDepth 100000 in
theorem c_X9_multiply (l : Launch) (D : va_G) (cyJ : ClassId) (sz : Nat) (a_t : Nat) (a_t_forms : Nat) (a_t_roll : Nat) (c_t_many : Int32) (c_t_taps : Int64) (c_t_cells : Int32) (c_t_acts : Int32) (c_t_refused : Int32) (c_t_knocks : Int32) (c_t_thrown : Int32) (f_t_forms : Nat → Int64) (p0 : Int32) (p1 : Int32) (p2 : Int32) (r0 : Int32) (o_c_t_acts : Int32) (o_c_t_refused : Int32) (o_c_t_thrown : Int32) (o_f_t_forms : Nat → Int64) (hF : F_X9_multiply c_t_acts c_t_refused f_t_forms p0 p1 p2 = some (r0, o_c_t_acts, o_c_t_refused, o_c_t_thrown, o_f_t_forms)) : Met l yX9_multiply wsX9_multiply rmX9_multiply (va_Pc [.ref a_t, .int p0, .int p1, .int p2] (wPD D [(cyJ, .long)] [(a_t, .inr (8, [.ref a_t_forms, .ref a_t_roll, .int c_t_many, .long c_t_taps, .int c_t_cells, .int c_t_acts, .int c_t_refused, .int c_t_knocks, .int c_t_thrown])), (a_t_forms, .inl (cyJ, 6, .inr (.inl f_t_forms)))] sz)) (va_Qi (fun (r : Int32) (_ : Unit) => r = r0) (fun _ t => wQA D [(a_t, .inr (8, [.ref a_t_forms, .ref a_t_roll, .int c_t_many, .long c_t_taps, .int c_t_cells, .int o_c_t_acts, .int o_c_t_refused, .int c_t_knocks, .int o_c_t_thrown])), (a_t_forms, .inl (cyJ, 6, .inr (.inl o_f_t_forms)))] (va_A [(a_t, .inr (8, [.ref a_t_forms, .ref a_t_roll, .int c_t_many, .long c_t_taps, .int c_t_cells, .int c_t_acts, .int c_t_refused, .int c_t_knocks, .int c_t_thrown])), (a_t_forms, .inl (cyJ, 6, .inr (.inl f_t_forms)))] sz) t) (va_A [(a_t, .inr (8, [.ref a_t_forms, .ref a_t_roll, .int c_t_many, .long c_t_taps, .int c_t_cells, .int c_t_acts, .int c_t_refused, .int c_t_knocks, .int c_t_thrown])), (a_t_forms, .inl (cyJ, 6, .inr (.inl f_t_forms)))] sz)) 0 0 (va_A [(a_t, .inr (8, [.ref a_t_forms, .ref a_t_roll, .int c_t_many, .long c_t_taps, .int c_t_cells, .int c_t_acts, .int c_t_refused, .int c_t_knocks, .int c_t_thrown])), (a_t_forms, .inl (cyJ, 6, .inr (.inl f_t_forms)))] sz) := by
  refine Met.ofW (cc := cX9_multiply) (maxL := 4) (ret := (some .int)) (by decide) rfl ?_
  intro p e s m args below meth c s₁ B hml hv
  obtain ⟨rfl, hsz, hP, hK, hD0, hnw⟩ := hv
  have hx := B.exec
  have hb := B.bytes
  have hr := B.returns
  have hts := atoms_spec (ws := wsX9_multiply) B.pre
  have hown : s.vm.findClass RX9 = some m.cls := findClass_of_methodNamed B.named
  have hlocks := B.notSynchronized
  have hcf : CallFix _ _ _ _ _ _ _ _ _ := ⟨hx, hb, hml, hown, hts⟩
  have hinX9 : ∀ w ∈ u_ws RX9 TX9 9, w ∈ wsX9_multiply := by decide +kernel
  have hfl9 := hts (.fieldLink RX9 9 "FormwheelModel" "forms" "[J") (by decide +kernel)
  subst hsz
  have hD := hD0.self (sz := s.heap.size)
  generalize hAe : va_A [(a_t, .inr (8, [.ref a_t_forms, .ref a_t_roll, .int c_t_many, .long c_t_taps, .int c_t_cells, .int c_t_acts, .int c_t_refused, .int c_t_knocks, .int c_t_thrown])), (a_t_forms, .inl (cyJ, 6, .inr (.inl f_t_forms)))] s.heap.size = A at hD ⊢
  have hA : ∀ q : Nat, s.heap.size ≤ q → A q := fun q h => by rw [← hAe]; exact Or.inr h
  have hS : va_S A s.heap s.heap [] := va_S.rf
  have hP : va_P D vwCl [(a_t, .inr (8, [.ref a_t_forms, .ref a_t_roll, .int c_t_many, .long c_t_taps, .int c_t_cells, .int c_t_acts, .int c_t_refused, .int c_t_knocks, .int c_t_thrown])), (a_t_forms, .inl (cyJ, 6, .inr (.inl f_t_forms)))] s.heap := hP
  have hK0 := hK
  have hl := lv_entry ([.ref a_t, .int p0, .int p1, .int p2]) (n := 4) (Nat.le_of_ble_eq_true rfl)
  rw [lg_entry_eq]
  generalize (lg_sl ([.ref a_t, .int p0, .int p1, .int p2]) ++ List.replicate (4 - (lg_sl ([.ref a_t, .int p0, .int p1, .int p2])).length) Slot.unset).toArray = ls at hl ⊢
  have hl : lv_has ls 4 [(0, .ref a_t), (1, .int p0), (2, .int p1), (3, .int p2)] := hl
  have h := hF
  clear hF
  unfold F_X9_multiply at h
  refine lv_aload_n hx hb dX9_multiply_0 rfl (lv_at hl 0 rfl) ?_
  refine lv_iload_n hx hb dX9_multiply_1 rfl (lv_at hl 1 rfl) ?_
  refine lv_iload_n hx hb dX9_multiply_2 rfl (lv_at hl 2 rfl) ?_
  refine lv_iload_n hx hb dX9_multiply_3 rfl (lv_at hl 3 rfl) ?_
  obtain ⟨r4, c_t_thrown_4, hc4, h⟩ := obn2_h h
  have hPc := hP.sub (ws' := [(a_t, .inr (8, [.ref a_t_forms, .ref a_t_roll, .int c_t_many, .long c_t_taps, .int c_t_cells, .int c_t_acts, .int c_t_refused, .int c_t_knocks, .int c_t_thrown]))]) [0] rfl
  have hDc := hD.sub (ws' := [(a_t, .inr (8, [.ref a_t_forms, .ref a_t_roll, .int c_t_many, .long c_t_taps, .int c_t_cells, .int c_t_acts, .int c_t_refused, .int c_t_knocks, .int c_t_thrown]))]) [0] (by decide) rfl
  refine hp_i (w1 := [(a_t, .inr (8, [.ref a_t_forms, .ref a_t_roll, .int c_t_many, .long c_t_taps, .int c_t_cells, .int c_t_acts, .int c_t_refused, .int c_t_knocks, .int c_t_thrown_4]))]) (wr := [(a_t_forms, .inl (cyJ, 6, .inr (.inl f_t_forms)))]) (va_runV (As := [.int p0, .int p1, .int p2]) (rest := []) hcf (c_X9_areNot l D cyJ s.heap.size a_t a_t_forms a_t_roll c_t_many c_t_taps c_t_cells c_t_acts c_t_refused c_t_knocks c_t_thrown p0 p1 p2 r4 c_t_thrown_4 hc4) (cwV 3 hts gX9_multiply_X9_areNot rfl rfl rfl ydX9_areNot ⟨Nat.le_of_ble_eq_true rfl, Nat.le_of_ble_eq_true rfl⟩) ⟨bl_PD, va_recv hK hP (ci := 8) (q0 := 0) rfl rfl, pr_PD hPc hK0 hDc hnw⟩ rfl rfl hl.1 rfl (lv_room (Nat.le_of_ble_eq_true rfl)) dX9_multiply_4 ⟨Nat.le_of_ble_eq_true rfl, Nat.le_of_ble_eq_true rfl⟩) hP hD hS hA [0] [1] rfl rfl (by decide) (by decide) (fun H locs hP hD hS => ?_)
  have hP : va_P D vwCl [(a_t_forms, .inl (cyJ, 6, .inr (.inl f_t_forms))), (a_t, .inr (8, [.ref a_t_forms, .ref a_t_roll, .int c_t_many, .long c_t_taps, .int c_t_cells, .int c_t_acts, .int c_t_refused, .int c_t_knocks, .int c_t_thrown_4]))] H := hP
  have hD : va_D A [(a_t_forms, .inl (cyJ, 6, .inr (.inl f_t_forms))), (a_t, .inr (8, [.ref a_t_forms, .ref a_t_roll, .int c_t_many, .long c_t_taps, .int c_t_cells, .int c_t_acts, .int c_t_refused, .int c_t_knocks, .int c_t_thrown_4]))] := hD
  refine lv_if_eq (tgt := 12) hx hb dX9_multiply_7 (by decide) (fun c7 => ?_) (fun c7 => ?_)
  · have h := it_ c7 h
    refine lv_aload_n hx hb dX9_multiply_12 rfl (lv_at hl 0 rfl) ?_
    refine lv_aload_n hx hb dX9_multiply_13 rfl (lv_at hl 0 rfl) ?_
    refine va_get (D := D) (ci := 8) (v := .ref a_t_forms) (C := RX9) (T := TX9) (N := 9) hx hb hts hinX9 hown hK hP 1 rfl rfl 0 (by decide) hfl9 (fun _ h9 => h9) rfl dX9_multiply_14 ?_
    refine lv_iload_n hx hb dX9_multiply_17 rfl (lv_at hl 1 rfl) ?_
    obtain ⟨hq18, h⟩ := chk_h h
    refine va_lald hx hb hK hP 0 0 rfl rfl hq18 dX9_multiply_18 ?_
    refine lv_aload_n hx hb dX9_multiply_19 rfl (lv_at hl 0 rfl) ?_
    refine va_get (D := D) (ci := 8) (v := .ref a_t_forms) (C := RX9) (T := TX9) (N := 9) hx hb hts hinX9 hown hK hP 1 rfl rfl 0 (by decide) hfl9 (fun _ h9 => h9) rfl dX9_multiply_20 ?_
    refine lv_iload_n hx hb dX9_multiply_23 rfl (lv_at hl 2 rfl) ?_
    obtain ⟨hq24, h⟩ := chk_h h
    refine va_lald hx hb hK hP 0 0 rfl rfl hq24 dX9_multiply_24 ?_
    obtain ⟨r25, hc25, h⟩ := obn_h h
    have hPc : va_P D vwCl [] H := fun k q h => by simp at h
    refine rd_callV (As := [.long (f_t_forms p0.toNatClampNeg), .long (f_t_forms p1.toNatClampNeg)]) (rest := []) hcf (c_X9_isTooHigh l D cyJ a_t (f_t_forms p0.toNatClampNeg) (f_t_forms p1.toNatClampNeg) r25 hc25) (cwV 2 hts gX9_multiply_X9_isTooHigh rfl rfl rfl ydX9_isTooHigh ⟨Nat.le_of_ble_eq_true rfl, Nat.le_of_ble_eq_true rfl⟩) hnw hPc hK0 (va_recv hK hP (ci := 8) (q0 := 1) rfl rfl) rfl hl.1 rfl (Nat.le_of_ble_eq_true rfl) dX9_multiply_25 ⟨Nat.le_of_ble_eq_true rfl, Nat.le_of_ble_eq_true rfl⟩ ?_
    refine lv_if_eq (tgt := 38) hx hb dX9_multiply_28 (by decide) (fun c28 => ?_) (fun c28 => ?_)
    · have h := it_ c28 h
      refine lv_aload_n hx hb dX9_multiply_38 rfl (lv_at hl 0 rfl) ?_
      refine lv_iload_n hx hb dX9_multiply_39 rfl (lv_at hl 3 rfl) ?_
      refine lv_aload_n hx hb dX9_multiply_40 rfl (lv_at hl 0 rfl) ?_
      refine va_get (D := D) (ci := 8) (v := .ref a_t_forms) (C := RX9) (T := TX9) (N := 9) hx hb hts hinX9 hown hK hP 1 rfl rfl 0 (by decide) hfl9 (fun _ h9 => h9) rfl dX9_multiply_41 ?_
      refine lv_iload_n hx hb dX9_multiply_44 rfl (lv_at hl 1 rfl) ?_
      obtain ⟨hq45, h⟩ := chk_h h
      refine va_lald hx hb hK hP 0 0 rfl rfl hq45 dX9_multiply_45 ?_
      refine lv_aload_n hx hb dX9_multiply_46 rfl (lv_at hl 0 rfl) ?_
      refine va_get (D := D) (ci := 8) (v := .ref a_t_forms) (C := RX9) (T := TX9) (N := 9) hx hb hts hinX9 hown hK hP 1 rfl rfl 0 (by decide) hfl9 (fun _ h9 => h9) rfl dX9_multiply_47 ?_
      refine lv_iload_n hx hb dX9_multiply_50 rfl (lv_at hl 2 rfl) ?_
      obtain ⟨hq51, h⟩ := chk_h h
      refine va_lald hx hb hK hP 0 0 rfl rfl hq51 dX9_multiply_51 ?_
      obtain ⟨r52, hc52, h⟩ := obn_h h
      refine pz_callS (As := [.long (f_t_forms p0.toNatClampNeg), .long (f_t_forms p1.toNatClampNeg)]) (rest := [.int p2, .ref a_t]) hcf (c_X9_productOf l (f_t_forms p0.toNatClampNeg) (f_t_forms p1.toNatClampNeg) r52 hc52) (va_cwS 2 hts gX9_multiply_X9_productOf rfl rfl rfl ydX9_productOf ⟨Nat.le_of_ble_eq_true rfl, Nat.le_of_ble_eq_true rfl⟩) hnw rfl hl.1 rfl (Nat.le_of_ble_eq_true rfl) dX9_multiply_52 ⟨Nat.le_of_ble_eq_true rfl, Nat.le_of_ble_eq_true rfl⟩ ?_
      obtain ⟨r55, c_t_acts_55, f_t_forms_55, hc55, h⟩ := obn3_h h
      have hPc := hP.sub (ws' := [(a_t, .inr (8, [.ref a_t_forms, .ref a_t_roll, .int c_t_many, .long c_t_taps, .int c_t_cells, .int c_t_acts, .int c_t_refused, .int c_t_knocks, .int c_t_thrown_4])), (a_t_forms, .inl (cyJ, 6, .inr (.inl f_t_forms)))]) [1, 0] rfl
      have hDc := hD.sub (ws' := [(a_t, .inr (8, [.ref a_t_forms, .ref a_t_roll, .int c_t_many, .long c_t_taps, .int c_t_cells, .int c_t_acts, .int c_t_refused, .int c_t_knocks, .int c_t_thrown_4])), (a_t_forms, .inl (cyJ, 6, .inr (.inl f_t_forms)))]) [1, 0] (by decide) rfl
      refine hp_i (w1 := [(a_t, .inr (8, [.ref a_t_forms, .ref a_t_roll, .int c_t_many, .long c_t_taps, .int c_t_cells, .int c_t_acts_55, .int c_t_refused, .int c_t_knocks, .int c_t_thrown_4])), (a_t_forms, .inl (cyJ, 6, .inr (.inl f_t_forms_55)))]) (wr := []) (va_runV (As := [.int p2, .long r52]) (rest := []) hcf (c_X9_give l D cyJ H.size a_t a_t_forms a_t_roll c_t_many c_t_taps c_t_cells c_t_acts c_t_refused c_t_knocks c_t_thrown_4 f_t_forms p2 r52 r55 c_t_acts_55 f_t_forms_55 hc55) (cwV 2 hts gX9_multiply_X9_give rfl rfl rfl ydX9_give ⟨Nat.le_of_ble_eq_true rfl, Nat.le_of_ble_eq_true rfl⟩) ⟨bl_PD, va_recv hK hP (ci := 8) (q0 := 1) rfl rfl, pr_PD hPc hK0 hDc hnw⟩ rfl rfl hl.1 rfl (lv_room (Nat.le_of_ble_eq_true rfl)) dX9_multiply_55 ⟨Nat.le_of_ble_eq_true rfl, Nat.le_of_ble_eq_true rfl⟩) hP hD hS hA [1, 0] [] rfl rfl (by decide) (by decide) (fun H locs hP hD hS => ?_)
      have hP : va_P D vwCl [(a_t, .inr (8, [.ref a_t_forms, .ref a_t_roll, .int c_t_many, .long c_t_taps, .int c_t_cells, .int c_t_acts_55, .int c_t_refused, .int c_t_knocks, .int c_t_thrown_4])), (a_t_forms, .inl (cyJ, 6, .inr (.inl f_t_forms_55)))] H := hP
      have hD : va_D A [(a_t, .inr (8, [.ref a_t_forms, .ref a_t_roll, .int c_t_many, .long c_t_taps, .int c_t_cells, .int c_t_acts_55, .int c_t_refused, .int c_t_knocks, .int c_t_thrown_4])), (a_t_forms, .inl (cyJ, 6, .inr (.inl f_t_forms_55)))] := hD
      obtain ⟨e0, e1, e2, e3, e4⟩ := tup5 h
      subst e0
      subst e1
      subst e2
      subst e3
      subst e4
      have hP9 : va_P D vwCl [(a_t, .inr (8, [.ref a_t_forms, .ref a_t_roll, .int c_t_many, .long c_t_taps, .int c_t_cells, .int c_t_acts_55, .int c_t_refused, .int c_t_knocks, .int c_t_thrown_4])), (a_t_forms, .inl (cyJ, 6, .inr (.inl f_t_forms_55)))] H := hP.sub [0, 1] rfl
      have hD9 : va_D A [(a_t, .inr (8, [.ref a_t_forms, .ref a_t_roll, .int c_t_many, .long c_t_taps, .int c_t_cells, .int c_t_acts_55, .int c_t_refused, .int c_t_knocks, .int c_t_thrown_4])), (a_t_forms, .inl (cyJ, 6, .inr (.inl f_t_forms_55)))] := hD.sub [0, 1] (by decide) rfl
      exact W.iret hx hb hr (fun t ht hW => ⟨⟨_, (), rfl, rfl, wQA_of ht hP9 hD9⟩, hS.F ht⟩) hS.2.2 dX9_multiply_58
    · have h := if_ c28 h
      refine lv_aload_n hx hb dX9_multiply_31 rfl (lv_at hl 0 rfl) ?_
      obtain ⟨r32, c_t_refused_32, hc32, h⟩ := obn2_h h
      have hPc := hP.sub (ws' := [(a_t, .inr (8, [.ref a_t_forms, .ref a_t_roll, .int c_t_many, .long c_t_taps, .int c_t_cells, .int c_t_acts, .int c_t_refused, .int c_t_knocks, .int c_t_thrown_4]))]) [1] rfl
      have hDc := hD.sub (ws' := [(a_t, .inr (8, [.ref a_t_forms, .ref a_t_roll, .int c_t_many, .long c_t_taps, .int c_t_cells, .int c_t_acts, .int c_t_refused, .int c_t_knocks, .int c_t_thrown_4]))]) [1] (by decide) rfl
      refine hp_i (w1 := [(a_t, .inr (8, [.ref a_t_forms, .ref a_t_roll, .int c_t_many, .long c_t_taps, .int c_t_cells, .int c_t_acts, .int c_t_refused_32, .int c_t_knocks, .int c_t_thrown_4]))]) (wr := [(a_t_forms, .inl (cyJ, 6, .inr (.inl f_t_forms)))]) (va_runV (As := []) (rest := []) hcf (c_X9_no l D cyJ H.size a_t a_t_forms a_t_roll c_t_many c_t_taps c_t_cells c_t_acts c_t_refused c_t_knocks c_t_thrown_4 r32 c_t_refused_32 hc32) (cwV 0 hts gX9_multiply_X9_no rfl rfl rfl ydX9_no ⟨Nat.le_of_ble_eq_true rfl, Nat.le_of_ble_eq_true rfl⟩) ⟨bl_PD, va_recv hK hP (ci := 8) (q0 := 1) rfl rfl, pr_PD hPc hK0 hDc hnw⟩ rfl rfl hl.1 rfl (lv_room (Nat.le_of_ble_eq_true rfl)) dX9_multiply_32 ⟨Nat.le_of_ble_eq_true rfl, Nat.le_of_ble_eq_true rfl⟩) hP hD hS hA [1] [0] rfl rfl (by decide) (by decide) (fun H locs hP hD hS => ?_)
      have hP : va_P D vwCl [(a_t_forms, .inl (cyJ, 6, .inr (.inl f_t_forms))), (a_t, .inr (8, [.ref a_t_forms, .ref a_t_roll, .int c_t_many, .long c_t_taps, .int c_t_cells, .int c_t_acts, .int c_t_refused_32, .int c_t_knocks, .int c_t_thrown_4]))] H := hP
      have hD : va_D A [(a_t_forms, .inl (cyJ, 6, .inr (.inl f_t_forms))), (a_t, .inr (8, [.ref a_t_forms, .ref a_t_roll, .int c_t_many, .long c_t_taps, .int c_t_cells, .int c_t_acts, .int c_t_refused_32, .int c_t_knocks, .int c_t_thrown_4]))] := hD
      refine lv_goto (tgt := 58) hx hb dX9_multiply_35 (by decide) ?_
      obtain ⟨e0, e1, e2, e3, e4⟩ := tup5 h
      subst e0
      subst e1
      subst e2
      subst e3
      subst e4
      have hP9 : va_P D vwCl [(a_t, .inr (8, [.ref a_t_forms, .ref a_t_roll, .int c_t_many, .long c_t_taps, .int c_t_cells, .int c_t_acts, .int c_t_refused_32, .int c_t_knocks, .int c_t_thrown_4])), (a_t_forms, .inl (cyJ, 6, .inr (.inl f_t_forms)))] H := hP.sub [1, 0] rfl
      have hD9 : va_D A [(a_t, .inr (8, [.ref a_t_forms, .ref a_t_roll, .int c_t_many, .long c_t_taps, .int c_t_cells, .int c_t_acts, .int c_t_refused_32, .int c_t_knocks, .int c_t_thrown_4])), (a_t_forms, .inl (cyJ, 6, .inr (.inl f_t_forms)))] := hD.sub [1, 0] (by decide) rfl
      exact W.iret hx hb hr (fun t ht hW => ⟨⟨_, (), rfl, rfl, wQA_of ht hP9 hD9⟩, hS.F ht⟩) hS.2.2 dX9_multiply_58
  · have h := if_ c7 h
    refine lv_iconst (v := 0) hx hb dX9_multiply_10 (by decide) ?_
    obtain ⟨e0, e1, e2, e3, e4⟩ := tup5 h
    subst e0
    subst e1
    subst e2
    subst e3
    subst e4
    have hP9 : va_P D vwCl [(a_t, .inr (8, [.ref a_t_forms, .ref a_t_roll, .int c_t_many, .long c_t_taps, .int c_t_cells, .int c_t_acts, .int c_t_refused, .int c_t_knocks, .int c_t_thrown_4])), (a_t_forms, .inl (cyJ, 6, .inr (.inl f_t_forms)))] H := hP.sub [1, 0] rfl
    have hD9 : va_D A [(a_t, .inr (8, [.ref a_t_forms, .ref a_t_roll, .int c_t_many, .long c_t_taps, .int c_t_cells, .int c_t_acts, .int c_t_refused, .int c_t_knocks, .int c_t_thrown_4])), (a_t_forms, .inl (cyJ, 6, .inr (.inl f_t_forms)))] := hD.sub [1, 0] (by decide) rfl
    exact W.iret hx hb hr (fun t ht hW => ⟨⟨_, (), rfl, rfl, wQA_of ht hP9 hD9⟩, hS.F ht⟩) hS.2.2 dX9_multiply_11

noncomputable abbrev rmX9_square : Room := { frames := 4, cells := 0, slots := 0, locals := 88 }
theorem ydX9_square : yX9_square.cls = RX9 ∧ yX9_square.cls ≠ "java/lang/invoke/MethodHandle" ∧ yX9_square.cls ≠ "java/lang/invoke/VarHandle" ∧ (parseMethodDescriptor yX9_square.desc).map (fun d => d.parameters.length) = some 2 := by decide +kernel
noncomputable def J_X9_square_20 (jl1_20 : Int32) (jl2_20 : Int32) (js1_20 : Int32) (c_t_acts_j20 : Int32) (c_t_refused_j20 : Int32) (c_t_thrown_j20 : Int32) (f_t_forms_j20 : Nat → Int64) : Option (Int32 × Int32 × Int32 × Int32 × (Nat → Int64)) :=
 obn2 (F_X9_isThrown_ js1_20) (fun r20 c_t_thrown_20 =>
 (if r20 = 0 then
 chk (¬ (jl1_20 < 0 ∨ 6 ≤ jl1_20.toNatClampNeg)) (
 chk (¬ (jl1_20 < 0 ∨ 6 ≤ jl1_20.toNatClampNeg)) (
 obn (F_X9_isTooHigh (f_t_forms_j20 jl1_20.toNatClampNeg) (f_t_forms_j20 jl1_20.toNatClampNeg)) (fun r41 =>
 (if r41 = 0 then
 chk (¬ (jl1_20 < 0 ∨ 6 ≤ jl1_20.toNatClampNeg)) (
 chk (¬ (jl1_20 < 0 ∨ 6 ≤ jl1_20.toNatClampNeg)) (
 obn (F_X9_productOf (f_t_forms_j20 jl1_20.toNatClampNeg) (f_t_forms_j20 jl1_20.toNatClampNeg)) (fun r68 =>
 obn3 (F_X9_give c_t_acts_j20 f_t_forms_j20 jl2_20 r68) (fun r71 c_t_acts_71 f_t_forms_71 =>
 some (r71, c_t_acts_71, c_t_refused_j20, c_t_thrown_20, f_t_forms_71)))))
else
 obn2 (F_X9_no c_t_refused_j20) (fun r48 c_t_refused_48 =>
 some (r48, c_t_acts_j20, c_t_refused_48, c_t_thrown_20, f_t_forms_j20))))))
else
 some ((0 : Int32), c_t_acts_j20, c_t_refused_j20, c_t_thrown_20, f_t_forms_j20)))
noncomputable def J_X9_square_15 (jl1_15 : Int32) (jl2_15 : Int32) (c_t_acts_j15 : Int32) (c_t_refused_j15 : Int32) (c_t_thrown_j15 : Int32) (f_t_forms_j15 : Nat → Int64) : Option (Int32 × Int32 × Int32 × Int32 × (Nat → Int64)) :=
 J_X9_square_20 jl1_15 jl2_15 (1 : Int32) c_t_acts_j15 c_t_refused_j15 c_t_thrown_j15 f_t_forms_j15
noncomputable def F_X9_square (c_t_acts : Int32) (c_t_refused : Int32) (c_t_thrown : Int32) (f_t_forms : Nat → Int64) (p0 : Int32) (p1 : Int32) : Option (Int32 × Int32 × Int32 × Int32 × (Nat → Int64)) :=
 obn (F_X9_isForm p0) (fun r2 =>
 (if r2 = 0 then
 J_X9_square_15 p0 p1 c_t_acts c_t_refused c_t_thrown f_t_forms
else
 obn (F_X9_isForm p1) (fun r9 =>
 (if r9 = 0 then
 J_X9_square_15 p0 p1 c_t_acts c_t_refused c_t_thrown f_t_forms
else
 J_X9_square_20 p0 p1 (0 : Int32) c_t_acts c_t_refused c_t_thrown f_t_forms))))
set_option maxHeartbeats 4000000 in
set_option maxRecDepth 100000 in
theorem c_X9_square (l : Launch) (D : va_G) (cyJ : ClassId) (sz : Nat) (a_t : Nat) (a_t_forms : Nat) (a_t_roll : Nat) (c_t_many : Int32) (c_t_taps : Int64) (c_t_cells : Int32) (c_t_acts : Int32) (c_t_refused : Int32) (c_t_knocks : Int32) (c_t_thrown : Int32) (f_t_forms : Nat → Int64) (p0 : Int32) (p1 : Int32) (r0 : Int32) (o_c_t_acts : Int32) (o_c_t_refused : Int32) (o_c_t_thrown : Int32) (o_f_t_forms : Nat → Int64) (hF : F_X9_square c_t_acts c_t_refused c_t_thrown f_t_forms p0 p1 = some (r0, o_c_t_acts, o_c_t_refused, o_c_t_thrown, o_f_t_forms)) : Met l yX9_square wsX9_square rmX9_square (va_Pc [.ref a_t, .int p0, .int p1] (wPD D [(cyJ, .long)] [(a_t, .inr (8, [.ref a_t_forms, .ref a_t_roll, .int c_t_many, .long c_t_taps, .int c_t_cells, .int c_t_acts, .int c_t_refused, .int c_t_knocks, .int c_t_thrown])), (a_t_forms, .inl (cyJ, 6, .inr (.inl f_t_forms)))] sz)) (va_Qi (fun (r : Int32) (_ : Unit) => r = r0) (fun _ t => wQA D [(a_t, .inr (8, [.ref a_t_forms, .ref a_t_roll, .int c_t_many, .long c_t_taps, .int c_t_cells, .int o_c_t_acts, .int o_c_t_refused, .int c_t_knocks, .int o_c_t_thrown])), (a_t_forms, .inl (cyJ, 6, .inr (.inl o_f_t_forms)))] (va_A [(a_t, .inr (8, [.ref a_t_forms, .ref a_t_roll, .int c_t_many, .long c_t_taps, .int c_t_cells, .int c_t_acts, .int c_t_refused, .int c_t_knocks, .int c_t_thrown])), (a_t_forms, .inl (cyJ, 6, .inr (.inl f_t_forms)))] sz) t) (va_A [(a_t, .inr (8, [.ref a_t_forms, .ref a_t_roll, .int c_t_many, .long c_t_taps, .int c_t_cells, .int c_t_acts, .int c_t_refused, .int c_t_knocks, .int c_t_thrown])), (a_t_forms, .inl (cyJ, 6, .inr (.inl f_t_forms)))] sz)) 0 0 (va_A [(a_t, .inr (8, [.ref a_t_forms, .ref a_t_roll, .int c_t_many, .long c_t_taps, .int c_t_cells, .int c_t_acts, .int c_t_refused, .int c_t_knocks, .int c_t_thrown])), (a_t_forms, .inl (cyJ, 6, .inr (.inl f_t_forms)))] sz) := by
  refine Met.ofW (cc := cX9_square) (maxL := 3) (ret := (some .int)) (by decide) rfl ?_
  intro p e s m args below meth c s₁ B hml hv
  obtain ⟨rfl, hsz, hP, hK, hD0, hnw⟩ := hv
  have hx := B.exec
  have hb := B.bytes
  have hr := B.returns
  have hts := atoms_spec (ws := wsX9_square) B.pre
  have hown : s.vm.findClass RX9 = some m.cls := findClass_of_methodNamed B.named
  have hlocks := B.notSynchronized
  have hcf : CallFix _ _ _ _ _ _ _ _ _ := ⟨hx, hb, hml, hown, hts⟩
  have hinX9 : ∀ w ∈ u_ws RX9 TX9 9, w ∈ wsX9_square := by decide +kernel
  have hfl9 := hts (.fieldLink RX9 9 "FormwheelModel" "forms" "[J") (by decide +kernel)
  subst hsz
  have hD := hD0.self (sz := s.heap.size)
  generalize hAe : va_A [(a_t, .inr (8, [.ref a_t_forms, .ref a_t_roll, .int c_t_many, .long c_t_taps, .int c_t_cells, .int c_t_acts, .int c_t_refused, .int c_t_knocks, .int c_t_thrown])), (a_t_forms, .inl (cyJ, 6, .inr (.inl f_t_forms)))] s.heap.size = A at hD ⊢
  have hA : ∀ q : Nat, s.heap.size ≤ q → A q := fun q h => by rw [← hAe]; exact Or.inr h
  have hS : va_S A s.heap s.heap [] := va_S.rf
  have hP : va_P D vwCl [(a_t, .inr (8, [.ref a_t_forms, .ref a_t_roll, .int c_t_many, .long c_t_taps, .int c_t_cells, .int c_t_acts, .int c_t_refused, .int c_t_knocks, .int c_t_thrown])), (a_t_forms, .inl (cyJ, 6, .inr (.inl f_t_forms)))] s.heap := hP
  have hK0 := hK
  have hl := lv_entry ([.ref a_t, .int p0, .int p1]) (n := 3) (Nat.le_of_ble_eq_true rfl)
  rw [lg_entry_eq]
  generalize (lg_sl ([.ref a_t, .int p0, .int p1]) ++ List.replicate (3 - (lg_sl ([.ref a_t, .int p0, .int p1])).length) Slot.unset).toArray = ls at hl ⊢
  have hl : lv_has ls 3 [(0, .ref a_t), (1, .int p0), (2, .int p1)] := hl
  have h := hF
  clear hF
  unfold F_X9_square at h
  have hj20 : ∀ (js1_20 : Int32) (c_t_acts_j20 : Int32) (c_t_refused_j20 : Int32) (c_t_thrown_j20 : Int32) (f_t_forms_j20 : Nat → Int64), J_X9_square_20 p0 p1 js1_20 c_t_acts_j20 c_t_refused_j20 c_t_thrown_j20 f_t_forms_j20 = some (r0, o_c_t_acts, o_c_t_refused, o_c_t_thrown, o_f_t_forms) → ∀ (H : Heap) (locs : List Loc), va_P D vwCl [(a_t, .inr (8, [.ref a_t_forms, .ref a_t_roll, .int c_t_many, .long c_t_taps, .int c_t_cells, .int c_t_acts_j20, .int c_t_refused_j20, .int c_t_knocks, .int c_t_thrown_j20])), (a_t_forms, .inl (cyJ, 6, .inr (.inl f_t_forms_j20)))] H → va_D A [(a_t, .inr (8, [.ref a_t_forms, .ref a_t_roll, .int c_t_many, .long c_t_taps, .int c_t_cells, .int c_t_acts_j20, .int c_t_refused_j20, .int c_t_knocks, .int c_t_thrown_j20])), (a_t_forms, .inl (cyJ, 6, .inr (.inl f_t_forms_j20)))] → va_S A s.heap H locs → ∀ (ls : Array Slot), lv_has ls 3 [(0, .ref a_t), (1, .int p0), (2, .int p1)] → W p l e rmX9_square s m ([.ref a_t, .int p0, .int p1] : List Value).toArray below meth c H locs 0 0 (MQ below (va_Qi (fun (r : Int32) (_ : Unit) => r = r0) (fun _ t => wQA D [(a_t, .inr (8, [.ref a_t_forms, .ref a_t_roll, .int c_t_many, .long c_t_taps, .int c_t_cells, .int o_c_t_acts, .int o_c_t_refused, .int c_t_knocks, .int o_c_t_thrown])), (a_t_forms, .inl (cyJ, 6, .inr (.inl o_f_t_forms)))] A t) A) ([.ref a_t, .int p0, .int p1] : List Value).toArray s 0 0 A) (F0 m 20 ls [.int js1_20, .ref a_t]) := by
    intro js1_20 c_t_acts_j20 c_t_refused_j20 c_t_thrown_j20 f_t_forms_j20 h H locs hP hD hS ls hl
    unfold J_X9_square_20 at h
    obtain ⟨r20, c_t_thrown_20, hc20, h⟩ := obn2_h h
    have hPc := hP.sub (ws' := [(a_t, .inr (8, [.ref a_t_forms, .ref a_t_roll, .int c_t_many, .long c_t_taps, .int c_t_cells, .int c_t_acts_j20, .int c_t_refused_j20, .int c_t_knocks, .int c_t_thrown_j20]))]) [0] rfl
    have hDc := hD.sub (ws' := [(a_t, .inr (8, [.ref a_t_forms, .ref a_t_roll, .int c_t_many, .long c_t_taps, .int c_t_cells, .int c_t_acts_j20, .int c_t_refused_j20, .int c_t_knocks, .int c_t_thrown_j20]))]) [0] (by decide) rfl
    refine hp_i (w1 := [(a_t, .inr (8, [.ref a_t_forms, .ref a_t_roll, .int c_t_many, .long c_t_taps, .int c_t_cells, .int c_t_acts_j20, .int c_t_refused_j20, .int c_t_knocks, .int c_t_thrown_20]))]) (wr := [(a_t_forms, .inl (cyJ, 6, .inr (.inl f_t_forms_j20)))]) (va_runV (As := [.int js1_20]) (rest := []) hcf (c_X9_isThrown_ l D cyJ H.size a_t a_t_forms a_t_roll c_t_many c_t_taps c_t_cells c_t_acts_j20 c_t_refused_j20 c_t_knocks c_t_thrown_j20 js1_20 r20 c_t_thrown_20 hc20) (cwV 1 hts gX9_square_X9_isThrown_ rfl rfl rfl ydX9_isThrown_ ⟨Nat.le_of_ble_eq_true rfl, Nat.le_of_ble_eq_true rfl⟩) ⟨bl_PD, va_recv hK hP (ci := 8) (q0 := 0) rfl rfl, pr_PD hPc hK0 hDc hnw⟩ rfl rfl hl.1 rfl (lv_room (Nat.le_of_ble_eq_true rfl)) dX9_square_20 ⟨Nat.le_of_ble_eq_true rfl, Nat.le_of_ble_eq_true rfl⟩) hP hD hS hA [0] [1] rfl rfl (by decide) (by decide) (fun H locs hP hD hS => ?_)
    have hP : va_P D vwCl [(a_t_forms, .inl (cyJ, 6, .inr (.inl f_t_forms_j20))), (a_t, .inr (8, [.ref a_t_forms, .ref a_t_roll, .int c_t_many, .long c_t_taps, .int c_t_cells, .int c_t_acts_j20, .int c_t_refused_j20, .int c_t_knocks, .int c_t_thrown_20]))] H := hP
    have hD : va_D A [(a_t_forms, .inl (cyJ, 6, .inr (.inl f_t_forms_j20))), (a_t, .inr (8, [.ref a_t_forms, .ref a_t_roll, .int c_t_many, .long c_t_taps, .int c_t_cells, .int c_t_acts_j20, .int c_t_refused_j20, .int c_t_knocks, .int c_t_thrown_20]))] := hD
    refine lv_if_eq (tgt := 28) hx hb dX9_square_23 (by decide) (fun c23 => ?_) (fun c23 => ?_)
    · have h := it_ c23 h
      refine lv_aload_n hx hb dX9_square_28 rfl (lv_at hl 0 rfl) ?_
      refine lv_aload_n hx hb dX9_square_29 rfl (lv_at hl 0 rfl) ?_
      refine va_get (D := D) (ci := 8) (v := .ref a_t_forms) (C := RX9) (T := TX9) (N := 9) hx hb hts hinX9 hown hK hP 1 rfl rfl 0 (by decide) hfl9 (fun _ h9 => h9) rfl dX9_square_30 ?_
      refine lv_iload_n hx hb dX9_square_33 rfl (lv_at hl 1 rfl) ?_
      obtain ⟨hq34, h⟩ := chk_h h
      refine va_lald hx hb hK hP 0 0 rfl rfl hq34 dX9_square_34 ?_
      refine lv_aload_n hx hb dX9_square_35 rfl (lv_at hl 0 rfl) ?_
      refine va_get (D := D) (ci := 8) (v := .ref a_t_forms) (C := RX9) (T := TX9) (N := 9) hx hb hts hinX9 hown hK hP 1 rfl rfl 0 (by decide) hfl9 (fun _ h9 => h9) rfl dX9_square_36 ?_
      refine lv_iload_n hx hb dX9_square_39 rfl (lv_at hl 1 rfl) ?_
      obtain ⟨hq40, h⟩ := chk_h h
      refine va_lald hx hb hK hP 0 0 rfl rfl hq40 dX9_square_40 ?_
      obtain ⟨r41, hc41, h⟩ := obn_h h
      have hPc : va_P D vwCl [] H := fun k q h => by simp at h
      refine rd_callV (As := [.long (f_t_forms_j20 p0.toNatClampNeg), .long (f_t_forms_j20 p0.toNatClampNeg)]) (rest := []) hcf (c_X9_isTooHigh l D cyJ a_t (f_t_forms_j20 p0.toNatClampNeg) (f_t_forms_j20 p0.toNatClampNeg) r41 hc41) (cwV 2 hts gX9_square_X9_isTooHigh rfl rfl rfl ydX9_isTooHigh ⟨Nat.le_of_ble_eq_true rfl, Nat.le_of_ble_eq_true rfl⟩) hnw hPc hK0 (va_recv hK hP (ci := 8) (q0 := 1) rfl rfl) rfl hl.1 rfl (Nat.le_of_ble_eq_true rfl) dX9_square_41 ⟨Nat.le_of_ble_eq_true rfl, Nat.le_of_ble_eq_true rfl⟩ ?_
      refine lv_if_eq (tgt := 54) hx hb dX9_square_44 (by decide) (fun c44 => ?_) (fun c44 => ?_)
      · have h := it_ c44 h
        refine lv_aload_n hx hb dX9_square_54 rfl (lv_at hl 0 rfl) ?_
        refine lv_iload_n hx hb dX9_square_55 rfl (lv_at hl 2 rfl) ?_
        refine lv_aload_n hx hb dX9_square_56 rfl (lv_at hl 0 rfl) ?_
        refine va_get (D := D) (ci := 8) (v := .ref a_t_forms) (C := RX9) (T := TX9) (N := 9) hx hb hts hinX9 hown hK hP 1 rfl rfl 0 (by decide) hfl9 (fun _ h9 => h9) rfl dX9_square_57 ?_
        refine lv_iload_n hx hb dX9_square_60 rfl (lv_at hl 1 rfl) ?_
        obtain ⟨hq61, h⟩ := chk_h h
        refine va_lald hx hb hK hP 0 0 rfl rfl hq61 dX9_square_61 ?_
        refine lv_aload_n hx hb dX9_square_62 rfl (lv_at hl 0 rfl) ?_
        refine va_get (D := D) (ci := 8) (v := .ref a_t_forms) (C := RX9) (T := TX9) (N := 9) hx hb hts hinX9 hown hK hP 1 rfl rfl 0 (by decide) hfl9 (fun _ h9 => h9) rfl dX9_square_63 ?_
        refine lv_iload_n hx hb dX9_square_66 rfl (lv_at hl 1 rfl) ?_
        obtain ⟨hq67, h⟩ := chk_h h
        refine va_lald hx hb hK hP 0 0 rfl rfl hq67 dX9_square_67 ?_
        obtain ⟨r68, hc68, h⟩ := obn_h h
        refine pz_callS (As := [.long (f_t_forms_j20 p0.toNatClampNeg), .long (f_t_forms_j20 p0.toNatClampNeg)]) (rest := [.int p1, .ref a_t]) hcf (c_X9_productOf l (f_t_forms_j20 p0.toNatClampNeg) (f_t_forms_j20 p0.toNatClampNeg) r68 hc68) (va_cwS 2 hts gX9_square_X9_productOf rfl rfl rfl ydX9_productOf ⟨Nat.le_of_ble_eq_true rfl, Nat.le_of_ble_eq_true rfl⟩) hnw rfl hl.1 rfl (Nat.le_of_ble_eq_true rfl) dX9_square_68 ⟨Nat.le_of_ble_eq_true rfl, Nat.le_of_ble_eq_true rfl⟩ ?_
        obtain ⟨r71, c_t_acts_71, f_t_forms_71, hc71, h⟩ := obn3_h h
        have hPc := hP.sub (ws' := [(a_t, .inr (8, [.ref a_t_forms, .ref a_t_roll, .int c_t_many, .long c_t_taps, .int c_t_cells, .int c_t_acts_j20, .int c_t_refused_j20, .int c_t_knocks, .int c_t_thrown_20])), (a_t_forms, .inl (cyJ, 6, .inr (.inl f_t_forms_j20)))]) [1, 0] rfl
        have hDc := hD.sub (ws' := [(a_t, .inr (8, [.ref a_t_forms, .ref a_t_roll, .int c_t_many, .long c_t_taps, .int c_t_cells, .int c_t_acts_j20, .int c_t_refused_j20, .int c_t_knocks, .int c_t_thrown_20])), (a_t_forms, .inl (cyJ, 6, .inr (.inl f_t_forms_j20)))]) [1, 0] (by decide) rfl
        refine hp_i (w1 := [(a_t, .inr (8, [.ref a_t_forms, .ref a_t_roll, .int c_t_many, .long c_t_taps, .int c_t_cells, .int c_t_acts_71, .int c_t_refused_j20, .int c_t_knocks, .int c_t_thrown_20])), (a_t_forms, .inl (cyJ, 6, .inr (.inl f_t_forms_71)))]) (wr := []) (va_runV (As := [.int p1, .long r68]) (rest := []) hcf (c_X9_give l D cyJ H.size a_t a_t_forms a_t_roll c_t_many c_t_taps c_t_cells c_t_acts_j20 c_t_refused_j20 c_t_knocks c_t_thrown_20 f_t_forms_j20 p1 r68 r71 c_t_acts_71 f_t_forms_71 hc71) (cwV 2 hts gX9_square_X9_give rfl rfl rfl ydX9_give ⟨Nat.le_of_ble_eq_true rfl, Nat.le_of_ble_eq_true rfl⟩) ⟨bl_PD, va_recv hK hP (ci := 8) (q0 := 1) rfl rfl, pr_PD hPc hK0 hDc hnw⟩ rfl rfl hl.1 rfl (lv_room (Nat.le_of_ble_eq_true rfl)) dX9_square_71 ⟨Nat.le_of_ble_eq_true rfl, Nat.le_of_ble_eq_true rfl⟩) hP hD hS hA [1, 0] [] rfl rfl (by decide) (by decide) (fun H locs hP hD hS => ?_)
        have hP : va_P D vwCl [(a_t, .inr (8, [.ref a_t_forms, .ref a_t_roll, .int c_t_many, .long c_t_taps, .int c_t_cells, .int c_t_acts_71, .int c_t_refused_j20, .int c_t_knocks, .int c_t_thrown_20])), (a_t_forms, .inl (cyJ, 6, .inr (.inl f_t_forms_71)))] H := hP
        have hD : va_D A [(a_t, .inr (8, [.ref a_t_forms, .ref a_t_roll, .int c_t_many, .long c_t_taps, .int c_t_cells, .int c_t_acts_71, .int c_t_refused_j20, .int c_t_knocks, .int c_t_thrown_20])), (a_t_forms, .inl (cyJ, 6, .inr (.inl f_t_forms_71)))] := hD
        obtain ⟨e0, e1, e2, e3, e4⟩ := tup5 h
        subst e0
        subst e1
        subst e2
        subst e3
        subst e4
        have hP9 : va_P D vwCl [(a_t, .inr (8, [.ref a_t_forms, .ref a_t_roll, .int c_t_many, .long c_t_taps, .int c_t_cells, .int c_t_acts_71, .int c_t_refused_j20, .int c_t_knocks, .int c_t_thrown_20])), (a_t_forms, .inl (cyJ, 6, .inr (.inl f_t_forms_71)))] H := hP.sub [0, 1] rfl
        have hD9 : va_D A [(a_t, .inr (8, [.ref a_t_forms, .ref a_t_roll, .int c_t_many, .long c_t_taps, .int c_t_cells, .int c_t_acts_71, .int c_t_refused_j20, .int c_t_knocks, .int c_t_thrown_20])), (a_t_forms, .inl (cyJ, 6, .inr (.inl f_t_forms_71)))] := hD.sub [0, 1] (by decide) rfl
        exact W.iret hx hb hr (fun t ht hW => ⟨⟨_, (), rfl, rfl, wQA_of ht hP9 hD9⟩, hS.F ht⟩) hS.2.2 dX9_square_74
      · have h := if_ c44 h
        refine lv_aload_n hx hb dX9_square_47 rfl (lv_at hl 0 rfl) ?_
        obtain ⟨r48, c_t_refused_48, hc48, h⟩ := obn2_h h
        have hPc := hP.sub (ws' := [(a_t, .inr (8, [.ref a_t_forms, .ref a_t_roll, .int c_t_many, .long c_t_taps, .int c_t_cells, .int c_t_acts_j20, .int c_t_refused_j20, .int c_t_knocks, .int c_t_thrown_20]))]) [1] rfl
        have hDc := hD.sub (ws' := [(a_t, .inr (8, [.ref a_t_forms, .ref a_t_roll, .int c_t_many, .long c_t_taps, .int c_t_cells, .int c_t_acts_j20, .int c_t_refused_j20, .int c_t_knocks, .int c_t_thrown_20]))]) [1] (by decide) rfl
        refine hp_i (w1 := [(a_t, .inr (8, [.ref a_t_forms, .ref a_t_roll, .int c_t_many, .long c_t_taps, .int c_t_cells, .int c_t_acts_j20, .int c_t_refused_48, .int c_t_knocks, .int c_t_thrown_20]))]) (wr := [(a_t_forms, .inl (cyJ, 6, .inr (.inl f_t_forms_j20)))]) (va_runV (As := []) (rest := []) hcf (c_X9_no l D cyJ H.size a_t a_t_forms a_t_roll c_t_many c_t_taps c_t_cells c_t_acts_j20 c_t_refused_j20 c_t_knocks c_t_thrown_20 r48 c_t_refused_48 hc48) (cwV 0 hts gX9_square_X9_no rfl rfl rfl ydX9_no ⟨Nat.le_of_ble_eq_true rfl, Nat.le_of_ble_eq_true rfl⟩) ⟨bl_PD, va_recv hK hP (ci := 8) (q0 := 1) rfl rfl, pr_PD hPc hK0 hDc hnw⟩ rfl rfl hl.1 rfl (lv_room (Nat.le_of_ble_eq_true rfl)) dX9_square_48 ⟨Nat.le_of_ble_eq_true rfl, Nat.le_of_ble_eq_true rfl⟩) hP hD hS hA [1] [0] rfl rfl (by decide) (by decide) (fun H locs hP hD hS => ?_)
        have hP : va_P D vwCl [(a_t_forms, .inl (cyJ, 6, .inr (.inl f_t_forms_j20))), (a_t, .inr (8, [.ref a_t_forms, .ref a_t_roll, .int c_t_many, .long c_t_taps, .int c_t_cells, .int c_t_acts_j20, .int c_t_refused_48, .int c_t_knocks, .int c_t_thrown_20]))] H := hP
        have hD : va_D A [(a_t_forms, .inl (cyJ, 6, .inr (.inl f_t_forms_j20))), (a_t, .inr (8, [.ref a_t_forms, .ref a_t_roll, .int c_t_many, .long c_t_taps, .int c_t_cells, .int c_t_acts_j20, .int c_t_refused_48, .int c_t_knocks, .int c_t_thrown_20]))] := hD
        refine lv_goto (tgt := 74) hx hb dX9_square_51 (by decide) ?_
        obtain ⟨e0, e1, e2, e3, e4⟩ := tup5 h
        subst e0
        subst e1
        subst e2
        subst e3
        subst e4
        have hP9 : va_P D vwCl [(a_t, .inr (8, [.ref a_t_forms, .ref a_t_roll, .int c_t_many, .long c_t_taps, .int c_t_cells, .int c_t_acts_j20, .int c_t_refused_48, .int c_t_knocks, .int c_t_thrown_20])), (a_t_forms, .inl (cyJ, 6, .inr (.inl f_t_forms_j20)))] H := hP.sub [1, 0] rfl
        have hD9 : va_D A [(a_t, .inr (8, [.ref a_t_forms, .ref a_t_roll, .int c_t_many, .long c_t_taps, .int c_t_cells, .int c_t_acts_j20, .int c_t_refused_48, .int c_t_knocks, .int c_t_thrown_20])), (a_t_forms, .inl (cyJ, 6, .inr (.inl f_t_forms_j20)))] := hD.sub [1, 0] (by decide) rfl
        exact W.iret hx hb hr (fun t ht hW => ⟨⟨_, (), rfl, rfl, wQA_of ht hP9 hD9⟩, hS.F ht⟩) hS.2.2 dX9_square_74
    · have h := if_ c23 h
      refine lv_iconst (v := 0) hx hb dX9_square_26 (by decide) ?_
      obtain ⟨e0, e1, e2, e3, e4⟩ := tup5 h
      subst e0
      subst e1
      subst e2
      subst e3
      subst e4
      have hP9 : va_P D vwCl [(a_t, .inr (8, [.ref a_t_forms, .ref a_t_roll, .int c_t_many, .long c_t_taps, .int c_t_cells, .int c_t_acts_j20, .int c_t_refused_j20, .int c_t_knocks, .int c_t_thrown_20])), (a_t_forms, .inl (cyJ, 6, .inr (.inl f_t_forms_j20)))] H := hP.sub [1, 0] rfl
      have hD9 : va_D A [(a_t, .inr (8, [.ref a_t_forms, .ref a_t_roll, .int c_t_many, .long c_t_taps, .int c_t_cells, .int c_t_acts_j20, .int c_t_refused_j20, .int c_t_knocks, .int c_t_thrown_20])), (a_t_forms, .inl (cyJ, 6, .inr (.inl f_t_forms_j20)))] := hD.sub [1, 0] (by decide) rfl
      exact W.iret hx hb hr (fun t ht hW => ⟨⟨_, (), rfl, rfl, wQA_of ht hP9 hD9⟩, hS.F ht⟩) hS.2.2 dX9_square_27
  have hj15 : ∀ (c_t_acts_j15 : Int32) (c_t_refused_j15 : Int32) (c_t_thrown_j15 : Int32) (f_t_forms_j15 : Nat → Int64), J_X9_square_15 p0 p1 c_t_acts_j15 c_t_refused_j15 c_t_thrown_j15 f_t_forms_j15 = some (r0, o_c_t_acts, o_c_t_refused, o_c_t_thrown, o_f_t_forms) → ∀ (H : Heap) (locs : List Loc), va_P D vwCl [(a_t, .inr (8, [.ref a_t_forms, .ref a_t_roll, .int c_t_many, .long c_t_taps, .int c_t_cells, .int c_t_acts_j15, .int c_t_refused_j15, .int c_t_knocks, .int c_t_thrown_j15])), (a_t_forms, .inl (cyJ, 6, .inr (.inl f_t_forms_j15)))] H → va_D A [(a_t, .inr (8, [.ref a_t_forms, .ref a_t_roll, .int c_t_many, .long c_t_taps, .int c_t_cells, .int c_t_acts_j15, .int c_t_refused_j15, .int c_t_knocks, .int c_t_thrown_j15])), (a_t_forms, .inl (cyJ, 6, .inr (.inl f_t_forms_j15)))] → va_S A s.heap H locs → ∀ (ls : Array Slot), lv_has ls 3 [(0, .ref a_t), (1, .int p0), (2, .int p1)] → W p l e rmX9_square s m ([.ref a_t, .int p0, .int p1] : List Value).toArray below meth c H locs 0 0 (MQ below (va_Qi (fun (r : Int32) (_ : Unit) => r = r0) (fun _ t => wQA D [(a_t, .inr (8, [.ref a_t_forms, .ref a_t_roll, .int c_t_many, .long c_t_taps, .int c_t_cells, .int o_c_t_acts, .int o_c_t_refused, .int c_t_knocks, .int o_c_t_thrown])), (a_t_forms, .inl (cyJ, 6, .inr (.inl o_f_t_forms)))] A t) A) ([.ref a_t, .int p0, .int p1] : List Value).toArray s 0 0 A) (F0 m 15 ls [.ref a_t]) := by
    intro c_t_acts_j15 c_t_refused_j15 c_t_thrown_j15 f_t_forms_j15 h H locs hP hD hS ls hl
    unfold J_X9_square_15 at h
    refine lv_iconst (v := 1) hx hb dX9_square_15 (by decide) ?_
    refine lv_goto (tgt := 20) hx hb dX9_square_16 (by decide) ?_
    exact hj20 (1 : Int32) c_t_acts_j15 c_t_refused_j15 c_t_thrown_j15 f_t_forms_j15 h _ _ (hP.sub [0, 1] rfl) (hD.sub [0, 1] (by decide) rfl) hS ls (lv_sub hl [0, 1, 2] rfl)
  refine lv_aload_n hx hb dX9_square_0 rfl (lv_at hl 0 rfl) ?_
  refine lv_iload_n hx hb dX9_square_1 rfl (lv_at hl 1 rfl) ?_
  obtain ⟨r2, hc2, h⟩ := obn_h h
  refine pz_callS (As := [.int p0]) (rest := [.ref a_t]) hcf (c_X9_isForm l p0 r2 hc2) (va_cwS 1 hts gX9_square_X9_isForm rfl rfl rfl ydX9_isForm ⟨Nat.le_of_ble_eq_true rfl, Nat.le_of_ble_eq_true rfl⟩) hnw rfl hl.1 rfl (Nat.le_of_ble_eq_true rfl) dX9_square_2 ⟨Nat.le_of_ble_eq_true rfl, Nat.le_of_ble_eq_true rfl⟩ ?_
  refine lv_if_eq (tgt := 15) hx hb dX9_square_5 (by decide) (fun c5 => ?_) (fun c5 => ?_)
  · have h := it_ c5 h
    exact hj15 c_t_acts c_t_refused c_t_thrown f_t_forms h _ _ (hP.sub [0, 1] rfl) (hD.sub [0, 1] (by decide) rfl) hS ls (lv_sub hl [0, 1, 2] rfl)
  · have h := if_ c5 h
    refine lv_iload_n hx hb dX9_square_8 rfl (lv_at hl 2 rfl) ?_
    obtain ⟨r9, hc9, h⟩ := obn_h h
    refine pz_callS (As := [.int p1]) (rest := [.ref a_t]) hcf (c_X9_isForm l p1 r9 hc9) (va_cwS 1 hts gX9_square_X9_isForm rfl rfl rfl ydX9_isForm ⟨Nat.le_of_ble_eq_true rfl, Nat.le_of_ble_eq_true rfl⟩) hnw rfl hl.1 rfl (Nat.le_of_ble_eq_true rfl) dX9_square_9 ⟨Nat.le_of_ble_eq_true rfl, Nat.le_of_ble_eq_true rfl⟩ ?_
    refine lv_if_ne (tgt := 19) hx hb dX9_square_12 (by decide) (fun c12 => ?_) (fun c12 => ?_)
    · have h := if_ c12 h
      refine lv_iconst (v := 0) hx hb dX9_square_19 (by decide) ?_
      exact hj20 (0 : Int32) c_t_acts c_t_refused c_t_thrown f_t_forms h _ _ (hP.sub [0, 1] rfl) (hD.sub [0, 1] (by decide) rfl) hS ls (lv_sub hl [0, 1, 2] rfl)
    · have h := it_ c12 h
      exact hj15 c_t_acts c_t_refused c_t_thrown f_t_forms h _ _ (hP.sub [0, 1] rfl) (hD.sub [0, 1] (by decide) rfl) hS ls (lv_sub hl [0, 1, 2] rfl)

noncomputable abbrev rmX9_divide : Room := { frames := 4, cells := 0, slots := 0, locals := 93 }
theorem ydX9_divide : yX9_divide.cls = RX9 ∧ yX9_divide.cls ≠ "java/lang/invoke/MethodHandle" ∧ yX9_divide.cls ≠ "java/lang/invoke/VarHandle" ∧ (parseMethodDescriptor yX9_divide.desc).map (fun d => d.parameters.length) = some 3 := by decide +kernel
noncomputable def F_X9_divide (c_t_acts : Int32) (c_t_refused : Int32) (f_t_forms : Nat → Int64) (p0 : Int32) (p1 : Int32) (p2 : Int32) : Option (Int32 × Int32 × Int32 × Int32 × (Nat → Int64)) :=
 obn2 (F_X9_areNot p0 p1 p2) (fun r4 c_t_thrown_4 =>
 (if r4 = 0 then
 chk (¬ (p1 < 0 ∨ 6 ≤ p1.toNatClampNeg)) (
 (if (f_t_forms p1.toNatClampNeg) = (0 : Int64) then
 obn2 (F_X9_no c_t_refused) (fun r24 c_t_refused_24 =>
 some (r24, c_t_acts, c_t_refused_24, c_t_thrown_4, f_t_forms))
else
 chk (¬ (p0 < 0 ∨ 6 ≤ p0.toNatClampNeg)) (
 chk (¬ (p1 < 0 ∨ 6 ≤ p1.toNatClampNeg)) (
 obn (F_X9_quotientOf (f_t_forms p0.toNatClampNeg) (f_t_forms p1.toNatClampNeg)) (fun r44 =>
 obn3 (F_X9_give c_t_acts f_t_forms p2 r44) (fun r47 c_t_acts_47 f_t_forms_47 =>
 some (r47, c_t_acts_47, c_t_refused, c_t_thrown_4, f_t_forms_47)))))))
else
 some ((0 : Int32), c_t_acts, c_t_refused, c_t_thrown_4, f_t_forms)))
set_option maxHeartbeats 4000000 in
set_option maxRecDepth 100000 in
theorem c_X9_divide (l : Launch) (D : va_G) (cyJ : ClassId) (sz : Nat) (a_t : Nat) (a_t_forms : Nat) (a_t_roll : Nat) (c_t_many : Int32) (c_t_taps : Int64) (c_t_cells : Int32) (c_t_acts : Int32) (c_t_refused : Int32) (c_t_knocks : Int32) (c_t_thrown : Int32) (f_t_forms : Nat → Int64) (p0 : Int32) (p1 : Int32) (p2 : Int32) (r0 : Int32) (o_c_t_acts : Int32) (o_c_t_refused : Int32) (o_c_t_thrown : Int32) (o_f_t_forms : Nat → Int64) (hF : F_X9_divide c_t_acts c_t_refused f_t_forms p0 p1 p2 = some (r0, o_c_t_acts, o_c_t_refused, o_c_t_thrown, o_f_t_forms)) : Met l yX9_divide wsX9_divide rmX9_divide (va_Pc [.ref a_t, .int p0, .int p1, .int p2] (wPD D [(cyJ, .long)] [(a_t, .inr (8, [.ref a_t_forms, .ref a_t_roll, .int c_t_many, .long c_t_taps, .int c_t_cells, .int c_t_acts, .int c_t_refused, .int c_t_knocks, .int c_t_thrown])), (a_t_forms, .inl (cyJ, 6, .inr (.inl f_t_forms)))] sz)) (va_Qi (fun (r : Int32) (_ : Unit) => r = r0) (fun _ t => wQA D [(a_t, .inr (8, [.ref a_t_forms, .ref a_t_roll, .int c_t_many, .long c_t_taps, .int c_t_cells, .int o_c_t_acts, .int o_c_t_refused, .int c_t_knocks, .int o_c_t_thrown])), (a_t_forms, .inl (cyJ, 6, .inr (.inl o_f_t_forms)))] (va_A [(a_t, .inr (8, [.ref a_t_forms, .ref a_t_roll, .int c_t_many, .long c_t_taps, .int c_t_cells, .int c_t_acts, .int c_t_refused, .int c_t_knocks, .int c_t_thrown])), (a_t_forms, .inl (cyJ, 6, .inr (.inl f_t_forms)))] sz) t) (va_A [(a_t, .inr (8, [.ref a_t_forms, .ref a_t_roll, .int c_t_many, .long c_t_taps, .int c_t_cells, .int c_t_acts, .int c_t_refused, .int c_t_knocks, .int c_t_thrown])), (a_t_forms, .inl (cyJ, 6, .inr (.inl f_t_forms)))] sz)) 0 0 (va_A [(a_t, .inr (8, [.ref a_t_forms, .ref a_t_roll, .int c_t_many, .long c_t_taps, .int c_t_cells, .int c_t_acts, .int c_t_refused, .int c_t_knocks, .int c_t_thrown])), (a_t_forms, .inl (cyJ, 6, .inr (.inl f_t_forms)))] sz) := by
  refine Met.ofW (cc := cX9_divide) (maxL := 4) (ret := (some .int)) (by decide) rfl ?_
  intro p e s m args below meth c s₁ B hml hv
  obtain ⟨rfl, hsz, hP, hK, hD0, hnw⟩ := hv
  have hx := B.exec
  have hb := B.bytes
  have hr := B.returns
  have hts := atoms_spec (ws := wsX9_divide) B.pre
  have hown : s.vm.findClass RX9 = some m.cls := findClass_of_methodNamed B.named
  have hlocks := B.notSynchronized
  have hcf : CallFix _ _ _ _ _ _ _ _ _ := ⟨hx, hb, hml, hown, hts⟩
  have hinX9 : ∀ w ∈ u_ws RX9 TX9 9, w ∈ wsX9_divide := by decide +kernel
  have hfl9 := hts (.fieldLink RX9 9 "FormwheelModel" "forms" "[J") (by decide +kernel)
  subst hsz
  have hD := hD0.self (sz := s.heap.size)
  generalize hAe : va_A [(a_t, .inr (8, [.ref a_t_forms, .ref a_t_roll, .int c_t_many, .long c_t_taps, .int c_t_cells, .int c_t_acts, .int c_t_refused, .int c_t_knocks, .int c_t_thrown])), (a_t_forms, .inl (cyJ, 6, .inr (.inl f_t_forms)))] s.heap.size = A at hD ⊢
  have hA : ∀ q : Nat, s.heap.size ≤ q → A q := fun q h => by rw [← hAe]; exact Or.inr h
  have hS : va_S A s.heap s.heap [] := va_S.rf
  have hP : va_P D vwCl [(a_t, .inr (8, [.ref a_t_forms, .ref a_t_roll, .int c_t_many, .long c_t_taps, .int c_t_cells, .int c_t_acts, .int c_t_refused, .int c_t_knocks, .int c_t_thrown])), (a_t_forms, .inl (cyJ, 6, .inr (.inl f_t_forms)))] s.heap := hP
  have hK0 := hK
  have hl := lv_entry ([.ref a_t, .int p0, .int p1, .int p2]) (n := 4) (Nat.le_of_ble_eq_true rfl)
  rw [lg_entry_eq]
  generalize (lg_sl ([.ref a_t, .int p0, .int p1, .int p2]) ++ List.replicate (4 - (lg_sl ([.ref a_t, .int p0, .int p1, .int p2])).length) Slot.unset).toArray = ls at hl ⊢
  have hl : lv_has ls 4 [(0, .ref a_t), (1, .int p0), (2, .int p1), (3, .int p2)] := hl
  have h := hF
  clear hF
  unfold F_X9_divide at h
  refine lv_aload_n hx hb dX9_divide_0 rfl (lv_at hl 0 rfl) ?_
  refine lv_iload_n hx hb dX9_divide_1 rfl (lv_at hl 1 rfl) ?_
  refine lv_iload_n hx hb dX9_divide_2 rfl (lv_at hl 2 rfl) ?_
  refine lv_iload_n hx hb dX9_divide_3 rfl (lv_at hl 3 rfl) ?_
  obtain ⟨r4, c_t_thrown_4, hc4, h⟩ := obn2_h h
  have hPc := hP.sub (ws' := [(a_t, .inr (8, [.ref a_t_forms, .ref a_t_roll, .int c_t_many, .long c_t_taps, .int c_t_cells, .int c_t_acts, .int c_t_refused, .int c_t_knocks, .int c_t_thrown]))]) [0] rfl
  have hDc := hD.sub (ws' := [(a_t, .inr (8, [.ref a_t_forms, .ref a_t_roll, .int c_t_many, .long c_t_taps, .int c_t_cells, .int c_t_acts, .int c_t_refused, .int c_t_knocks, .int c_t_thrown]))]) [0] (by decide) rfl
  refine hp_i (w1 := [(a_t, .inr (8, [.ref a_t_forms, .ref a_t_roll, .int c_t_many, .long c_t_taps, .int c_t_cells, .int c_t_acts, .int c_t_refused, .int c_t_knocks, .int c_t_thrown_4]))]) (wr := [(a_t_forms, .inl (cyJ, 6, .inr (.inl f_t_forms)))]) (va_runV (As := [.int p0, .int p1, .int p2]) (rest := []) hcf (c_X9_areNot l D cyJ s.heap.size a_t a_t_forms a_t_roll c_t_many c_t_taps c_t_cells c_t_acts c_t_refused c_t_knocks c_t_thrown p0 p1 p2 r4 c_t_thrown_4 hc4) (cwV 3 hts gX9_divide_X9_areNot rfl rfl rfl ydX9_areNot ⟨Nat.le_of_ble_eq_true rfl, Nat.le_of_ble_eq_true rfl⟩) ⟨bl_PD, va_recv hK hP (ci := 8) (q0 := 0) rfl rfl, pr_PD hPc hK0 hDc hnw⟩ rfl rfl hl.1 rfl (lv_room (Nat.le_of_ble_eq_true rfl)) dX9_divide_4 ⟨Nat.le_of_ble_eq_true rfl, Nat.le_of_ble_eq_true rfl⟩) hP hD hS hA [0] [1] rfl rfl (by decide) (by decide) (fun H locs hP hD hS => ?_)
  have hP : va_P D vwCl [(a_t_forms, .inl (cyJ, 6, .inr (.inl f_t_forms))), (a_t, .inr (8, [.ref a_t_forms, .ref a_t_roll, .int c_t_many, .long c_t_taps, .int c_t_cells, .int c_t_acts, .int c_t_refused, .int c_t_knocks, .int c_t_thrown_4]))] H := hP
  have hD : va_D A [(a_t_forms, .inl (cyJ, 6, .inr (.inl f_t_forms))), (a_t, .inr (8, [.ref a_t_forms, .ref a_t_roll, .int c_t_many, .long c_t_taps, .int c_t_cells, .int c_t_acts, .int c_t_refused, .int c_t_knocks, .int c_t_thrown_4]))] := hD
  refine lv_if_eq (tgt := 12) hx hb dX9_divide_7 (by decide) (fun c7 => ?_) (fun c7 => ?_)
  · have h := it_ c7 h
    refine lv_aload_n hx hb dX9_divide_12 rfl (lv_at hl 0 rfl) ?_
    refine va_get (D := D) (ci := 8) (v := .ref a_t_forms) (C := RX9) (T := TX9) (N := 9) hx hb hts hinX9 hown hK hP 1 rfl rfl 0 (by decide) hfl9 (fun _ h9 => h9) rfl dX9_divide_13 ?_
    refine lv_iload_n hx hb dX9_divide_16 rfl (lv_at hl 2 rfl) ?_
    obtain ⟨hq17, h⟩ := chk_h h
    refine va_lald hx hb hK hP 0 0 rfl rfl hq17 dX9_divide_17 ?_
    refine lv_lconst (v := 0) hx hb dX9_divide_18 (by decide) ?_
    refine W.lcmp hx hb dX9_divide_19 ?_
    refine lv_if_ne (tgt := 30) hx hb dX9_divide_20 (by decide) (fun c20 => ?_) (fun c20 => ?_)
    · have c20 := fun z => c20 ((lg_cmp_eq _ _).mpr z)
      have h := if_ c20 h
      refine lv_aload_n hx hb dX9_divide_30 rfl (lv_at hl 0 rfl) ?_
      refine lv_iload_n hx hb dX9_divide_31 rfl (lv_at hl 3 rfl) ?_
      refine lv_aload_n hx hb dX9_divide_32 rfl (lv_at hl 0 rfl) ?_
      refine va_get (D := D) (ci := 8) (v := .ref a_t_forms) (C := RX9) (T := TX9) (N := 9) hx hb hts hinX9 hown hK hP 1 rfl rfl 0 (by decide) hfl9 (fun _ h9 => h9) rfl dX9_divide_33 ?_
      refine lv_iload_n hx hb dX9_divide_36 rfl (lv_at hl 1 rfl) ?_
      obtain ⟨hq37, h⟩ := chk_h h
      refine va_lald hx hb hK hP 0 0 rfl rfl hq37 dX9_divide_37 ?_
      refine lv_aload_n hx hb dX9_divide_38 rfl (lv_at hl 0 rfl) ?_
      refine va_get (D := D) (ci := 8) (v := .ref a_t_forms) (C := RX9) (T := TX9) (N := 9) hx hb hts hinX9 hown hK hP 1 rfl rfl 0 (by decide) hfl9 (fun _ h9 => h9) rfl dX9_divide_39 ?_
      refine lv_iload_n hx hb dX9_divide_42 rfl (lv_at hl 2 rfl) ?_
      obtain ⟨hq43, h⟩ := chk_h h
      refine va_lald hx hb hK hP 0 0 rfl rfl hq43 dX9_divide_43 ?_
      obtain ⟨r44, hc44, h⟩ := obn_h h
      refine pz_callS (As := [.long (f_t_forms p0.toNatClampNeg), .long (f_t_forms p1.toNatClampNeg)]) (rest := [.int p2, .ref a_t]) hcf (c_X9_quotientOf l (f_t_forms p0.toNatClampNeg) (f_t_forms p1.toNatClampNeg) r44 hc44) (va_cwS 2 hts gX9_divide_X9_quotientOf rfl rfl rfl ydX9_quotientOf ⟨Nat.le_of_ble_eq_true rfl, Nat.le_of_ble_eq_true rfl⟩) hnw rfl hl.1 rfl (Nat.le_of_ble_eq_true rfl) dX9_divide_44 ⟨Nat.le_of_ble_eq_true rfl, Nat.le_of_ble_eq_true rfl⟩ ?_
      obtain ⟨r47, c_t_acts_47, f_t_forms_47, hc47, h⟩ := obn3_h h
      have hPc := hP.sub (ws' := [(a_t, .inr (8, [.ref a_t_forms, .ref a_t_roll, .int c_t_many, .long c_t_taps, .int c_t_cells, .int c_t_acts, .int c_t_refused, .int c_t_knocks, .int c_t_thrown_4])), (a_t_forms, .inl (cyJ, 6, .inr (.inl f_t_forms)))]) [1, 0] rfl
      have hDc := hD.sub (ws' := [(a_t, .inr (8, [.ref a_t_forms, .ref a_t_roll, .int c_t_many, .long c_t_taps, .int c_t_cells, .int c_t_acts, .int c_t_refused, .int c_t_knocks, .int c_t_thrown_4])), (a_t_forms, .inl (cyJ, 6, .inr (.inl f_t_forms)))]) [1, 0] (by decide) rfl
      refine hp_i (w1 := [(a_t, .inr (8, [.ref a_t_forms, .ref a_t_roll, .int c_t_many, .long c_t_taps, .int c_t_cells, .int c_t_acts_47, .int c_t_refused, .int c_t_knocks, .int c_t_thrown_4])), (a_t_forms, .inl (cyJ, 6, .inr (.inl f_t_forms_47)))]) (wr := []) (va_runV (As := [.int p2, .long r44]) (rest := []) hcf (c_X9_give l D cyJ H.size a_t a_t_forms a_t_roll c_t_many c_t_taps c_t_cells c_t_acts c_t_refused c_t_knocks c_t_thrown_4 f_t_forms p2 r44 r47 c_t_acts_47 f_t_forms_47 hc47) (cwV 2 hts gX9_divide_X9_give rfl rfl rfl ydX9_give ⟨Nat.le_of_ble_eq_true rfl, Nat.le_of_ble_eq_true rfl⟩) ⟨bl_PD, va_recv hK hP (ci := 8) (q0 := 1) rfl rfl, pr_PD hPc hK0 hDc hnw⟩ rfl rfl hl.1 rfl (lv_room (Nat.le_of_ble_eq_true rfl)) dX9_divide_47 ⟨Nat.le_of_ble_eq_true rfl, Nat.le_of_ble_eq_true rfl⟩) hP hD hS hA [1, 0] [] rfl rfl (by decide) (by decide) (fun H locs hP hD hS => ?_)
      have hP : va_P D vwCl [(a_t, .inr (8, [.ref a_t_forms, .ref a_t_roll, .int c_t_many, .long c_t_taps, .int c_t_cells, .int c_t_acts_47, .int c_t_refused, .int c_t_knocks, .int c_t_thrown_4])), (a_t_forms, .inl (cyJ, 6, .inr (.inl f_t_forms_47)))] H := hP
      have hD : va_D A [(a_t, .inr (8, [.ref a_t_forms, .ref a_t_roll, .int c_t_many, .long c_t_taps, .int c_t_cells, .int c_t_acts_47, .int c_t_refused, .int c_t_knocks, .int c_t_thrown_4])), (a_t_forms, .inl (cyJ, 6, .inr (.inl f_t_forms_47)))] := hD
      obtain ⟨e0, e1, e2, e3, e4⟩ := tup5 h
      subst e0
      subst e1
      subst e2
      subst e3
      subst e4
      have hP9 : va_P D vwCl [(a_t, .inr (8, [.ref a_t_forms, .ref a_t_roll, .int c_t_many, .long c_t_taps, .int c_t_cells, .int c_t_acts_47, .int c_t_refused, .int c_t_knocks, .int c_t_thrown_4])), (a_t_forms, .inl (cyJ, 6, .inr (.inl f_t_forms_47)))] H := hP.sub [0, 1] rfl
      have hD9 : va_D A [(a_t, .inr (8, [.ref a_t_forms, .ref a_t_roll, .int c_t_many, .long c_t_taps, .int c_t_cells, .int c_t_acts_47, .int c_t_refused, .int c_t_knocks, .int c_t_thrown_4])), (a_t_forms, .inl (cyJ, 6, .inr (.inl f_t_forms_47)))] := hD.sub [0, 1] (by decide) rfl
      exact W.iret hx hb hr (fun t ht hW => ⟨⟨_, (), rfl, rfl, wQA_of ht hP9 hD9⟩, hS.F ht⟩) hS.2.2 dX9_divide_50
    · have c20 := (lg_cmp_eq _ _).mp c20
      have h := it_ c20 h
      refine lv_aload_n hx hb dX9_divide_23 rfl (lv_at hl 0 rfl) ?_
      obtain ⟨r24, c_t_refused_24, hc24, h⟩ := obn2_h h
      have hPc := hP.sub (ws' := [(a_t, .inr (8, [.ref a_t_forms, .ref a_t_roll, .int c_t_many, .long c_t_taps, .int c_t_cells, .int c_t_acts, .int c_t_refused, .int c_t_knocks, .int c_t_thrown_4]))]) [1] rfl
      have hDc := hD.sub (ws' := [(a_t, .inr (8, [.ref a_t_forms, .ref a_t_roll, .int c_t_many, .long c_t_taps, .int c_t_cells, .int c_t_acts, .int c_t_refused, .int c_t_knocks, .int c_t_thrown_4]))]) [1] (by decide) rfl
      refine hp_i (w1 := [(a_t, .inr (8, [.ref a_t_forms, .ref a_t_roll, .int c_t_many, .long c_t_taps, .int c_t_cells, .int c_t_acts, .int c_t_refused_24, .int c_t_knocks, .int c_t_thrown_4]))]) (wr := [(a_t_forms, .inl (cyJ, 6, .inr (.inl f_t_forms)))]) (va_runV (As := []) (rest := []) hcf (c_X9_no l D cyJ H.size a_t a_t_forms a_t_roll c_t_many c_t_taps c_t_cells c_t_acts c_t_refused c_t_knocks c_t_thrown_4 r24 c_t_refused_24 hc24) (cwV 0 hts gX9_divide_X9_no rfl rfl rfl ydX9_no ⟨Nat.le_of_ble_eq_true rfl, Nat.le_of_ble_eq_true rfl⟩) ⟨bl_PD, va_recv hK hP (ci := 8) (q0 := 1) rfl rfl, pr_PD hPc hK0 hDc hnw⟩ rfl rfl hl.1 rfl (lv_room (Nat.le_of_ble_eq_true rfl)) dX9_divide_24 ⟨Nat.le_of_ble_eq_true rfl, Nat.le_of_ble_eq_true rfl⟩) hP hD hS hA [1] [0] rfl rfl (by decide) (by decide) (fun H locs hP hD hS => ?_)
      have hP : va_P D vwCl [(a_t_forms, .inl (cyJ, 6, .inr (.inl f_t_forms))), (a_t, .inr (8, [.ref a_t_forms, .ref a_t_roll, .int c_t_many, .long c_t_taps, .int c_t_cells, .int c_t_acts, .int c_t_refused_24, .int c_t_knocks, .int c_t_thrown_4]))] H := hP
      have hD : va_D A [(a_t_forms, .inl (cyJ, 6, .inr (.inl f_t_forms))), (a_t, .inr (8, [.ref a_t_forms, .ref a_t_roll, .int c_t_many, .long c_t_taps, .int c_t_cells, .int c_t_acts, .int c_t_refused_24, .int c_t_knocks, .int c_t_thrown_4]))] := hD
      refine lv_goto (tgt := 50) hx hb dX9_divide_27 (by decide) ?_
      obtain ⟨e0, e1, e2, e3, e4⟩ := tup5 h
      subst e0
      subst e1
      subst e2
      subst e3
      subst e4
      have hP9 : va_P D vwCl [(a_t, .inr (8, [.ref a_t_forms, .ref a_t_roll, .int c_t_many, .long c_t_taps, .int c_t_cells, .int c_t_acts, .int c_t_refused_24, .int c_t_knocks, .int c_t_thrown_4])), (a_t_forms, .inl (cyJ, 6, .inr (.inl f_t_forms)))] H := hP.sub [1, 0] rfl
      have hD9 : va_D A [(a_t, .inr (8, [.ref a_t_forms, .ref a_t_roll, .int c_t_many, .long c_t_taps, .int c_t_cells, .int c_t_acts, .int c_t_refused_24, .int c_t_knocks, .int c_t_thrown_4])), (a_t_forms, .inl (cyJ, 6, .inr (.inl f_t_forms)))] := hD.sub [1, 0] (by decide) rfl
      exact W.iret hx hb hr (fun t ht hW => ⟨⟨_, (), rfl, rfl, wQA_of ht hP9 hD9⟩, hS.F ht⟩) hS.2.2 dX9_divide_50
  · have h := if_ c7 h
    refine lv_iconst (v := 0) hx hb dX9_divide_10 (by decide) ?_
    obtain ⟨e0, e1, e2, e3, e4⟩ := tup5 h
    subst e0
    subst e1
    subst e2
    subst e3
    subst e4
    have hP9 : va_P D vwCl [(a_t, .inr (8, [.ref a_t_forms, .ref a_t_roll, .int c_t_many, .long c_t_taps, .int c_t_cells, .int c_t_acts, .int c_t_refused, .int c_t_knocks, .int c_t_thrown_4])), (a_t_forms, .inl (cyJ, 6, .inr (.inl f_t_forms)))] H := hP.sub [1, 0] rfl
    have hD9 : va_D A [(a_t, .inr (8, [.ref a_t_forms, .ref a_t_roll, .int c_t_many, .long c_t_taps, .int c_t_cells, .int c_t_acts, .int c_t_refused, .int c_t_knocks, .int c_t_thrown_4])), (a_t_forms, .inl (cyJ, 6, .inr (.inl f_t_forms)))] := hD.sub [1, 0] (by decide) rfl
    exact W.iret hx hb hr (fun t ht hW => ⟨⟨_, (), rfl, rfl, wQA_of ht hP9 hD9⟩, hS.F ht⟩) hS.2.2 dX9_divide_11

noncomputable abbrev rmX9_remain : Room := { frames := 5, cells := 0, slots := 0, locals := 116 }
theorem ydX9_remain : yX9_remain.cls = RX9 ∧ yX9_remain.cls ≠ "java/lang/invoke/MethodHandle" ∧ yX9_remain.cls ≠ "java/lang/invoke/VarHandle" ∧ (parseMethodDescriptor yX9_remain.desc).map (fun d => d.parameters.length) = some 3 := by decide +kernel
noncomputable def F_X9_remain (c_t_acts : Int32) (c_t_refused : Int32) (f_t_forms : Nat → Int64) (p0 : Int32) (p1 : Int32) (p2 : Int32) : Option (Int32 × Int32 × Int32 × Int32 × (Nat → Int64)) :=
 obn2 (F_X9_areNot p0 p1 p2) (fun r4 c_t_thrown_4 =>
 (if r4 = 0 then
 chk (¬ (p1 < 0 ∨ 6 ≤ p1.toNatClampNeg)) (
 (if (f_t_forms p1.toNatClampNeg) = (0 : Int64) then
 obn2 (F_X9_no c_t_refused) (fun r24 c_t_refused_24 =>
 some (r24, c_t_acts, c_t_refused_24, c_t_thrown_4, f_t_forms))
else
 chk (¬ (p0 < 0 ∨ 6 ≤ p0.toNatClampNeg)) (
 chk (¬ (p1 < 0 ∨ 6 ≤ p1.toNatClampNeg)) (
 obn (F_X9_restOf (f_t_forms p0.toNatClampNeg) (f_t_forms p1.toNatClampNeg)) (fun r44 =>
 obn3 (F_X9_give c_t_acts f_t_forms p2 r44) (fun r47 c_t_acts_47 f_t_forms_47 =>
 some (r47, c_t_acts_47, c_t_refused, c_t_thrown_4, f_t_forms_47)))))))
else
 some ((0 : Int32), c_t_acts, c_t_refused, c_t_thrown_4, f_t_forms)))
set_option maxHeartbeats 4000000 in
set_option maxRecDepth 100000 in
theorem c_X9_remain (l : Launch) (D : va_G) (cyJ : ClassId) (sz : Nat) (a_t : Nat) (a_t_forms : Nat) (a_t_roll : Nat) (c_t_many : Int32) (c_t_taps : Int64) (c_t_cells : Int32) (c_t_acts : Int32) (c_t_refused : Int32) (c_t_knocks : Int32) (c_t_thrown : Int32) (f_t_forms : Nat → Int64) (p0 : Int32) (p1 : Int32) (p2 : Int32) (r0 : Int32) (o_c_t_acts : Int32) (o_c_t_refused : Int32) (o_c_t_thrown : Int32) (o_f_t_forms : Nat → Int64) (hF : F_X9_remain c_t_acts c_t_refused f_t_forms p0 p1 p2 = some (r0, o_c_t_acts, o_c_t_refused, o_c_t_thrown, o_f_t_forms)) : Met l yX9_remain wsX9_remain rmX9_remain (va_Pc [.ref a_t, .int p0, .int p1, .int p2] (wPD D [(cyJ, .long)] [(a_t, .inr (8, [.ref a_t_forms, .ref a_t_roll, .int c_t_many, .long c_t_taps, .int c_t_cells, .int c_t_acts, .int c_t_refused, .int c_t_knocks, .int c_t_thrown])), (a_t_forms, .inl (cyJ, 6, .inr (.inl f_t_forms)))] sz)) (va_Qi (fun (r : Int32) (_ : Unit) => r = r0) (fun _ t => wQA D [(a_t, .inr (8, [.ref a_t_forms, .ref a_t_roll, .int c_t_many, .long c_t_taps, .int c_t_cells, .int o_c_t_acts, .int o_c_t_refused, .int c_t_knocks, .int o_c_t_thrown])), (a_t_forms, .inl (cyJ, 6, .inr (.inl o_f_t_forms)))] (va_A [(a_t, .inr (8, [.ref a_t_forms, .ref a_t_roll, .int c_t_many, .long c_t_taps, .int c_t_cells, .int c_t_acts, .int c_t_refused, .int c_t_knocks, .int c_t_thrown])), (a_t_forms, .inl (cyJ, 6, .inr (.inl f_t_forms)))] sz) t) (va_A [(a_t, .inr (8, [.ref a_t_forms, .ref a_t_roll, .int c_t_many, .long c_t_taps, .int c_t_cells, .int c_t_acts, .int c_t_refused, .int c_t_knocks, .int c_t_thrown])), (a_t_forms, .inl (cyJ, 6, .inr (.inl f_t_forms)))] sz)) 0 0 (va_A [(a_t, .inr (8, [.ref a_t_forms, .ref a_t_roll, .int c_t_many, .long c_t_taps, .int c_t_cells, .int c_t_acts, .int c_t_refused, .int c_t_knocks, .int c_t_thrown])), (a_t_forms, .inl (cyJ, 6, .inr (.inl f_t_forms)))] sz) := by
  refine Met.ofW (cc := cX9_remain) (maxL := 4) (ret := (some .int)) (by decide) rfl ?_
  intro p e s m args below meth c s₁ B hml hv
  obtain ⟨rfl, hsz, hP, hK, hD0, hnw⟩ := hv
  have hx := B.exec
  have hb := B.bytes
  have hr := B.returns
  have hts := atoms_spec (ws := wsX9_remain) B.pre
  have hown : s.vm.findClass RX9 = some m.cls := findClass_of_methodNamed B.named
  have hlocks := B.notSynchronized
  have hcf : CallFix _ _ _ _ _ _ _ _ _ := ⟨hx, hb, hml, hown, hts⟩
  have hinX9 : ∀ w ∈ u_ws RX9 TX9 9, w ∈ wsX9_remain := by decide +kernel
  have hfl9 := hts (.fieldLink RX9 9 "FormwheelModel" "forms" "[J") (by decide +kernel)
  subst hsz
  have hD := hD0.self (sz := s.heap.size)
  generalize hAe : va_A [(a_t, .inr (8, [.ref a_t_forms, .ref a_t_roll, .int c_t_many, .long c_t_taps, .int c_t_cells, .int c_t_acts, .int c_t_refused, .int c_t_knocks, .int c_t_thrown])), (a_t_forms, .inl (cyJ, 6, .inr (.inl f_t_forms)))] s.heap.size = A at hD ⊢
  have hA : ∀ q : Nat, s.heap.size ≤ q → A q := fun q h => by rw [← hAe]; exact Or.inr h
  have hS : va_S A s.heap s.heap [] := va_S.rf
  have hP : va_P D vwCl [(a_t, .inr (8, [.ref a_t_forms, .ref a_t_roll, .int c_t_many, .long c_t_taps, .int c_t_cells, .int c_t_acts, .int c_t_refused, .int c_t_knocks, .int c_t_thrown])), (a_t_forms, .inl (cyJ, 6, .inr (.inl f_t_forms)))] s.heap := hP
  have hK0 := hK
  have hl := lv_entry ([.ref a_t, .int p0, .int p1, .int p2]) (n := 4) (Nat.le_of_ble_eq_true rfl)
  rw [lg_entry_eq]
  generalize (lg_sl ([.ref a_t, .int p0, .int p1, .int p2]) ++ List.replicate (4 - (lg_sl ([.ref a_t, .int p0, .int p1, .int p2])).length) Slot.unset).toArray = ls at hl ⊢
  have hl : lv_has ls 4 [(0, .ref a_t), (1, .int p0), (2, .int p1), (3, .int p2)] := hl
  have h := hF
  clear hF
  unfold F_X9_remain at h
  refine lv_aload_n hx hb dX9_remain_0 rfl (lv_at hl 0 rfl) ?_
  refine lv_iload_n hx hb dX9_remain_1 rfl (lv_at hl 1 rfl) ?_
  refine lv_iload_n hx hb dX9_remain_2 rfl (lv_at hl 2 rfl) ?_
  refine lv_iload_n hx hb dX9_remain_3 rfl (lv_at hl 3 rfl) ?_
  obtain ⟨r4, c_t_thrown_4, hc4, h⟩ := obn2_h h
  have hPc := hP.sub (ws' := [(a_t, .inr (8, [.ref a_t_forms, .ref a_t_roll, .int c_t_many, .long c_t_taps, .int c_t_cells, .int c_t_acts, .int c_t_refused, .int c_t_knocks, .int c_t_thrown]))]) [0] rfl
  have hDc := hD.sub (ws' := [(a_t, .inr (8, [.ref a_t_forms, .ref a_t_roll, .int c_t_many, .long c_t_taps, .int c_t_cells, .int c_t_acts, .int c_t_refused, .int c_t_knocks, .int c_t_thrown]))]) [0] (by decide) rfl
  refine hp_i (w1 := [(a_t, .inr (8, [.ref a_t_forms, .ref a_t_roll, .int c_t_many, .long c_t_taps, .int c_t_cells, .int c_t_acts, .int c_t_refused, .int c_t_knocks, .int c_t_thrown_4]))]) (wr := [(a_t_forms, .inl (cyJ, 6, .inr (.inl f_t_forms)))]) (va_runV (As := [.int p0, .int p1, .int p2]) (rest := []) hcf (c_X9_areNot l D cyJ s.heap.size a_t a_t_forms a_t_roll c_t_many c_t_taps c_t_cells c_t_acts c_t_refused c_t_knocks c_t_thrown p0 p1 p2 r4 c_t_thrown_4 hc4) (cwV 3 hts gX9_remain_X9_areNot rfl rfl rfl ydX9_areNot ⟨Nat.le_of_ble_eq_true rfl, Nat.le_of_ble_eq_true rfl⟩) ⟨bl_PD, va_recv hK hP (ci := 8) (q0 := 0) rfl rfl, pr_PD hPc hK0 hDc hnw⟩ rfl rfl hl.1 rfl (lv_room (Nat.le_of_ble_eq_true rfl)) dX9_remain_4 ⟨Nat.le_of_ble_eq_true rfl, Nat.le_of_ble_eq_true rfl⟩) hP hD hS hA [0] [1] rfl rfl (by decide) (by decide) (fun H locs hP hD hS => ?_)
  have hP : va_P D vwCl [(a_t_forms, .inl (cyJ, 6, .inr (.inl f_t_forms))), (a_t, .inr (8, [.ref a_t_forms, .ref a_t_roll, .int c_t_many, .long c_t_taps, .int c_t_cells, .int c_t_acts, .int c_t_refused, .int c_t_knocks, .int c_t_thrown_4]))] H := hP
  have hD : va_D A [(a_t_forms, .inl (cyJ, 6, .inr (.inl f_t_forms))), (a_t, .inr (8, [.ref a_t_forms, .ref a_t_roll, .int c_t_many, .long c_t_taps, .int c_t_cells, .int c_t_acts, .int c_t_refused, .int c_t_knocks, .int c_t_thrown_4]))] := hD
  refine lv_if_eq (tgt := 12) hx hb dX9_remain_7 (by decide) (fun c7 => ?_) (fun c7 => ?_)
  · have h := it_ c7 h
    refine lv_aload_n hx hb dX9_remain_12 rfl (lv_at hl 0 rfl) ?_
    refine va_get (D := D) (ci := 8) (v := .ref a_t_forms) (C := RX9) (T := TX9) (N := 9) hx hb hts hinX9 hown hK hP 1 rfl rfl 0 (by decide) hfl9 (fun _ h9 => h9) rfl dX9_remain_13 ?_
    refine lv_iload_n hx hb dX9_remain_16 rfl (lv_at hl 2 rfl) ?_
    obtain ⟨hq17, h⟩ := chk_h h
    refine va_lald hx hb hK hP 0 0 rfl rfl hq17 dX9_remain_17 ?_
    refine lv_lconst (v := 0) hx hb dX9_remain_18 (by decide) ?_
    refine W.lcmp hx hb dX9_remain_19 ?_
    refine lv_if_ne (tgt := 30) hx hb dX9_remain_20 (by decide) (fun c20 => ?_) (fun c20 => ?_)
    · have c20 := fun z => c20 ((lg_cmp_eq _ _).mpr z)
      have h := if_ c20 h
      refine lv_aload_n hx hb dX9_remain_30 rfl (lv_at hl 0 rfl) ?_
      refine lv_iload_n hx hb dX9_remain_31 rfl (lv_at hl 3 rfl) ?_
      refine lv_aload_n hx hb dX9_remain_32 rfl (lv_at hl 0 rfl) ?_
      refine va_get (D := D) (ci := 8) (v := .ref a_t_forms) (C := RX9) (T := TX9) (N := 9) hx hb hts hinX9 hown hK hP 1 rfl rfl 0 (by decide) hfl9 (fun _ h9 => h9) rfl dX9_remain_33 ?_
      refine lv_iload_n hx hb dX9_remain_36 rfl (lv_at hl 1 rfl) ?_
      obtain ⟨hq37, h⟩ := chk_h h
      refine va_lald hx hb hK hP 0 0 rfl rfl hq37 dX9_remain_37 ?_
      refine lv_aload_n hx hb dX9_remain_38 rfl (lv_at hl 0 rfl) ?_
      refine va_get (D := D) (ci := 8) (v := .ref a_t_forms) (C := RX9) (T := TX9) (N := 9) hx hb hts hinX9 hown hK hP 1 rfl rfl 0 (by decide) hfl9 (fun _ h9 => h9) rfl dX9_remain_39 ?_
      refine lv_iload_n hx hb dX9_remain_42 rfl (lv_at hl 2 rfl) ?_
      obtain ⟨hq43, h⟩ := chk_h h
      refine va_lald hx hb hK hP 0 0 rfl rfl hq43 dX9_remain_43 ?_
      obtain ⟨r44, hc44, h⟩ := obn_h h
      refine pz_callS (As := [.long (f_t_forms p0.toNatClampNeg), .long (f_t_forms p1.toNatClampNeg)]) (rest := [.int p2, .ref a_t]) hcf (c_X9_restOf l (f_t_forms p0.toNatClampNeg) (f_t_forms p1.toNatClampNeg) r44 hc44) (va_cwS 2 hts gX9_remain_X9_restOf rfl rfl rfl ydX9_restOf ⟨Nat.le_of_ble_eq_true rfl, Nat.le_of_ble_eq_true rfl⟩) hnw rfl hl.1 rfl (Nat.le_of_ble_eq_true rfl) dX9_remain_44 ⟨Nat.le_of_ble_eq_true rfl, Nat.le_of_ble_eq_true rfl⟩ ?_
      obtain ⟨r47, c_t_acts_47, f_t_forms_47, hc47, h⟩ := obn3_h h
      have hPc := hP.sub (ws' := [(a_t, .inr (8, [.ref a_t_forms, .ref a_t_roll, .int c_t_many, .long c_t_taps, .int c_t_cells, .int c_t_acts, .int c_t_refused, .int c_t_knocks, .int c_t_thrown_4])), (a_t_forms, .inl (cyJ, 6, .inr (.inl f_t_forms)))]) [1, 0] rfl
      have hDc := hD.sub (ws' := [(a_t, .inr (8, [.ref a_t_forms, .ref a_t_roll, .int c_t_many, .long c_t_taps, .int c_t_cells, .int c_t_acts, .int c_t_refused, .int c_t_knocks, .int c_t_thrown_4])), (a_t_forms, .inl (cyJ, 6, .inr (.inl f_t_forms)))]) [1, 0] (by decide) rfl
      refine hp_i (w1 := [(a_t, .inr (8, [.ref a_t_forms, .ref a_t_roll, .int c_t_many, .long c_t_taps, .int c_t_cells, .int c_t_acts_47, .int c_t_refused, .int c_t_knocks, .int c_t_thrown_4])), (a_t_forms, .inl (cyJ, 6, .inr (.inl f_t_forms_47)))]) (wr := []) (va_runV (As := [.int p2, .long r44]) (rest := []) hcf (c_X9_give l D cyJ H.size a_t a_t_forms a_t_roll c_t_many c_t_taps c_t_cells c_t_acts c_t_refused c_t_knocks c_t_thrown_4 f_t_forms p2 r44 r47 c_t_acts_47 f_t_forms_47 hc47) (cwV 2 hts gX9_remain_X9_give rfl rfl rfl ydX9_give ⟨Nat.le_of_ble_eq_true rfl, Nat.le_of_ble_eq_true rfl⟩) ⟨bl_PD, va_recv hK hP (ci := 8) (q0 := 1) rfl rfl, pr_PD hPc hK0 hDc hnw⟩ rfl rfl hl.1 rfl (lv_room (Nat.le_of_ble_eq_true rfl)) dX9_remain_47 ⟨Nat.le_of_ble_eq_true rfl, Nat.le_of_ble_eq_true rfl⟩) hP hD hS hA [1, 0] [] rfl rfl (by decide) (by decide) (fun H locs hP hD hS => ?_)
      have hP : va_P D vwCl [(a_t, .inr (8, [.ref a_t_forms, .ref a_t_roll, .int c_t_many, .long c_t_taps, .int c_t_cells, .int c_t_acts_47, .int c_t_refused, .int c_t_knocks, .int c_t_thrown_4])), (a_t_forms, .inl (cyJ, 6, .inr (.inl f_t_forms_47)))] H := hP
      have hD : va_D A [(a_t, .inr (8, [.ref a_t_forms, .ref a_t_roll, .int c_t_many, .long c_t_taps, .int c_t_cells, .int c_t_acts_47, .int c_t_refused, .int c_t_knocks, .int c_t_thrown_4])), (a_t_forms, .inl (cyJ, 6, .inr (.inl f_t_forms_47)))] := hD
      obtain ⟨e0, e1, e2, e3, e4⟩ := tup5 h
      subst e0
      subst e1
      subst e2
      subst e3
      subst e4
      have hP9 : va_P D vwCl [(a_t, .inr (8, [.ref a_t_forms, .ref a_t_roll, .int c_t_many, .long c_t_taps, .int c_t_cells, .int c_t_acts_47, .int c_t_refused, .int c_t_knocks, .int c_t_thrown_4])), (a_t_forms, .inl (cyJ, 6, .inr (.inl f_t_forms_47)))] H := hP.sub [0, 1] rfl
      have hD9 : va_D A [(a_t, .inr (8, [.ref a_t_forms, .ref a_t_roll, .int c_t_many, .long c_t_taps, .int c_t_cells, .int c_t_acts_47, .int c_t_refused, .int c_t_knocks, .int c_t_thrown_4])), (a_t_forms, .inl (cyJ, 6, .inr (.inl f_t_forms_47)))] := hD.sub [0, 1] (by decide) rfl
      exact W.iret hx hb hr (fun t ht hW => ⟨⟨_, (), rfl, rfl, wQA_of ht hP9 hD9⟩, hS.F ht⟩) hS.2.2 dX9_remain_50
    · have c20 := (lg_cmp_eq _ _).mp c20
      have h := it_ c20 h
      refine lv_aload_n hx hb dX9_remain_23 rfl (lv_at hl 0 rfl) ?_
      obtain ⟨r24, c_t_refused_24, hc24, h⟩ := obn2_h h
      have hPc := hP.sub (ws' := [(a_t, .inr (8, [.ref a_t_forms, .ref a_t_roll, .int c_t_many, .long c_t_taps, .int c_t_cells, .int c_t_acts, .int c_t_refused, .int c_t_knocks, .int c_t_thrown_4]))]) [1] rfl
      have hDc := hD.sub (ws' := [(a_t, .inr (8, [.ref a_t_forms, .ref a_t_roll, .int c_t_many, .long c_t_taps, .int c_t_cells, .int c_t_acts, .int c_t_refused, .int c_t_knocks, .int c_t_thrown_4]))]) [1] (by decide) rfl
      refine hp_i (w1 := [(a_t, .inr (8, [.ref a_t_forms, .ref a_t_roll, .int c_t_many, .long c_t_taps, .int c_t_cells, .int c_t_acts, .int c_t_refused_24, .int c_t_knocks, .int c_t_thrown_4]))]) (wr := [(a_t_forms, .inl (cyJ, 6, .inr (.inl f_t_forms)))]) (va_runV (As := []) (rest := []) hcf (c_X9_no l D cyJ H.size a_t a_t_forms a_t_roll c_t_many c_t_taps c_t_cells c_t_acts c_t_refused c_t_knocks c_t_thrown_4 r24 c_t_refused_24 hc24) (cwV 0 hts gX9_remain_X9_no rfl rfl rfl ydX9_no ⟨Nat.le_of_ble_eq_true rfl, Nat.le_of_ble_eq_true rfl⟩) ⟨bl_PD, va_recv hK hP (ci := 8) (q0 := 1) rfl rfl, pr_PD hPc hK0 hDc hnw⟩ rfl rfl hl.1 rfl (lv_room (Nat.le_of_ble_eq_true rfl)) dX9_remain_24 ⟨Nat.le_of_ble_eq_true rfl, Nat.le_of_ble_eq_true rfl⟩) hP hD hS hA [1] [0] rfl rfl (by decide) (by decide) (fun H locs hP hD hS => ?_)
      have hP : va_P D vwCl [(a_t_forms, .inl (cyJ, 6, .inr (.inl f_t_forms))), (a_t, .inr (8, [.ref a_t_forms, .ref a_t_roll, .int c_t_many, .long c_t_taps, .int c_t_cells, .int c_t_acts, .int c_t_refused_24, .int c_t_knocks, .int c_t_thrown_4]))] H := hP
      have hD : va_D A [(a_t_forms, .inl (cyJ, 6, .inr (.inl f_t_forms))), (a_t, .inr (8, [.ref a_t_forms, .ref a_t_roll, .int c_t_many, .long c_t_taps, .int c_t_cells, .int c_t_acts, .int c_t_refused_24, .int c_t_knocks, .int c_t_thrown_4]))] := hD
      refine lv_goto (tgt := 50) hx hb dX9_remain_27 (by decide) ?_
      obtain ⟨e0, e1, e2, e3, e4⟩ := tup5 h
      subst e0
      subst e1
      subst e2
      subst e3
      subst e4
      have hP9 : va_P D vwCl [(a_t, .inr (8, [.ref a_t_forms, .ref a_t_roll, .int c_t_many, .long c_t_taps, .int c_t_cells, .int c_t_acts, .int c_t_refused_24, .int c_t_knocks, .int c_t_thrown_4])), (a_t_forms, .inl (cyJ, 6, .inr (.inl f_t_forms)))] H := hP.sub [1, 0] rfl
      have hD9 : va_D A [(a_t, .inr (8, [.ref a_t_forms, .ref a_t_roll, .int c_t_many, .long c_t_taps, .int c_t_cells, .int c_t_acts, .int c_t_refused_24, .int c_t_knocks, .int c_t_thrown_4])), (a_t_forms, .inl (cyJ, 6, .inr (.inl f_t_forms)))] := hD.sub [1, 0] (by decide) rfl
      exact W.iret hx hb hr (fun t ht hW => ⟨⟨_, (), rfl, rfl, wQA_of ht hP9 hD9⟩, hS.F ht⟩) hS.2.2 dX9_remain_50
  · have h := if_ c7 h
    refine lv_iconst (v := 0) hx hb dX9_remain_10 (by decide) ?_
    obtain ⟨e0, e1, e2, e3, e4⟩ := tup5 h
    subst e0
    subst e1
    subst e2
    subst e3
    subst e4
    have hP9 : va_P D vwCl [(a_t, .inr (8, [.ref a_t_forms, .ref a_t_roll, .int c_t_many, .long c_t_taps, .int c_t_cells, .int c_t_acts, .int c_t_refused, .int c_t_knocks, .int c_t_thrown_4])), (a_t_forms, .inl (cyJ, 6, .inr (.inl f_t_forms)))] H := hP.sub [1, 0] rfl
    have hD9 : va_D A [(a_t, .inr (8, [.ref a_t_forms, .ref a_t_roll, .int c_t_many, .long c_t_taps, .int c_t_cells, .int c_t_acts, .int c_t_refused, .int c_t_knocks, .int c_t_thrown_4])), (a_t_forms, .inl (cyJ, 6, .inr (.inl f_t_forms)))] := hD.sub [1, 0] (by decide) rfl
    exact W.iret hx hb hr (fun t ht hW => ⟨⟨_, (), rfl, rfl, wQA_of ht hP9 hD9⟩, hS.F ht⟩) hS.2.2 dX9_remain_11

noncomputable abbrev rmX9_common : Room := { frames := 6, cells := 0, slots := 0, locals := 145 }
theorem ydX9_common : yX9_common.cls = RX9 ∧ yX9_common.cls ≠ "java/lang/invoke/MethodHandle" ∧ yX9_common.cls ≠ "java/lang/invoke/VarHandle" ∧ (parseMethodDescriptor yX9_common.desc).map (fun d => d.parameters.length) = some 3 := by decide +kernel
noncomputable def F_X9_common (c_t_acts : Int32) (f_t_forms : Nat → Int64) (p0 : Int32) (p1 : Int32) (p2 : Int32) : Option (Int32 × Int32 × Int32 × (Nat → Int64)) :=
 obn2 (F_X9_areNot p0 p1 p2) (fun r4 c_t_thrown_4 =>
 (if r4 = 0 then
 chk (¬ (p0 < 0 ∨ 6 ≤ p0.toNatClampNeg)) (
 chk (¬ (p1 < 0 ∨ 6 ≤ p1.toNatClampNeg)) (
 obn (F_X9_commonOf (f_t_forms p0.toNatClampNeg) (f_t_forms p1.toNatClampNeg)) (fun r28 =>
 obn3 (F_X9_give c_t_acts f_t_forms p2 r28) (fun r31 c_t_acts_31 f_t_forms_31 =>
 some (r31, c_t_acts_31, c_t_thrown_4, f_t_forms_31)))))
else
 some ((0 : Int32), c_t_acts, c_t_thrown_4, f_t_forms)))
set_option maxHeartbeats 4000000 in
set_option maxRecDepth 100000 in
theorem c_X9_common (l : Launch) (D : va_G) (cyJ : ClassId) (sz : Nat) (a_t : Nat) (a_t_forms : Nat) (a_t_roll : Nat) (c_t_many : Int32) (c_t_taps : Int64) (c_t_cells : Int32) (c_t_acts : Int32) (c_t_refused : Int32) (c_t_knocks : Int32) (c_t_thrown : Int32) (f_t_forms : Nat → Int64) (p0 : Int32) (p1 : Int32) (p2 : Int32) (r0 : Int32) (o_c_t_acts : Int32) (o_c_t_thrown : Int32) (o_f_t_forms : Nat → Int64) (hF : F_X9_common c_t_acts f_t_forms p0 p1 p2 = some (r0, o_c_t_acts, o_c_t_thrown, o_f_t_forms)) : Met l yX9_common wsX9_common rmX9_common (va_Pc [.ref a_t, .int p0, .int p1, .int p2] (wPD D [(cyJ, .long)] [(a_t, .inr (8, [.ref a_t_forms, .ref a_t_roll, .int c_t_many, .long c_t_taps, .int c_t_cells, .int c_t_acts, .int c_t_refused, .int c_t_knocks, .int c_t_thrown])), (a_t_forms, .inl (cyJ, 6, .inr (.inl f_t_forms)))] sz)) (va_Qi (fun (r : Int32) (_ : Unit) => r = r0) (fun _ t => wQA D [(a_t, .inr (8, [.ref a_t_forms, .ref a_t_roll, .int c_t_many, .long c_t_taps, .int c_t_cells, .int o_c_t_acts, .int c_t_refused, .int c_t_knocks, .int o_c_t_thrown])), (a_t_forms, .inl (cyJ, 6, .inr (.inl o_f_t_forms)))] (va_A [(a_t, .inr (8, [.ref a_t_forms, .ref a_t_roll, .int c_t_many, .long c_t_taps, .int c_t_cells, .int c_t_acts, .int c_t_refused, .int c_t_knocks, .int c_t_thrown])), (a_t_forms, .inl (cyJ, 6, .inr (.inl f_t_forms)))] sz) t) (va_A [(a_t, .inr (8, [.ref a_t_forms, .ref a_t_roll, .int c_t_many, .long c_t_taps, .int c_t_cells, .int c_t_acts, .int c_t_refused, .int c_t_knocks, .int c_t_thrown])), (a_t_forms, .inl (cyJ, 6, .inr (.inl f_t_forms)))] sz)) 0 0 (va_A [(a_t, .inr (8, [.ref a_t_forms, .ref a_t_roll, .int c_t_many, .long c_t_taps, .int c_t_cells, .int c_t_acts, .int c_t_refused, .int c_t_knocks, .int c_t_thrown])), (a_t_forms, .inl (cyJ, 6, .inr (.inl f_t_forms)))] sz) := by
  refine Met.ofW (cc := cX9_common) (maxL := 4) (ret := (some .int)) (by decide) rfl ?_
  intro p e s m args below meth c s₁ B hml hv
  obtain ⟨rfl, hsz, hP, hK, hD0, hnw⟩ := hv
  have hx := B.exec
  have hb := B.bytes
  have hr := B.returns
  have hts := atoms_spec (ws := wsX9_common) B.pre
  have hown : s.vm.findClass RX9 = some m.cls := findClass_of_methodNamed B.named
  have hlocks := B.notSynchronized
  have hcf : CallFix _ _ _ _ _ _ _ _ _ := ⟨hx, hb, hml, hown, hts⟩
  have hinX9 : ∀ w ∈ u_ws RX9 TX9 9, w ∈ wsX9_common := by decide +kernel
  have hfl9 := hts (.fieldLink RX9 9 "FormwheelModel" "forms" "[J") (by decide +kernel)
  subst hsz
  have hD := hD0.self (sz := s.heap.size)
  generalize hAe : va_A [(a_t, .inr (8, [.ref a_t_forms, .ref a_t_roll, .int c_t_many, .long c_t_taps, .int c_t_cells, .int c_t_acts, .int c_t_refused, .int c_t_knocks, .int c_t_thrown])), (a_t_forms, .inl (cyJ, 6, .inr (.inl f_t_forms)))] s.heap.size = A at hD ⊢
  have hA : ∀ q : Nat, s.heap.size ≤ q → A q := fun q h => by rw [← hAe]; exact Or.inr h
  have hS : va_S A s.heap s.heap [] := va_S.rf
  have hP : va_P D vwCl [(a_t, .inr (8, [.ref a_t_forms, .ref a_t_roll, .int c_t_many, .long c_t_taps, .int c_t_cells, .int c_t_acts, .int c_t_refused, .int c_t_knocks, .int c_t_thrown])), (a_t_forms, .inl (cyJ, 6, .inr (.inl f_t_forms)))] s.heap := hP
  have hK0 := hK
  have hl := lv_entry ([.ref a_t, .int p0, .int p1, .int p2]) (n := 4) (Nat.le_of_ble_eq_true rfl)
  rw [lg_entry_eq]
  generalize (lg_sl ([.ref a_t, .int p0, .int p1, .int p2]) ++ List.replicate (4 - (lg_sl ([.ref a_t, .int p0, .int p1, .int p2])).length) Slot.unset).toArray = ls at hl ⊢
  have hl : lv_has ls 4 [(0, .ref a_t), (1, .int p0), (2, .int p1), (3, .int p2)] := hl
  have h := hF
  clear hF
  unfold F_X9_common at h
  refine lv_aload_n hx hb dX9_common_0 rfl (lv_at hl 0 rfl) ?_
  refine lv_iload_n hx hb dX9_common_1 rfl (lv_at hl 1 rfl) ?_
  refine lv_iload_n hx hb dX9_common_2 rfl (lv_at hl 2 rfl) ?_
  refine lv_iload_n hx hb dX9_common_3 rfl (lv_at hl 3 rfl) ?_
  obtain ⟨r4, c_t_thrown_4, hc4, h⟩ := obn2_h h
  have hPc := hP.sub (ws' := [(a_t, .inr (8, [.ref a_t_forms, .ref a_t_roll, .int c_t_many, .long c_t_taps, .int c_t_cells, .int c_t_acts, .int c_t_refused, .int c_t_knocks, .int c_t_thrown]))]) [0] rfl
  have hDc := hD.sub (ws' := [(a_t, .inr (8, [.ref a_t_forms, .ref a_t_roll, .int c_t_many, .long c_t_taps, .int c_t_cells, .int c_t_acts, .int c_t_refused, .int c_t_knocks, .int c_t_thrown]))]) [0] (by decide) rfl
  refine hp_i (w1 := [(a_t, .inr (8, [.ref a_t_forms, .ref a_t_roll, .int c_t_many, .long c_t_taps, .int c_t_cells, .int c_t_acts, .int c_t_refused, .int c_t_knocks, .int c_t_thrown_4]))]) (wr := [(a_t_forms, .inl (cyJ, 6, .inr (.inl f_t_forms)))]) (va_runV (As := [.int p0, .int p1, .int p2]) (rest := []) hcf (c_X9_areNot l D cyJ s.heap.size a_t a_t_forms a_t_roll c_t_many c_t_taps c_t_cells c_t_acts c_t_refused c_t_knocks c_t_thrown p0 p1 p2 r4 c_t_thrown_4 hc4) (cwV 3 hts gX9_common_X9_areNot rfl rfl rfl ydX9_areNot ⟨Nat.le_of_ble_eq_true rfl, Nat.le_of_ble_eq_true rfl⟩) ⟨bl_PD, va_recv hK hP (ci := 8) (q0 := 0) rfl rfl, pr_PD hPc hK0 hDc hnw⟩ rfl rfl hl.1 rfl (lv_room (Nat.le_of_ble_eq_true rfl)) dX9_common_4 ⟨Nat.le_of_ble_eq_true rfl, Nat.le_of_ble_eq_true rfl⟩) hP hD hS hA [0] [1] rfl rfl (by decide) (by decide) (fun H locs hP hD hS => ?_)
  have hP : va_P D vwCl [(a_t_forms, .inl (cyJ, 6, .inr (.inl f_t_forms))), (a_t, .inr (8, [.ref a_t_forms, .ref a_t_roll, .int c_t_many, .long c_t_taps, .int c_t_cells, .int c_t_acts, .int c_t_refused, .int c_t_knocks, .int c_t_thrown_4]))] H := hP
  have hD : va_D A [(a_t_forms, .inl (cyJ, 6, .inr (.inl f_t_forms))), (a_t, .inr (8, [.ref a_t_forms, .ref a_t_roll, .int c_t_many, .long c_t_taps, .int c_t_cells, .int c_t_acts, .int c_t_refused, .int c_t_knocks, .int c_t_thrown_4]))] := hD
  refine lv_if_eq (tgt := 14) hx hb dX9_common_7 (by decide) (fun c7 => ?_) (fun c7 => ?_)
  · have h := it_ c7 h
    refine lv_aload_n hx hb dX9_common_14 rfl (lv_at hl 0 rfl) ?_
    refine lv_iload_n hx hb dX9_common_15 rfl (lv_at hl 3 rfl) ?_
    refine lv_aload_n hx hb dX9_common_16 rfl (lv_at hl 0 rfl) ?_
    refine va_get (D := D) (ci := 8) (v := .ref a_t_forms) (C := RX9) (T := TX9) (N := 9) hx hb hts hinX9 hown hK hP 1 rfl rfl 0 (by decide) hfl9 (fun _ h9 => h9) rfl dX9_common_17 ?_
    refine lv_iload_n hx hb dX9_common_20 rfl (lv_at hl 1 rfl) ?_
    obtain ⟨hq21, h⟩ := chk_h h
    refine va_lald hx hb hK hP 0 0 rfl rfl hq21 dX9_common_21 ?_
    refine lv_aload_n hx hb dX9_common_22 rfl (lv_at hl 0 rfl) ?_
    refine va_get (D := D) (ci := 8) (v := .ref a_t_forms) (C := RX9) (T := TX9) (N := 9) hx hb hts hinX9 hown hK hP 1 rfl rfl 0 (by decide) hfl9 (fun _ h9 => h9) rfl dX9_common_23 ?_
    refine lv_iload_n hx hb dX9_common_26 rfl (lv_at hl 2 rfl) ?_
    obtain ⟨hq27, h⟩ := chk_h h
    refine va_lald hx hb hK hP 0 0 rfl rfl hq27 dX9_common_27 ?_
    obtain ⟨r28, hc28, h⟩ := obn_h h
    refine pz_callS (As := [.long (f_t_forms p0.toNatClampNeg), .long (f_t_forms p1.toNatClampNeg)]) (rest := [.int p2, .ref a_t]) hcf (c_X9_commonOf l (f_t_forms p0.toNatClampNeg) (f_t_forms p1.toNatClampNeg) r28 hc28) (va_cwS 2 hts gX9_common_X9_commonOf rfl rfl rfl ydX9_commonOf ⟨Nat.le_of_ble_eq_true rfl, Nat.le_of_ble_eq_true rfl⟩) hnw rfl hl.1 rfl (Nat.le_of_ble_eq_true rfl) dX9_common_28 ⟨Nat.le_of_ble_eq_true rfl, Nat.le_of_ble_eq_true rfl⟩ ?_
    obtain ⟨r31, c_t_acts_31, f_t_forms_31, hc31, h⟩ := obn3_h h
    have hPc := hP.sub (ws' := [(a_t, .inr (8, [.ref a_t_forms, .ref a_t_roll, .int c_t_many, .long c_t_taps, .int c_t_cells, .int c_t_acts, .int c_t_refused, .int c_t_knocks, .int c_t_thrown_4])), (a_t_forms, .inl (cyJ, 6, .inr (.inl f_t_forms)))]) [1, 0] rfl
    have hDc := hD.sub (ws' := [(a_t, .inr (8, [.ref a_t_forms, .ref a_t_roll, .int c_t_many, .long c_t_taps, .int c_t_cells, .int c_t_acts, .int c_t_refused, .int c_t_knocks, .int c_t_thrown_4])), (a_t_forms, .inl (cyJ, 6, .inr (.inl f_t_forms)))]) [1, 0] (by decide) rfl
    refine hp_i (w1 := [(a_t, .inr (8, [.ref a_t_forms, .ref a_t_roll, .int c_t_many, .long c_t_taps, .int c_t_cells, .int c_t_acts_31, .int c_t_refused, .int c_t_knocks, .int c_t_thrown_4])), (a_t_forms, .inl (cyJ, 6, .inr (.inl f_t_forms_31)))]) (wr := []) (va_runV (As := [.int p2, .long r28]) (rest := []) hcf (c_X9_give l D cyJ H.size a_t a_t_forms a_t_roll c_t_many c_t_taps c_t_cells c_t_acts c_t_refused c_t_knocks c_t_thrown_4 f_t_forms p2 r28 r31 c_t_acts_31 f_t_forms_31 hc31) (cwV 2 hts gX9_common_X9_give rfl rfl rfl ydX9_give ⟨Nat.le_of_ble_eq_true rfl, Nat.le_of_ble_eq_true rfl⟩) ⟨bl_PD, va_recv hK hP (ci := 8) (q0 := 1) rfl rfl, pr_PD hPc hK0 hDc hnw⟩ rfl rfl hl.1 rfl (lv_room (Nat.le_of_ble_eq_true rfl)) dX9_common_31 ⟨Nat.le_of_ble_eq_true rfl, Nat.le_of_ble_eq_true rfl⟩) hP hD hS hA [1, 0] [] rfl rfl (by decide) (by decide) (fun H locs hP hD hS => ?_)
    have hP : va_P D vwCl [(a_t, .inr (8, [.ref a_t_forms, .ref a_t_roll, .int c_t_many, .long c_t_taps, .int c_t_cells, .int c_t_acts_31, .int c_t_refused, .int c_t_knocks, .int c_t_thrown_4])), (a_t_forms, .inl (cyJ, 6, .inr (.inl f_t_forms_31)))] H := hP
    have hD : va_D A [(a_t, .inr (8, [.ref a_t_forms, .ref a_t_roll, .int c_t_many, .long c_t_taps, .int c_t_cells, .int c_t_acts_31, .int c_t_refused, .int c_t_knocks, .int c_t_thrown_4])), (a_t_forms, .inl (cyJ, 6, .inr (.inl f_t_forms_31)))] := hD
    obtain ⟨e0, e1, e2, e3⟩ := tup4 h
    subst e0
    subst e1
    subst e2
    subst e3
    have hP9 : va_P D vwCl [(a_t, .inr (8, [.ref a_t_forms, .ref a_t_roll, .int c_t_many, .long c_t_taps, .int c_t_cells, .int c_t_acts_31, .int c_t_refused, .int c_t_knocks, .int c_t_thrown_4])), (a_t_forms, .inl (cyJ, 6, .inr (.inl f_t_forms_31)))] H := hP.sub [0, 1] rfl
    have hD9 : va_D A [(a_t, .inr (8, [.ref a_t_forms, .ref a_t_roll, .int c_t_many, .long c_t_taps, .int c_t_cells, .int c_t_acts_31, .int c_t_refused, .int c_t_knocks, .int c_t_thrown_4])), (a_t_forms, .inl (cyJ, 6, .inr (.inl f_t_forms_31)))] := hD.sub [0, 1] (by decide) rfl
    exact W.iret hx hb hr (fun t ht hW => ⟨⟨_, (), rfl, rfl, wQA_of ht hP9 hD9⟩, hS.F ht⟩) hS.2.2 dX9_common_34
  · have h := if_ c7 h
    refine lv_iconst (v := 0) hx hb dX9_common_10 (by decide) ?_
    refine lv_goto (tgt := 34) hx hb dX9_common_11 (by decide) ?_
    obtain ⟨e0, e1, e2, e3⟩ := tup4 h
    subst e0
    subst e1
    subst e2
    subst e3
    have hP9 : va_P D vwCl [(a_t, .inr (8, [.ref a_t_forms, .ref a_t_roll, .int c_t_many, .long c_t_taps, .int c_t_cells, .int c_t_acts, .int c_t_refused, .int c_t_knocks, .int c_t_thrown_4])), (a_t_forms, .inl (cyJ, 6, .inr (.inl f_t_forms)))] H := hP.sub [1, 0] rfl
    have hD9 : va_D A [(a_t, .inr (8, [.ref a_t_forms, .ref a_t_roll, .int c_t_many, .long c_t_taps, .int c_t_cells, .int c_t_acts, .int c_t_refused, .int c_t_knocks, .int c_t_thrown_4])), (a_t_forms, .inl (cyJ, 6, .inr (.inl f_t_forms)))] := hD.sub [1, 0] (by decide) rfl
    exact W.iret hx hb hr (fun t ht hW => ⟨⟨_, (), rfl, rfl, wQA_of ht hP9 hD9⟩, hS.F ht⟩) hS.2.2 dX9_common_34
