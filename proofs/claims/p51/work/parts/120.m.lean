noncomputable abbrev rmX9_start : Room := { frames := 4, cells := 0, slots := 0, locals := 85 }
theorem ydX9_start : yX9_start.cls = RX9 ∧ yX9_start.cls ≠ "java/lang/invoke/MethodHandle" ∧ yX9_start.cls ≠ "java/lang/invoke/VarHandle" ∧ (parseMethodDescriptor yX9_start.desc).map (fun d => d.parameters.length) = some 1 := by decide +kernel
noncomputable def F_X9_start (c_t_taps : Int64) (c_t_cells : Int32) (c_t_acts : Int32) (c_t_refused : Int32) (f_t_forms : Nat → Int64) (p0 : Int32) : Option (Int32 × Int64 × Int32 × Int32 × Int32 × Int32) :=
 obn (F_X9_isForm p0) (fun r2 =>
 (if r2 = 0 then
 obn2 (F_X9_isThrown_ (1 : Int32)) (fun r13 c_t_thrown_13 =>
 (if r13 = 0 then
 chk (¬ (p0 < 0 ∨ 6 ≤ p0.toNatClampNeg)) (
 obn (F_X9_isWheel (f_t_forms p0.toNatClampNeg)) (fun r27 =>
 (if r27 = 0 then
 obn2 (F_X9_no c_t_refused) (fun r34 c_t_refused_34 =>
 some (r34, c_t_taps, c_t_cells, c_t_acts, c_t_refused_34, c_t_thrown_13))
else
 chk (¬ (p0 < 0 ∨ 6 ≤ p0.toNatClampNeg)) (
 bnd (f_t_forms p0.toNatClampNeg) (fun c_t_taps_45 =>
 obn (F_X9_degreeOf c_t_taps_45) (fun r54 =>
 bnd ((1 : Int32) <<< ((r54 - (1 : Int32)) &&& 31)) (fun c_t_cells_60 =>
 obn (F_X9_degreeOf c_t_taps_45) (fun r68 =>
 obn2 (F_X9_done c_t_acts r68) (fun r71 c_t_acts_71 =>
 some (r71, c_t_taps_45, c_t_cells_60, c_t_acts_71, c_t_refused, c_t_thrown_13))))))))))
else
 some ((0 : Int32), c_t_taps, c_t_cells, c_t_acts, c_t_refused, c_t_thrown_13)))
else
 obn2 (F_X9_isThrown_ (0 : Int32)) (fun r13 c_t_thrown_13 =>
 (if r13 = 0 then
 chk (¬ (p0 < 0 ∨ 6 ≤ p0.toNatClampNeg)) (
 obn (F_X9_isWheel (f_t_forms p0.toNatClampNeg)) (fun r27 =>
 (if r27 = 0 then
 obn2 (F_X9_no c_t_refused) (fun r34 c_t_refused_34 =>
 some (r34, c_t_taps, c_t_cells, c_t_acts, c_t_refused_34, c_t_thrown_13))
else
 chk (¬ (p0 < 0 ∨ 6 ≤ p0.toNatClampNeg)) (
 bnd (f_t_forms p0.toNatClampNeg) (fun c_t_taps_45 =>
 obn (F_X9_degreeOf c_t_taps_45) (fun r54 =>
 bnd ((1 : Int32) <<< ((r54 - (1 : Int32)) &&& 31)) (fun c_t_cells_60 =>
 obn (F_X9_degreeOf c_t_taps_45) (fun r68 =>
 obn2 (F_X9_done c_t_acts r68) (fun r71 c_t_acts_71 =>
 some (r71, c_t_taps_45, c_t_cells_60, c_t_acts_71, c_t_refused, c_t_thrown_13))))))))))
else
 some ((0 : Int32), c_t_taps, c_t_cells, c_t_acts, c_t_refused, c_t_thrown_13)))))
set_option maxHeartbeats 4000000 in
set_option maxRecDepth 100000 in
theorem c_X9_start (l : Launch) (D : va_G) (cyJ : ClassId) (sz : Nat) (a_t : Nat) (a_t_forms : Nat) (a_t_roll : Nat) (c_t_many : Int32) (c_t_taps : Int64) (c_t_cells : Int32) (c_t_acts : Int32) (c_t_refused : Int32) (c_t_knocks : Int32) (c_t_thrown : Int32) (f_t_forms : Nat → Int64) (p0 : Int32) (r0 : Int32) (o_c_t_taps : Int64) (o_c_t_cells : Int32) (o_c_t_acts : Int32) (o_c_t_refused : Int32) (o_c_t_thrown : Int32) (hF : F_X9_start c_t_taps c_t_cells c_t_acts c_t_refused f_t_forms p0 = some (r0, o_c_t_taps, o_c_t_cells, o_c_t_acts, o_c_t_refused, o_c_t_thrown)) : Met l yX9_start wsX9_start rmX9_start (va_Pc [.ref a_t, .int p0] (wPD D [(cyJ, .long)] [(a_t, .inr (8, [.ref a_t_forms, .ref a_t_roll, .int c_t_many, .long c_t_taps, .int c_t_cells, .int c_t_acts, .int c_t_refused, .int c_t_knocks, .int c_t_thrown])), (a_t_forms, .inl (cyJ, 6, .inr (.inl f_t_forms)))] sz)) (va_Qi (fun (r : Int32) (_ : Unit) => r = r0) (fun _ t => wQA D [(a_t, .inr (8, [.ref a_t_forms, .ref a_t_roll, .int c_t_many, .long o_c_t_taps, .int o_c_t_cells, .int o_c_t_acts, .int o_c_t_refused, .int c_t_knocks, .int o_c_t_thrown])), (a_t_forms, .inl (cyJ, 6, .inr (.inl f_t_forms)))] (va_A [(a_t, .inr (8, [.ref a_t_forms, .ref a_t_roll, .int c_t_many, .long c_t_taps, .int c_t_cells, .int c_t_acts, .int c_t_refused, .int c_t_knocks, .int c_t_thrown])), (a_t_forms, .inl (cyJ, 6, .inr (.inl f_t_forms)))] sz) t) (va_A [(a_t, .inr (8, [.ref a_t_forms, .ref a_t_roll, .int c_t_many, .long c_t_taps, .int c_t_cells, .int c_t_acts, .int c_t_refused, .int c_t_knocks, .int c_t_thrown])), (a_t_forms, .inl (cyJ, 6, .inr (.inl f_t_forms)))] sz)) 0 0 (va_A [(a_t, .inr (8, [.ref a_t_forms, .ref a_t_roll, .int c_t_many, .long c_t_taps, .int c_t_cells, .int c_t_acts, .int c_t_refused, .int c_t_knocks, .int c_t_thrown])), (a_t_forms, .inl (cyJ, 6, .inr (.inl f_t_forms)))] sz) := by
  refine Met.ofW (cc := cX9_start) (maxL := 2) (ret := (some .int)) (by decide) rfl ?_
  intro p e s m args below meth c s₁ B hml hv
  obtain ⟨rfl, hsz, hP, hK, hD0, hnw⟩ := hv
  have hx := B.exec
  have hb := B.bytes
  have hr := B.returns
  have hts := atoms_spec (ws := wsX9_start) B.pre
  have hown : s.vm.findClass RX9 = some m.cls := findClass_of_methodNamed B.named
  have hlocks := B.notSynchronized
  have hcf : CallFix _ _ _ _ _ _ _ _ _ := ⟨hx, hb, hml, hown, hts⟩
  have hinX9 : ∀ w ∈ u_ws RX9 TX9 9, w ∈ wsX9_start := by decide +kernel
  have hfl9 := hts (.fieldLink RX9 9 "FormwheelModel" "forms" "[J") (by decide +kernel)
  have hfl18 := hts (.fieldLink RX9 18 "FormwheelModel" "taps" "J") (by decide +kernel)
  have hfl22 := hts (.fieldLink RX9 22 "FormwheelModel" "cells" "I") (by decide +kernel)
  subst hsz
  have hD := hD0.self (sz := s.heap.size)
  generalize hAe : va_A [(a_t, .inr (8, [.ref a_t_forms, .ref a_t_roll, .int c_t_many, .long c_t_taps, .int c_t_cells, .int c_t_acts, .int c_t_refused, .int c_t_knocks, .int c_t_thrown])), (a_t_forms, .inl (cyJ, 6, .inr (.inl f_t_forms)))] s.heap.size = A at hD ⊢
  have hA : ∀ q : Nat, s.heap.size ≤ q → A q := fun q h => by rw [← hAe]; exact Or.inr h
  have hS : va_S A s.heap s.heap [] := va_S.rf
  have hP : va_P D vwCl [(a_t, .inr (8, [.ref a_t_forms, .ref a_t_roll, .int c_t_many, .long c_t_taps, .int c_t_cells, .int c_t_acts, .int c_t_refused, .int c_t_knocks, .int c_t_thrown])), (a_t_forms, .inl (cyJ, 6, .inr (.inl f_t_forms)))] s.heap := hP
  have hK0 := hK
  have hl := lv_entry ([.ref a_t, .int p0]) (n := 2) (Nat.le_of_ble_eq_true rfl)
  rw [lg_entry_eq]
  generalize (lg_sl ([.ref a_t, .int p0]) ++ List.replicate (2 - (lg_sl ([.ref a_t, .int p0])).length) Slot.unset).toArray = ls at hl ⊢
  have hl : lv_has ls 2 [(0, .ref a_t), (1, .int p0)] := hl
  have h := hF
  clear hF
  unfold F_X9_start at h
  refine lv_aload_n hx hb dX9_start_0 rfl (lv_at hl 0 rfl) ?_
  refine lv_iload_n hx hb dX9_start_1 rfl (lv_at hl 1 rfl) ?_
  obtain ⟨r2, hc2, h⟩ := obn_h h
  refine pz_callS (As := [.int p0]) (rest := [.ref a_t]) hcf (c_X9_isForm l p0 r2 hc2) (va_cwS 1 hts gX9_start_X9_isForm rfl rfl rfl ydX9_isForm ⟨Nat.le_of_ble_eq_true rfl, Nat.le_of_ble_eq_true rfl⟩) hnw rfl hl.1 rfl (Nat.le_of_ble_eq_true rfl) dX9_start_2 ⟨Nat.le_of_ble_eq_true rfl, Nat.le_of_ble_eq_true rfl⟩ ?_
  refine lv_if_ne (tgt := 12) hx hb dX9_start_5 (by decide) (fun c5 => ?_) (fun c5 => ?_)
  · have h := if_ c5 h
    refine lv_iconst (v := 0) hx hb dX9_start_12 (by decide) ?_
    obtain ⟨r13, c_t_thrown_13, hc13, h⟩ := obn2_h h
    have hPc := hP.sub (ws' := [(a_t, .inr (8, [.ref a_t_forms, .ref a_t_roll, .int c_t_many, .long c_t_taps, .int c_t_cells, .int c_t_acts, .int c_t_refused, .int c_t_knocks, .int c_t_thrown]))]) [0] rfl
    have hDc := hD.sub (ws' := [(a_t, .inr (8, [.ref a_t_forms, .ref a_t_roll, .int c_t_many, .long c_t_taps, .int c_t_cells, .int c_t_acts, .int c_t_refused, .int c_t_knocks, .int c_t_thrown]))]) [0] (by decide) rfl
    refine hp_i (w1 := [(a_t, .inr (8, [.ref a_t_forms, .ref a_t_roll, .int c_t_many, .long c_t_taps, .int c_t_cells, .int c_t_acts, .int c_t_refused, .int c_t_knocks, .int c_t_thrown_13]))]) (wr := [(a_t_forms, .inl (cyJ, 6, .inr (.inl f_t_forms)))]) (va_runV (As := [.int (0 : Int32)]) (rest := []) hcf (c_X9_isThrown_ l D cyJ s.heap.size a_t a_t_forms a_t_roll c_t_many c_t_taps c_t_cells c_t_acts c_t_refused c_t_knocks c_t_thrown (0 : Int32) r13 c_t_thrown_13 hc13) (cwV 1 hts gX9_start_X9_isThrown_ rfl rfl rfl ydX9_isThrown_ ⟨Nat.le_of_ble_eq_true rfl, Nat.le_of_ble_eq_true rfl⟩) ⟨bl_PD, va_recv hK hP (ci := 8) (q0 := 0) rfl rfl, pr_PD hPc hK0 hDc hnw⟩ rfl rfl hl.1 rfl (lv_room (Nat.le_of_ble_eq_true rfl)) dX9_start_13 ⟨Nat.le_of_ble_eq_true rfl, Nat.le_of_ble_eq_true rfl⟩) hP hD hS hA [0] [1] rfl rfl (by decide) (by decide) (fun H locs hP hD hS => ?_)
    have hP : va_P D vwCl [(a_t_forms, .inl (cyJ, 6, .inr (.inl f_t_forms))), (a_t, .inr (8, [.ref a_t_forms, .ref a_t_roll, .int c_t_many, .long c_t_taps, .int c_t_cells, .int c_t_acts, .int c_t_refused, .int c_t_knocks, .int c_t_thrown_13]))] H := hP
    have hD : va_D A [(a_t_forms, .inl (cyJ, 6, .inr (.inl f_t_forms))), (a_t, .inr (8, [.ref a_t_forms, .ref a_t_roll, .int c_t_many, .long c_t_taps, .int c_t_cells, .int c_t_acts, .int c_t_refused, .int c_t_knocks, .int c_t_thrown_13]))] := hD
    refine lv_if_eq (tgt := 21) hx hb dX9_start_16 (by decide) (fun c16 => ?_) (fun c16 => ?_)
    · have h := it_ c16 h
      refine lv_aload_n hx hb dX9_start_21 rfl (lv_at hl 0 rfl) ?_
      refine va_get (D := D) (ci := 8) (v := .ref a_t_forms) (C := RX9) (T := TX9) (N := 9) hx hb hts hinX9 hown hK hP 1 rfl rfl 0 (by decide) hfl9 (fun _ h9 => h9) rfl dX9_start_22 ?_
      refine lv_iload_n hx hb dX9_start_25 rfl (lv_at hl 1 rfl) ?_
      obtain ⟨hq26, h⟩ := chk_h h
      refine va_lald hx hb hK hP 0 0 rfl rfl hq26 dX9_start_26 ?_
      obtain ⟨r27, hc27, h⟩ := obn_h h
      refine pz_callS (As := [.long (f_t_forms p0.toNatClampNeg)]) (rest := []) hcf (c_X9_isWheel l (f_t_forms p0.toNatClampNeg) r27 hc27) (va_cwS 1 hts gX9_start_X9_isWheel rfl rfl rfl ydX9_isWheel ⟨Nat.le_of_ble_eq_true rfl, Nat.le_of_ble_eq_true rfl⟩) hnw rfl hl.1 rfl (Nat.le_of_ble_eq_true rfl) dX9_start_27 ⟨Nat.le_of_ble_eq_true rfl, Nat.le_of_ble_eq_true rfl⟩ ?_
      refine lv_if_ne (tgt := 38) hx hb dX9_start_30 (by decide) (fun c30 => ?_) (fun c30 => ?_)
      · have h := if_ c30 h
        refine lv_aload_n hx hb dX9_start_38 rfl (lv_at hl 0 rfl) ?_
        refine lv_aload_n hx hb dX9_start_39 rfl (lv_at hl 0 rfl) ?_
        refine va_get (D := D) (ci := 8) (v := .ref a_t_forms) (C := RX9) (T := TX9) (N := 9) hx hb hts hinX9 hown hK hP 1 rfl rfl 0 (by decide) hfl9 (fun _ h9 => h9) rfl dX9_start_40 ?_
        refine lv_iload_n hx hb dX9_start_43 rfl (lv_at hl 1 rfl) ?_
        obtain ⟨hq44, h⟩ := chk_h h
        refine va_lald hx hb hK hP 0 0 rfl rfl hq44 dX9_start_44 ?_
        refine lv_topl (fun c_t_taps_45 e_c_t_taps_45 => ?_)
        have h := bnd_h e_c_t_taps_45 h
        refine va_put (D := D) (ci := 8) (v := .long c_t_taps_45) (ty := .long) (C := RX9) (T := TX9) (N := 9) hx hb hts hinX9 tyX9 tyX9_ok nmX9 hown hK hP hD hS 1 rfl rfl 3 (by decide) hfl18 (fun _ h9 => h9) rfl (by decide +kernel) rfl rfl (Nat.le_of_ble_eq_true rfl) dX9_start_45 (fun H locs hP hD hS => ?_)
        have hP : va_P D vwCl [(a_t_forms, .inl (cyJ, 6, .inr (.inl f_t_forms))), (a_t, .inr (8, [.ref a_t_forms, .ref a_t_roll, .int c_t_many, .long c_t_taps_45, .int c_t_cells, .int c_t_acts, .int c_t_refused, .int c_t_knocks, .int c_t_thrown_13]))] H := hP
        have hD : va_D A [(a_t_forms, .inl (cyJ, 6, .inr (.inl f_t_forms))), (a_t, .inr (8, [.ref a_t_forms, .ref a_t_roll, .int c_t_many, .long c_t_taps_45, .int c_t_cells, .int c_t_acts, .int c_t_refused, .int c_t_knocks, .int c_t_thrown_13]))] := hD
        refine lv_aload_n hx hb dX9_start_48 rfl (lv_at hl 0 rfl) ?_
        refine lv_iconst (v := 1) hx hb dX9_start_49 (by decide) ?_
        refine lv_aload_n hx hb dX9_start_50 rfl (lv_at hl 0 rfl) ?_
        refine va_get (D := D) (ci := 8) (v := .long c_t_taps_45) (C := RX9) (T := TX9) (N := 9) hx hb hts hinX9 hown hK hP 1 rfl rfl 3 (by decide) hfl18 (fun _ h9 => h9) rfl dX9_start_51 ?_
        obtain ⟨r54, hc54, h⟩ := obn_h h
        refine pz_callS (As := [.long c_t_taps_45]) (rest := [.int (1 : Int32), .ref a_t]) hcf (c_X9_degreeOf l c_t_taps_45 r54 hc54) (va_cwS 1 hts gX9_start_X9_degreeOf rfl rfl rfl ydX9_degreeOf ⟨Nat.le_of_ble_eq_true rfl, Nat.le_of_ble_eq_true rfl⟩) hnw rfl hl.1 rfl (Nat.le_of_ble_eq_true rfl) dX9_start_54 ⟨Nat.le_of_ble_eq_true rfl, Nat.le_of_ble_eq_true rfl⟩ ?_
        refine lv_iconst (v := 1) hx hb dX9_start_57 (by decide) ?_
        refine lv_isub hx hb dX9_start_58 ?_
        refine lv_ishl hx hb dX9_start_59 ?_
        refine lv_topi (fun c_t_cells_60 e_c_t_cells_60 => ?_)
        have h := bnd_h e_c_t_cells_60 h
        refine va_put (D := D) (ci := 8) (v := .int c_t_cells_60) (ty := .int) (C := RX9) (T := TX9) (N := 9) hx hb hts hinX9 tyX9 tyX9_ok nmX9 hown hK hP hD hS 1 rfl rfl 4 (by decide) hfl22 (fun _ h9 => h9) rfl (by decide +kernel) rfl rfl (Nat.le_of_ble_eq_true rfl) dX9_start_60 (fun H locs hP hD hS => ?_)
        have hP : va_P D vwCl [(a_t_forms, .inl (cyJ, 6, .inr (.inl f_t_forms))), (a_t, .inr (8, [.ref a_t_forms, .ref a_t_roll, .int c_t_many, .long c_t_taps_45, .int c_t_cells_60, .int c_t_acts, .int c_t_refused, .int c_t_knocks, .int c_t_thrown_13]))] H := hP
        have hD : va_D A [(a_t_forms, .inl (cyJ, 6, .inr (.inl f_t_forms))), (a_t, .inr (8, [.ref a_t_forms, .ref a_t_roll, .int c_t_many, .long c_t_taps_45, .int c_t_cells_60, .int c_t_acts, .int c_t_refused, .int c_t_knocks, .int c_t_thrown_13]))] := hD
        refine lv_aload_n hx hb dX9_start_63 rfl (lv_at hl 0 rfl) ?_
        refine lv_aload_n hx hb dX9_start_64 rfl (lv_at hl 0 rfl) ?_
        refine va_get (D := D) (ci := 8) (v := .long c_t_taps_45) (C := RX9) (T := TX9) (N := 9) hx hb hts hinX9 hown hK hP 1 rfl rfl 3 (by decide) hfl18 (fun _ h9 => h9) rfl dX9_start_65 ?_
        obtain ⟨r68, hc68, h⟩ := obn_h h
        refine pz_callS (As := [.long c_t_taps_45]) (rest := [.ref a_t]) hcf (c_X9_degreeOf l c_t_taps_45 r68 hc68) (va_cwS 1 hts gX9_start_X9_degreeOf rfl rfl rfl ydX9_degreeOf ⟨Nat.le_of_ble_eq_true rfl, Nat.le_of_ble_eq_true rfl⟩) hnw rfl hl.1 rfl (Nat.le_of_ble_eq_true rfl) dX9_start_68 ⟨Nat.le_of_ble_eq_true rfl, Nat.le_of_ble_eq_true rfl⟩ ?_
        obtain ⟨r71, c_t_acts_71, hc71, h⟩ := obn2_h h
        have hPc := hP.sub (ws' := [(a_t, .inr (8, [.ref a_t_forms, .ref a_t_roll, .int c_t_many, .long c_t_taps_45, .int c_t_cells_60, .int c_t_acts, .int c_t_refused, .int c_t_knocks, .int c_t_thrown_13]))]) [1] rfl
        have hDc := hD.sub (ws' := [(a_t, .inr (8, [.ref a_t_forms, .ref a_t_roll, .int c_t_many, .long c_t_taps_45, .int c_t_cells_60, .int c_t_acts, .int c_t_refused, .int c_t_knocks, .int c_t_thrown_13]))]) [1] (by decide) rfl
        refine hp_i (w1 := [(a_t, .inr (8, [.ref a_t_forms, .ref a_t_roll, .int c_t_many, .long c_t_taps_45, .int c_t_cells_60, .int c_t_acts_71, .int c_t_refused, .int c_t_knocks, .int c_t_thrown_13]))]) (wr := [(a_t_forms, .inl (cyJ, 6, .inr (.inl f_t_forms)))]) (va_runV (As := [.int r68]) (rest := []) hcf (c_X9_done l D cyJ H.size a_t a_t_forms a_t_roll c_t_many c_t_taps_45 c_t_cells_60 c_t_acts c_t_refused c_t_knocks c_t_thrown_13 r68 r71 c_t_acts_71 hc71) (cwV 1 hts gX9_start_X9_done rfl rfl rfl ydX9_done ⟨Nat.le_of_ble_eq_true rfl, Nat.le_of_ble_eq_true rfl⟩) ⟨bl_PD, va_recv hK hP (ci := 8) (q0 := 1) rfl rfl, pr_PD hPc hK0 hDc hnw⟩ rfl rfl hl.1 rfl (lv_room (Nat.le_of_ble_eq_true rfl)) dX9_start_71 ⟨Nat.le_of_ble_eq_true rfl, Nat.le_of_ble_eq_true rfl⟩) hP hD hS hA [1] [0] rfl rfl (by decide) (by decide) (fun H locs hP hD hS => ?_)
        have hP : va_P D vwCl [(a_t_forms, .inl (cyJ, 6, .inr (.inl f_t_forms))), (a_t, .inr (8, [.ref a_t_forms, .ref a_t_roll, .int c_t_many, .long c_t_taps_45, .int c_t_cells_60, .int c_t_acts_71, .int c_t_refused, .int c_t_knocks, .int c_t_thrown_13]))] H := hP
        have hD : va_D A [(a_t_forms, .inl (cyJ, 6, .inr (.inl f_t_forms))), (a_t, .inr (8, [.ref a_t_forms, .ref a_t_roll, .int c_t_many, .long c_t_taps_45, .int c_t_cells_60, .int c_t_acts_71, .int c_t_refused, .int c_t_knocks, .int c_t_thrown_13]))] := hD
        obtain ⟨e0, e1, e2, e3, e4, e5⟩ := tup6 h
        subst e0
        subst e1
        subst e2
        subst e3
        subst e4
        subst e5
        have hP9 : va_P D vwCl [(a_t, .inr (8, [.ref a_t_forms, .ref a_t_roll, .int c_t_many, .long c_t_taps_45, .int c_t_cells_60, .int c_t_acts_71, .int c_t_refused, .int c_t_knocks, .int c_t_thrown_13])), (a_t_forms, .inl (cyJ, 6, .inr (.inl f_t_forms)))] H := hP.sub [1, 0] rfl
        have hD9 : va_D A [(a_t, .inr (8, [.ref a_t_forms, .ref a_t_roll, .int c_t_many, .long c_t_taps_45, .int c_t_cells_60, .int c_t_acts_71, .int c_t_refused, .int c_t_knocks, .int c_t_thrown_13])), (a_t_forms, .inl (cyJ, 6, .inr (.inl f_t_forms)))] := hD.sub [1, 0] (by decide) rfl
        exact W.iret hx hb hr (fun t ht hW => ⟨⟨_, (), rfl, rfl, wQA_of ht hP9 hD9⟩, hS.F ht⟩) hS.2.2 dX9_start_74
      · have h := it_ c30 h
        refine lv_aload_n hx hb dX9_start_33 rfl (lv_at hl 0 rfl) ?_
        obtain ⟨r34, c_t_refused_34, hc34, h⟩ := obn2_h h
        have hPc := hP.sub (ws' := [(a_t, .inr (8, [.ref a_t_forms, .ref a_t_roll, .int c_t_many, .long c_t_taps, .int c_t_cells, .int c_t_acts, .int c_t_refused, .int c_t_knocks, .int c_t_thrown_13]))]) [1] rfl
        have hDc := hD.sub (ws' := [(a_t, .inr (8, [.ref a_t_forms, .ref a_t_roll, .int c_t_many, .long c_t_taps, .int c_t_cells, .int c_t_acts, .int c_t_refused, .int c_t_knocks, .int c_t_thrown_13]))]) [1] (by decide) rfl
        refine hp_i (w1 := [(a_t, .inr (8, [.ref a_t_forms, .ref a_t_roll, .int c_t_many, .long c_t_taps, .int c_t_cells, .int c_t_acts, .int c_t_refused_34, .int c_t_knocks, .int c_t_thrown_13]))]) (wr := [(a_t_forms, .inl (cyJ, 6, .inr (.inl f_t_forms)))]) (va_runV (As := []) (rest := []) hcf (c_X9_no l D cyJ H.size a_t a_t_forms a_t_roll c_t_many c_t_taps c_t_cells c_t_acts c_t_refused c_t_knocks c_t_thrown_13 r34 c_t_refused_34 hc34) (cwV 0 hts gX9_start_X9_no rfl rfl rfl ydX9_no ⟨Nat.le_of_ble_eq_true rfl, Nat.le_of_ble_eq_true rfl⟩) ⟨bl_PD, va_recv hK hP (ci := 8) (q0 := 1) rfl rfl, pr_PD hPc hK0 hDc hnw⟩ rfl rfl hl.1 rfl (lv_room (Nat.le_of_ble_eq_true rfl)) dX9_start_34 ⟨Nat.le_of_ble_eq_true rfl, Nat.le_of_ble_eq_true rfl⟩) hP hD hS hA [1] [0] rfl rfl (by decide) (by decide) (fun H locs hP hD hS => ?_)
        have hP : va_P D vwCl [(a_t_forms, .inl (cyJ, 6, .inr (.inl f_t_forms))), (a_t, .inr (8, [.ref a_t_forms, .ref a_t_roll, .int c_t_many, .long c_t_taps, .int c_t_cells, .int c_t_acts, .int c_t_refused_34, .int c_t_knocks, .int c_t_thrown_13]))] H := hP
        have hD : va_D A [(a_t_forms, .inl (cyJ, 6, .inr (.inl f_t_forms))), (a_t, .inr (8, [.ref a_t_forms, .ref a_t_roll, .int c_t_many, .long c_t_taps, .int c_t_cells, .int c_t_acts, .int c_t_refused_34, .int c_t_knocks, .int c_t_thrown_13]))] := hD
        obtain ⟨e0, e1, e2, e3, e4, e5⟩ := tup6 h
        subst e0
        subst e1
        subst e2
        subst e3
        subst e4
        subst e5
        have hP9 : va_P D vwCl [(a_t, .inr (8, [.ref a_t_forms, .ref a_t_roll, .int c_t_many, .long c_t_taps, .int c_t_cells, .int c_t_acts, .int c_t_refused_34, .int c_t_knocks, .int c_t_thrown_13])), (a_t_forms, .inl (cyJ, 6, .inr (.inl f_t_forms)))] H := hP.sub [1, 0] rfl
        have hD9 : va_D A [(a_t, .inr (8, [.ref a_t_forms, .ref a_t_roll, .int c_t_many, .long c_t_taps, .int c_t_cells, .int c_t_acts, .int c_t_refused_34, .int c_t_knocks, .int c_t_thrown_13])), (a_t_forms, .inl (cyJ, 6, .inr (.inl f_t_forms)))] := hD.sub [1, 0] (by decide) rfl
        exact W.iret hx hb hr (fun t ht hW => ⟨⟨_, (), rfl, rfl, wQA_of ht hP9 hD9⟩, hS.F ht⟩) hS.2.2 dX9_start_37
    · have h := if_ c16 h
      refine lv_iconst (v := 0) hx hb dX9_start_19 (by decide) ?_
      obtain ⟨e0, e1, e2, e3, e4, e5⟩ := tup6 h
      subst e0
      subst e1
      subst e2
      subst e3
      subst e4
      subst e5
      have hP9 : va_P D vwCl [(a_t, .inr (8, [.ref a_t_forms, .ref a_t_roll, .int c_t_many, .long c_t_taps, .int c_t_cells, .int c_t_acts, .int c_t_refused, .int c_t_knocks, .int c_t_thrown_13])), (a_t_forms, .inl (cyJ, 6, .inr (.inl f_t_forms)))] H := hP.sub [1, 0] rfl
      have hD9 : va_D A [(a_t, .inr (8, [.ref a_t_forms, .ref a_t_roll, .int c_t_many, .long c_t_taps, .int c_t_cells, .int c_t_acts, .int c_t_refused, .int c_t_knocks, .int c_t_thrown_13])), (a_t_forms, .inl (cyJ, 6, .inr (.inl f_t_forms)))] := hD.sub [1, 0] (by decide) rfl
      exact W.iret hx hb hr (fun t ht hW => ⟨⟨_, (), rfl, rfl, wQA_of ht hP9 hD9⟩, hS.F ht⟩) hS.2.2 dX9_start_20
  · have h := it_ c5 h
    refine lv_iconst (v := 1) hx hb dX9_start_8 (by decide) ?_
    refine lv_goto (tgt := 13) hx hb dX9_start_9 (by decide) ?_
    obtain ⟨r13, c_t_thrown_13, hc13, h⟩ := obn2_h h
    have hPc := hP.sub (ws' := [(a_t, .inr (8, [.ref a_t_forms, .ref a_t_roll, .int c_t_many, .long c_t_taps, .int c_t_cells, .int c_t_acts, .int c_t_refused, .int c_t_knocks, .int c_t_thrown]))]) [0] rfl
    have hDc := hD.sub (ws' := [(a_t, .inr (8, [.ref a_t_forms, .ref a_t_roll, .int c_t_many, .long c_t_taps, .int c_t_cells, .int c_t_acts, .int c_t_refused, .int c_t_knocks, .int c_t_thrown]))]) [0] (by decide) rfl
    refine hp_i (w1 := [(a_t, .inr (8, [.ref a_t_forms, .ref a_t_roll, .int c_t_many, .long c_t_taps, .int c_t_cells, .int c_t_acts, .int c_t_refused, .int c_t_knocks, .int c_t_thrown_13]))]) (wr := [(a_t_forms, .inl (cyJ, 6, .inr (.inl f_t_forms)))]) (va_runV (As := [.int (1 : Int32)]) (rest := []) hcf (c_X9_isThrown_ l D cyJ s.heap.size a_t a_t_forms a_t_roll c_t_many c_t_taps c_t_cells c_t_acts c_t_refused c_t_knocks c_t_thrown (1 : Int32) r13 c_t_thrown_13 hc13) (cwV 1 hts gX9_start_X9_isThrown_ rfl rfl rfl ydX9_isThrown_ ⟨Nat.le_of_ble_eq_true rfl, Nat.le_of_ble_eq_true rfl⟩) ⟨bl_PD, va_recv hK hP (ci := 8) (q0 := 0) rfl rfl, pr_PD hPc hK0 hDc hnw⟩ rfl rfl hl.1 rfl (lv_room (Nat.le_of_ble_eq_true rfl)) dX9_start_13 ⟨Nat.le_of_ble_eq_true rfl, Nat.le_of_ble_eq_true rfl⟩) hP hD hS hA [0] [1] rfl rfl (by decide) (by decide) (fun H locs hP hD hS => ?_)
    have hP : va_P D vwCl [(a_t_forms, .inl (cyJ, 6, .inr (.inl f_t_forms))), (a_t, .inr (8, [.ref a_t_forms, .ref a_t_roll, .int c_t_many, .long c_t_taps, .int c_t_cells, .int c_t_acts, .int c_t_refused, .int c_t_knocks, .int c_t_thrown_13]))] H := hP
    have hD : va_D A [(a_t_forms, .inl (cyJ, 6, .inr (.inl f_t_forms))), (a_t, .inr (8, [.ref a_t_forms, .ref a_t_roll, .int c_t_many, .long c_t_taps, .int c_t_cells, .int c_t_acts, .int c_t_refused, .int c_t_knocks, .int c_t_thrown_13]))] := hD
    refine lv_if_eq (tgt := 21) hx hb dX9_start_16 (by decide) (fun c16 => ?_) (fun c16 => ?_)
    · have h := it_ c16 h
      refine lv_aload_n hx hb dX9_start_21 rfl (lv_at hl 0 rfl) ?_
      refine va_get (D := D) (ci := 8) (v := .ref a_t_forms) (C := RX9) (T := TX9) (N := 9) hx hb hts hinX9 hown hK hP 1 rfl rfl 0 (by decide) hfl9 (fun _ h9 => h9) rfl dX9_start_22 ?_
      refine lv_iload_n hx hb dX9_start_25 rfl (lv_at hl 1 rfl) ?_
      obtain ⟨hq26, h⟩ := chk_h h
      refine va_lald hx hb hK hP 0 0 rfl rfl hq26 dX9_start_26 ?_
      obtain ⟨r27, hc27, h⟩ := obn_h h
      refine pz_callS (As := [.long (f_t_forms p0.toNatClampNeg)]) (rest := []) hcf (c_X9_isWheel l (f_t_forms p0.toNatClampNeg) r27 hc27) (va_cwS 1 hts gX9_start_X9_isWheel rfl rfl rfl ydX9_isWheel ⟨Nat.le_of_ble_eq_true rfl, Nat.le_of_ble_eq_true rfl⟩) hnw rfl hl.1 rfl (Nat.le_of_ble_eq_true rfl) dX9_start_27 ⟨Nat.le_of_ble_eq_true rfl, Nat.le_of_ble_eq_true rfl⟩ ?_
      refine lv_if_ne (tgt := 38) hx hb dX9_start_30 (by decide) (fun c30 => ?_) (fun c30 => ?_)
      · have h := if_ c30 h
        refine lv_aload_n hx hb dX9_start_38 rfl (lv_at hl 0 rfl) ?_
        refine lv_aload_n hx hb dX9_start_39 rfl (lv_at hl 0 rfl) ?_
        refine va_get (D := D) (ci := 8) (v := .ref a_t_forms) (C := RX9) (T := TX9) (N := 9) hx hb hts hinX9 hown hK hP 1 rfl rfl 0 (by decide) hfl9 (fun _ h9 => h9) rfl dX9_start_40 ?_
        refine lv_iload_n hx hb dX9_start_43 rfl (lv_at hl 1 rfl) ?_
        obtain ⟨hq44, h⟩ := chk_h h
        refine va_lald hx hb hK hP 0 0 rfl rfl hq44 dX9_start_44 ?_
        refine lv_topl (fun c_t_taps_45 e_c_t_taps_45 => ?_)
        have h := bnd_h e_c_t_taps_45 h
        refine va_put (D := D) (ci := 8) (v := .long c_t_taps_45) (ty := .long) (C := RX9) (T := TX9) (N := 9) hx hb hts hinX9 tyX9 tyX9_ok nmX9 hown hK hP hD hS 1 rfl rfl 3 (by decide) hfl18 (fun _ h9 => h9) rfl (by decide +kernel) rfl rfl (Nat.le_of_ble_eq_true rfl) dX9_start_45 (fun H locs hP hD hS => ?_)
        have hP : va_P D vwCl [(a_t_forms, .inl (cyJ, 6, .inr (.inl f_t_forms))), (a_t, .inr (8, [.ref a_t_forms, .ref a_t_roll, .int c_t_many, .long c_t_taps_45, .int c_t_cells, .int c_t_acts, .int c_t_refused, .int c_t_knocks, .int c_t_thrown_13]))] H := hP
        have hD : va_D A [(a_t_forms, .inl (cyJ, 6, .inr (.inl f_t_forms))), (a_t, .inr (8, [.ref a_t_forms, .ref a_t_roll, .int c_t_many, .long c_t_taps_45, .int c_t_cells, .int c_t_acts, .int c_t_refused, .int c_t_knocks, .int c_t_thrown_13]))] := hD
        refine lv_aload_n hx hb dX9_start_48 rfl (lv_at hl 0 rfl) ?_
        refine lv_iconst (v := 1) hx hb dX9_start_49 (by decide) ?_
        refine lv_aload_n hx hb dX9_start_50 rfl (lv_at hl 0 rfl) ?_
        refine va_get (D := D) (ci := 8) (v := .long c_t_taps_45) (C := RX9) (T := TX9) (N := 9) hx hb hts hinX9 hown hK hP 1 rfl rfl 3 (by decide) hfl18 (fun _ h9 => h9) rfl dX9_start_51 ?_
        obtain ⟨r54, hc54, h⟩ := obn_h h
        refine pz_callS (As := [.long c_t_taps_45]) (rest := [.int (1 : Int32), .ref a_t]) hcf (c_X9_degreeOf l c_t_taps_45 r54 hc54) (va_cwS 1 hts gX9_start_X9_degreeOf rfl rfl rfl ydX9_degreeOf ⟨Nat.le_of_ble_eq_true rfl, Nat.le_of_ble_eq_true rfl⟩) hnw rfl hl.1 rfl (Nat.le_of_ble_eq_true rfl) dX9_start_54 ⟨Nat.le_of_ble_eq_true rfl, Nat.le_of_ble_eq_true rfl⟩ ?_
        refine lv_iconst (v := 1) hx hb dX9_start_57 (by decide) ?_
        refine lv_isub hx hb dX9_start_58 ?_
        refine lv_ishl hx hb dX9_start_59 ?_
        refine lv_topi (fun c_t_cells_60 e_c_t_cells_60 => ?_)
        have h := bnd_h e_c_t_cells_60 h
        refine va_put (D := D) (ci := 8) (v := .int c_t_cells_60) (ty := .int) (C := RX9) (T := TX9) (N := 9) hx hb hts hinX9 tyX9 tyX9_ok nmX9 hown hK hP hD hS 1 rfl rfl 4 (by decide) hfl22 (fun _ h9 => h9) rfl (by decide +kernel) rfl rfl (Nat.le_of_ble_eq_true rfl) dX9_start_60 (fun H locs hP hD hS => ?_)
        have hP : va_P D vwCl [(a_t_forms, .inl (cyJ, 6, .inr (.inl f_t_forms))), (a_t, .inr (8, [.ref a_t_forms, .ref a_t_roll, .int c_t_many, .long c_t_taps_45, .int c_t_cells_60, .int c_t_acts, .int c_t_refused, .int c_t_knocks, .int c_t_thrown_13]))] H := hP
        have hD : va_D A [(a_t_forms, .inl (cyJ, 6, .inr (.inl f_t_forms))), (a_t, .inr (8, [.ref a_t_forms, .ref a_t_roll, .int c_t_many, .long c_t_taps_45, .int c_t_cells_60, .int c_t_acts, .int c_t_refused, .int c_t_knocks, .int c_t_thrown_13]))] := hD
        refine lv_aload_n hx hb dX9_start_63 rfl (lv_at hl 0 rfl) ?_
        refine lv_aload_n hx hb dX9_start_64 rfl (lv_at hl 0 rfl) ?_
        refine va_get (D := D) (ci := 8) (v := .long c_t_taps_45) (C := RX9) (T := TX9) (N := 9) hx hb hts hinX9 hown hK hP 1 rfl rfl 3 (by decide) hfl18 (fun _ h9 => h9) rfl dX9_start_65 ?_
        obtain ⟨r68, hc68, h⟩ := obn_h h
        refine pz_callS (As := [.long c_t_taps_45]) (rest := [.ref a_t]) hcf (c_X9_degreeOf l c_t_taps_45 r68 hc68) (va_cwS 1 hts gX9_start_X9_degreeOf rfl rfl rfl ydX9_degreeOf ⟨Nat.le_of_ble_eq_true rfl, Nat.le_of_ble_eq_true rfl⟩) hnw rfl hl.1 rfl (Nat.le_of_ble_eq_true rfl) dX9_start_68 ⟨Nat.le_of_ble_eq_true rfl, Nat.le_of_ble_eq_true rfl⟩ ?_
        obtain ⟨r71, c_t_acts_71, hc71, h⟩ := obn2_h h
        have hPc := hP.sub (ws' := [(a_t, .inr (8, [.ref a_t_forms, .ref a_t_roll, .int c_t_many, .long c_t_taps_45, .int c_t_cells_60, .int c_t_acts, .int c_t_refused, .int c_t_knocks, .int c_t_thrown_13]))]) [1] rfl
        have hDc := hD.sub (ws' := [(a_t, .inr (8, [.ref a_t_forms, .ref a_t_roll, .int c_t_many, .long c_t_taps_45, .int c_t_cells_60, .int c_t_acts, .int c_t_refused, .int c_t_knocks, .int c_t_thrown_13]))]) [1] (by decide) rfl
        refine hp_i (w1 := [(a_t, .inr (8, [.ref a_t_forms, .ref a_t_roll, .int c_t_many, .long c_t_taps_45, .int c_t_cells_60, .int c_t_acts_71, .int c_t_refused, .int c_t_knocks, .int c_t_thrown_13]))]) (wr := [(a_t_forms, .inl (cyJ, 6, .inr (.inl f_t_forms)))]) (va_runV (As := [.int r68]) (rest := []) hcf (c_X9_done l D cyJ H.size a_t a_t_forms a_t_roll c_t_many c_t_taps_45 c_t_cells_60 c_t_acts c_t_refused c_t_knocks c_t_thrown_13 r68 r71 c_t_acts_71 hc71) (cwV 1 hts gX9_start_X9_done rfl rfl rfl ydX9_done ⟨Nat.le_of_ble_eq_true rfl, Nat.le_of_ble_eq_true rfl⟩) ⟨bl_PD, va_recv hK hP (ci := 8) (q0 := 1) rfl rfl, pr_PD hPc hK0 hDc hnw⟩ rfl rfl hl.1 rfl (lv_room (Nat.le_of_ble_eq_true rfl)) dX9_start_71 ⟨Nat.le_of_ble_eq_true rfl, Nat.le_of_ble_eq_true rfl⟩) hP hD hS hA [1] [0] rfl rfl (by decide) (by decide) (fun H locs hP hD hS => ?_)
        have hP : va_P D vwCl [(a_t_forms, .inl (cyJ, 6, .inr (.inl f_t_forms))), (a_t, .inr (8, [.ref a_t_forms, .ref a_t_roll, .int c_t_many, .long c_t_taps_45, .int c_t_cells_60, .int c_t_acts_71, .int c_t_refused, .int c_t_knocks, .int c_t_thrown_13]))] H := hP
        have hD : va_D A [(a_t_forms, .inl (cyJ, 6, .inr (.inl f_t_forms))), (a_t, .inr (8, [.ref a_t_forms, .ref a_t_roll, .int c_t_many, .long c_t_taps_45, .int c_t_cells_60, .int c_t_acts_71, .int c_t_refused, .int c_t_knocks, .int c_t_thrown_13]))] := hD
        obtain ⟨e0, e1, e2, e3, e4, e5⟩ := tup6 h
        subst e0
        subst e1
        subst e2
        subst e3
        subst e4
        subst e5
        have hP9 : va_P D vwCl [(a_t, .inr (8, [.ref a_t_forms, .ref a_t_roll, .int c_t_many, .long c_t_taps_45, .int c_t_cells_60, .int c_t_acts_71, .int c_t_refused, .int c_t_knocks, .int c_t_thrown_13])), (a_t_forms, .inl (cyJ, 6, .inr (.inl f_t_forms)))] H := hP.sub [1, 0] rfl
        have hD9 : va_D A [(a_t, .inr (8, [.ref a_t_forms, .ref a_t_roll, .int c_t_many, .long c_t_taps_45, .int c_t_cells_60, .int c_t_acts_71, .int c_t_refused, .int c_t_knocks, .int c_t_thrown_13])), (a_t_forms, .inl (cyJ, 6, .inr (.inl f_t_forms)))] := hD.sub [1, 0] (by decide) rfl
        exact W.iret hx hb hr (fun t ht hW => ⟨⟨_, (), rfl, rfl, wQA_of ht hP9 hD9⟩, hS.F ht⟩) hS.2.2 dX9_start_74
      · have h := it_ c30 h
        refine lv_aload_n hx hb dX9_start_33 rfl (lv_at hl 0 rfl) ?_
        obtain ⟨r34, c_t_refused_34, hc34, h⟩ := obn2_h h
        have hPc := hP.sub (ws' := [(a_t, .inr (8, [.ref a_t_forms, .ref a_t_roll, .int c_t_many, .long c_t_taps, .int c_t_cells, .int c_t_acts, .int c_t_refused, .int c_t_knocks, .int c_t_thrown_13]))]) [1] rfl
        have hDc := hD.sub (ws' := [(a_t, .inr (8, [.ref a_t_forms, .ref a_t_roll, .int c_t_many, .long c_t_taps, .int c_t_cells, .int c_t_acts, .int c_t_refused, .int c_t_knocks, .int c_t_thrown_13]))]) [1] (by decide) rfl
        refine hp_i (w1 := [(a_t, .inr (8, [.ref a_t_forms, .ref a_t_roll, .int c_t_many, .long c_t_taps, .int c_t_cells, .int c_t_acts, .int c_t_refused_34, .int c_t_knocks, .int c_t_thrown_13]))]) (wr := [(a_t_forms, .inl (cyJ, 6, .inr (.inl f_t_forms)))]) (va_runV (As := []) (rest := []) hcf (c_X9_no l D cyJ H.size a_t a_t_forms a_t_roll c_t_many c_t_taps c_t_cells c_t_acts c_t_refused c_t_knocks c_t_thrown_13 r34 c_t_refused_34 hc34) (cwV 0 hts gX9_start_X9_no rfl rfl rfl ydX9_no ⟨Nat.le_of_ble_eq_true rfl, Nat.le_of_ble_eq_true rfl⟩) ⟨bl_PD, va_recv hK hP (ci := 8) (q0 := 1) rfl rfl, pr_PD hPc hK0 hDc hnw⟩ rfl rfl hl.1 rfl (lv_room (Nat.le_of_ble_eq_true rfl)) dX9_start_34 ⟨Nat.le_of_ble_eq_true rfl, Nat.le_of_ble_eq_true rfl⟩) hP hD hS hA [1] [0] rfl rfl (by decide) (by decide) (fun H locs hP hD hS => ?_)
        have hP : va_P D vwCl [(a_t_forms, .inl (cyJ, 6, .inr (.inl f_t_forms))), (a_t, .inr (8, [.ref a_t_forms, .ref a_t_roll, .int c_t_many, .long c_t_taps, .int c_t_cells, .int c_t_acts, .int c_t_refused_34, .int c_t_knocks, .int c_t_thrown_13]))] H := hP
        have hD : va_D A [(a_t_forms, .inl (cyJ, 6, .inr (.inl f_t_forms))), (a_t, .inr (8, [.ref a_t_forms, .ref a_t_roll, .int c_t_many, .long c_t_taps, .int c_t_cells, .int c_t_acts, .int c_t_refused_34, .int c_t_knocks, .int c_t_thrown_13]))] := hD
        obtain ⟨e0, e1, e2, e3, e4, e5⟩ := tup6 h
        subst e0
        subst e1
        subst e2
        subst e3
        subst e4
        subst e5
        have hP9 : va_P D vwCl [(a_t, .inr (8, [.ref a_t_forms, .ref a_t_roll, .int c_t_many, .long c_t_taps, .int c_t_cells, .int c_t_acts, .int c_t_refused_34, .int c_t_knocks, .int c_t_thrown_13])), (a_t_forms, .inl (cyJ, 6, .inr (.inl f_t_forms)))] H := hP.sub [1, 0] rfl
        have hD9 : va_D A [(a_t, .inr (8, [.ref a_t_forms, .ref a_t_roll, .int c_t_many, .long c_t_taps, .int c_t_cells, .int c_t_acts, .int c_t_refused_34, .int c_t_knocks, .int c_t_thrown_13])), (a_t_forms, .inl (cyJ, 6, .inr (.inl f_t_forms)))] := hD.sub [1, 0] (by decide) rfl
        exact W.iret hx hb hr (fun t ht hW => ⟨⟨_, (), rfl, rfl, wQA_of ht hP9 hD9⟩, hS.F ht⟩) hS.2.2 dX9_start_37
    · have h := if_ c16 h
      refine lv_iconst (v := 0) hx hb dX9_start_19 (by decide) ?_
      obtain ⟨e0, e1, e2, e3, e4, e5⟩ := tup6 h
      subst e0
      subst e1
      subst e2
      subst e3
      subst e4
      subst e5
      have hP9 : va_P D vwCl [(a_t, .inr (8, [.ref a_t_forms, .ref a_t_roll, .int c_t_many, .long c_t_taps, .int c_t_cells, .int c_t_acts, .int c_t_refused, .int c_t_knocks, .int c_t_thrown_13])), (a_t_forms, .inl (cyJ, 6, .inr (.inl f_t_forms)))] H := hP.sub [1, 0] rfl
      have hD9 : va_D A [(a_t, .inr (8, [.ref a_t_forms, .ref a_t_roll, .int c_t_many, .long c_t_taps, .int c_t_cells, .int c_t_acts, .int c_t_refused, .int c_t_knocks, .int c_t_thrown_13])), (a_t_forms, .inl (cyJ, 6, .inr (.inl f_t_forms)))] := hD.sub [1, 0] (by decide) rfl
      exact W.iret hx hb hr (fun t ht hW => ⟨⟨_, (), rfl, rfl, wQA_of ht hP9 hD9⟩, hS.F ht⟩) hS.2.2 dX9_start_20

noncomputable abbrev rmX9_step : Room := { frames := 4, cells := 0, slots := 0, locals := 87 }
theorem ydX9_step : yX9_step.cls = RX9 ∧ yX9_step.cls ≠ "java/lang/invoke/MethodHandle" ∧ yX9_step.cls ≠ "java/lang/invoke/VarHandle" ∧ (parseMethodDescriptor yX9_step.desc).map (fun d => d.parameters.length) = some 1 := by decide +kernel
noncomputable def S_X9_step_29 (z1_29 : Int32) (c_t_taps_z29 : Int64) (k61 : Int32 → Int32 → Option (Int32 × Int32 × Int32 × Int32)) (ih29 : Int32 → Int32 → Int32 → Option (Int32 × Int32 × Int32 × Int32)) (y2_29 : Int32) (y3_29 : Int32) (c_t_cells_29 : Int32) : Option (Int32 × Int32 × Int32 × Int32) :=
 (if z1_29 ≤ y3_29 then
 k61 y2_29 c_t_cells_29
else
 bnd (y2_29 + (c_t_cells_29 &&& (1 : Int32))) (fun x2_42 =>
 obn (F_X9_next c_t_taps_z29 c_t_cells_29) (fun r49 =>
 bnd (y3_29 + 1) (fun x3_55 =>
 ih29 x2_42 x3_55 r49))))
noncomputable def F_X9_step (c_t_taps : Int64) (c_t_cells : Int32) (c_t_acts : Int32) (p0 : Int32) : Option (Int32 × Int32 × Int32 × Int32) :=
 (if p0 < 0 then
 obn2 (F_X9_isThrown_ (1 : Int32)) (fun r17 c_t_thrown_17 =>
 (if r17 = 0 then
 LQ3 (S_X9_step_29 p0 c_t_taps (fun y2_29_61 c_t_cells_29_61 =>
 obn2 (F_X9_done c_t_acts y2_29_61) (fun r63 c_t_acts_63 =>
 some (r63, c_t_cells_29_61, c_t_acts_63, c_t_thrown_17)))) 20000 (0 : Int32) (0 : Int32) c_t_cells
else
 some ((0 : Int32), c_t_cells, c_t_acts, c_t_thrown_17)))
else
 (if p0 ≤ (255 : Int32) then
 obn2 (F_X9_isThrown_ (0 : Int32)) (fun r17 c_t_thrown_17 =>
 (if r17 = 0 then
 LQ3 (S_X9_step_29 p0 c_t_taps (fun y2_29_61 c_t_cells_29_61 =>
 obn2 (F_X9_done c_t_acts y2_29_61) (fun r63 c_t_acts_63 =>
 some (r63, c_t_cells_29_61, c_t_acts_63, c_t_thrown_17)))) 20000 (0 : Int32) (0 : Int32) c_t_cells
else
 some ((0 : Int32), c_t_cells, c_t_acts, c_t_thrown_17)))
else
 obn2 (F_X9_isThrown_ (1 : Int32)) (fun r17 c_t_thrown_17 =>
 (if r17 = 0 then
 LQ3 (S_X9_step_29 p0 c_t_taps (fun y2_29_61 c_t_cells_29_61 =>
 obn2 (F_X9_done c_t_acts y2_29_61) (fun r63 c_t_acts_63 =>
 some (r63, c_t_cells_29_61, c_t_acts_63, c_t_thrown_17)))) 20000 (0 : Int32) (0 : Int32) c_t_cells
else
 some ((0 : Int32), c_t_cells, c_t_acts, c_t_thrown_17)))))
set_option maxHeartbeats 4000000 in
set_option maxRecDepth 100000 in
theorem c_X9_step (l : Launch) (D : va_G) (cyJ : ClassId) (sz : Nat) (a_t : Nat) (a_t_forms : Nat) (a_t_roll : Nat) (c_t_many : Int32) (c_t_taps : Int64) (c_t_cells : Int32) (c_t_acts : Int32) (c_t_refused : Int32) (c_t_knocks : Int32) (c_t_thrown : Int32) (p0 : Int32) (r0 : Int32) (o_c_t_cells : Int32) (o_c_t_acts : Int32) (o_c_t_thrown : Int32) (hF : F_X9_step c_t_taps c_t_cells c_t_acts p0 = some (r0, o_c_t_cells, o_c_t_acts, o_c_t_thrown)) : Met l yX9_step wsX9_step rmX9_step (va_Pc [.ref a_t, .int p0] (wPD D [(cyJ, .long)] [(a_t, .inr (8, [.ref a_t_forms, .ref a_t_roll, .int c_t_many, .long c_t_taps, .int c_t_cells, .int c_t_acts, .int c_t_refused, .int c_t_knocks, .int c_t_thrown]))] sz)) (va_Qi (fun (r : Int32) (_ : Unit) => r = r0) (fun _ t => wQA D [(a_t, .inr (8, [.ref a_t_forms, .ref a_t_roll, .int c_t_many, .long c_t_taps, .int o_c_t_cells, .int o_c_t_acts, .int c_t_refused, .int c_t_knocks, .int o_c_t_thrown]))] (va_A [(a_t, .inr (8, [.ref a_t_forms, .ref a_t_roll, .int c_t_many, .long c_t_taps, .int c_t_cells, .int c_t_acts, .int c_t_refused, .int c_t_knocks, .int c_t_thrown]))] sz) t) (va_A [(a_t, .inr (8, [.ref a_t_forms, .ref a_t_roll, .int c_t_many, .long c_t_taps, .int c_t_cells, .int c_t_acts, .int c_t_refused, .int c_t_knocks, .int c_t_thrown]))] sz)) 0 0 (va_A [(a_t, .inr (8, [.ref a_t_forms, .ref a_t_roll, .int c_t_many, .long c_t_taps, .int c_t_cells, .int c_t_acts, .int c_t_refused, .int c_t_knocks, .int c_t_thrown]))] sz) := by
  refine Met.ofW (cc := cX9_step) (maxL := 4) (ret := (some .int)) (by decide) rfl ?_
  intro p e s m args below meth c s₁ B hml hv
  obtain ⟨rfl, hsz, hP, hK, hD0, hnw⟩ := hv
  have hx := B.exec
  have hb := B.bytes
  have hr := B.returns
  have hts := atoms_spec (ws := wsX9_step) B.pre
  have hown : s.vm.findClass RX9 = some m.cls := findClass_of_methodNamed B.named
  have hlocks := B.notSynchronized
  have hcf : CallFix _ _ _ _ _ _ _ _ _ := ⟨hx, hb, hml, hown, hts⟩
  have hinX9 : ∀ w ∈ u_ws RX9 TX9 9, w ∈ wsX9_step := by decide +kernel
  have hfl22 := hts (.fieldLink RX9 22 "FormwheelModel" "cells" "I") (by decide +kernel)
  subst hsz
  have hD := hD0.self (sz := s.heap.size)
  generalize hAe : va_A [(a_t, .inr (8, [.ref a_t_forms, .ref a_t_roll, .int c_t_many, .long c_t_taps, .int c_t_cells, .int c_t_acts, .int c_t_refused, .int c_t_knocks, .int c_t_thrown]))] s.heap.size = A at hD ⊢
  have hA : ∀ q : Nat, s.heap.size ≤ q → A q := fun q h => by rw [← hAe]; exact Or.inr h
  have hS : va_S A s.heap s.heap [] := va_S.rf
  have hP : va_P D vwCl [(a_t, .inr (8, [.ref a_t_forms, .ref a_t_roll, .int c_t_many, .long c_t_taps, .int c_t_cells, .int c_t_acts, .int c_t_refused, .int c_t_knocks, .int c_t_thrown]))] s.heap := hP
  have hK0 := hK
  have hl := lv_entry ([.ref a_t, .int p0]) (n := 4) (Nat.le_of_ble_eq_true rfl)
  rw [lg_entry_eq]
  generalize (lg_sl ([.ref a_t, .int p0]) ++ List.replicate (4 - (lg_sl ([.ref a_t, .int p0])).length) Slot.unset).toArray = ls at hl ⊢
  have hl : lv_has ls 4 [(0, .ref a_t), (1, .int p0)] := hl
  have h := hF
  clear hF
  unfold F_X9_step at h
  refine lv_aload_n hx hb dX9_step_0 rfl (lv_at hl 0 rfl) ?_
  refine lv_iload_n hx hb dX9_step_1 rfl (lv_at hl 1 rfl) ?_
  refine lv_if_lt (tgt := 12) hx hb dX9_step_2 (by decide) (fun c2 => ?_) (fun c2 => ?_)
  · have h := it_ c2 h
    refine lv_iconst (v := 1) hx hb dX9_step_12 (by decide) ?_
    refine lv_goto (tgt := 17) hx hb dX9_step_13 (by decide) ?_
    obtain ⟨r17, c_t_thrown_17, hc17, h⟩ := obn2_h h
    have hPc := hP.sub (ws' := [(a_t, .inr (8, [.ref a_t_forms, .ref a_t_roll, .int c_t_many, .long c_t_taps, .int c_t_cells, .int c_t_acts, .int c_t_refused, .int c_t_knocks, .int c_t_thrown]))]) [0] rfl
    have hDc := hD.sub (ws' := [(a_t, .inr (8, [.ref a_t_forms, .ref a_t_roll, .int c_t_many, .long c_t_taps, .int c_t_cells, .int c_t_acts, .int c_t_refused, .int c_t_knocks, .int c_t_thrown]))]) [0] (by decide) rfl
    refine hp_i (w1 := [(a_t, .inr (8, [.ref a_t_forms, .ref a_t_roll, .int c_t_many, .long c_t_taps, .int c_t_cells, .int c_t_acts, .int c_t_refused, .int c_t_knocks, .int c_t_thrown_17]))]) (wr := []) (va_runV (As := [.int (1 : Int32)]) (rest := []) hcf (c_X9_isThrown_ l D cyJ s.heap.size a_t a_t_forms a_t_roll c_t_many c_t_taps c_t_cells c_t_acts c_t_refused c_t_knocks c_t_thrown (1 : Int32) r17 c_t_thrown_17 hc17) (cwV 1 hts gX9_step_X9_isThrown_ rfl rfl rfl ydX9_isThrown_ ⟨Nat.le_of_ble_eq_true rfl, Nat.le_of_ble_eq_true rfl⟩) ⟨bl_PD, va_recv hK hP (ci := 8) (q0 := 0) rfl rfl, pr_PD hPc hK0 hDc hnw⟩ rfl rfl hl.1 rfl (lv_room (Nat.le_of_ble_eq_true rfl)) dX9_step_17 ⟨Nat.le_of_ble_eq_true rfl, Nat.le_of_ble_eq_true rfl⟩) hP hD hS hA [0] [] rfl rfl (by decide) (by decide) (fun H locs hP hD hS => ?_)
    have hP : va_P D vwCl [(a_t, .inr (8, [.ref a_t_forms, .ref a_t_roll, .int c_t_many, .long c_t_taps, .int c_t_cells, .int c_t_acts, .int c_t_refused, .int c_t_knocks, .int c_t_thrown_17]))] H := hP
    have hD : va_D A [(a_t, .inr (8, [.ref a_t_forms, .ref a_t_roll, .int c_t_many, .long c_t_taps, .int c_t_cells, .int c_t_acts, .int c_t_refused, .int c_t_knocks, .int c_t_thrown_17]))] := hD
    refine lv_if_eq (tgt := 25) hx hb dX9_step_20 (by decide) (fun c20 => ?_) (fun c20 => ?_)
    · have h := it_ c20 h
      refine lv_iconst (v := 0) hx hb dX9_step_25 (by decide) ?_
      refine lv_istore_n (lv' := [(2, .int (0 : Int32)), (0, .ref a_t), (1, .int p0)]) hx hb dX9_step_26 rfl hl (by decide) rfl (fun ls hl => ?_)
      refine lv_iconst (v := 0) hx hb dX9_step_27 (by decide) ?_
      refine lv_istore_n (lv' := [(3, .int (0 : Int32)), (2, .int (0 : Int32)), (0, .ref a_t), (1, .int p0)]) hx hb dX9_step_28 rfl hl (by decide) rfl (fun ls hl => ?_)
      refine LQ3_k1 (M := fun (y2_29 : Int32) (y3_29 : Int32) (c_t_cells_29 : Int32) => ∀ (H : Heap) (locs : List Loc), va_P D vwCl [(a_t, .inr (8, [.ref a_t_forms, .ref a_t_roll, .int c_t_many, .long c_t_taps, .int c_t_cells_29, .int c_t_acts, .int c_t_refused, .int c_t_knocks, .int c_t_thrown_17]))] H → va_D A [(a_t, .inr (8, [.ref a_t_forms, .ref a_t_roll, .int c_t_many, .long c_t_taps, .int c_t_cells_29, .int c_t_acts, .int c_t_refused, .int c_t_knocks, .int c_t_thrown_17]))] → va_S A s.heap H locs → ∀ (ls : Array Slot), lv_has ls 4 [(0, .ref a_t), (1, .int p0), (2, .int y2_29), (3, .int y3_29)] → W p l e rmX9_step s m ([.ref a_t, .int p0] : List Value).toArray below meth c H locs 0 0 (MQ below (va_Qi (fun (r : Int32) (_ : Unit) => r = r0) (fun _ t => wQA D [(a_t, .inr (8, [.ref a_t_forms, .ref a_t_roll, .int c_t_many, .long c_t_taps, .int o_c_t_cells, .int o_c_t_acts, .int c_t_refused, .int c_t_knocks, .int o_c_t_thrown]))] A t) A) ([.ref a_t, .int p0] : List Value).toArray s 0 0 A) (F0 m 29 ls [])) ?_ _ _ _ _ h _ _ hP hD hS ls (lv_sub hl [2, 3, 1, 0] rfl)
      intro k61 hk61 ih29 hih29 y2_29 y3_29 c_t_cells_29 h H locs hP hD hS ls hl
      unfold S_X9_step_29 at h
      refine lv_iload_n hx hb dX9_step_29 rfl (lv_at hl 3 rfl) ?_
      refine lv_iload_n hx hb dX9_step_30 rfl (lv_at hl 1 rfl) ?_
      refine lv_icmp_ge (tgt := 61) hx hb dX9_step_31 (by decide) (fun c31 => ?_) (fun c31 => ?_)
      · have h := it_ c31 h
        rw [hk61] at h
        refine lv_aload_n hx hb dX9_step_61 rfl (lv_at hl 0 rfl) ?_
        refine lv_iload_n hx hb dX9_step_62 rfl (lv_at hl 2 rfl) ?_
        obtain ⟨r63, c_t_acts_63, hc63, h⟩ := obn2_h h
        have hPc := hP.sub (ws' := [(a_t, .inr (8, [.ref a_t_forms, .ref a_t_roll, .int c_t_many, .long c_t_taps, .int c_t_cells_29, .int c_t_acts, .int c_t_refused, .int c_t_knocks, .int c_t_thrown_17]))]) [0] rfl
        have hDc := hD.sub (ws' := [(a_t, .inr (8, [.ref a_t_forms, .ref a_t_roll, .int c_t_many, .long c_t_taps, .int c_t_cells_29, .int c_t_acts, .int c_t_refused, .int c_t_knocks, .int c_t_thrown_17]))]) [0] (by decide) rfl
        refine hp_i (w1 := [(a_t, .inr (8, [.ref a_t_forms, .ref a_t_roll, .int c_t_many, .long c_t_taps, .int c_t_cells_29, .int c_t_acts_63, .int c_t_refused, .int c_t_knocks, .int c_t_thrown_17]))]) (wr := []) (va_runV (As := [.int y2_29]) (rest := []) hcf (c_X9_done l D cyJ H.size a_t a_t_forms a_t_roll c_t_many c_t_taps c_t_cells_29 c_t_acts c_t_refused c_t_knocks c_t_thrown_17 y2_29 r63 c_t_acts_63 hc63) (cwV 1 hts gX9_step_X9_done rfl rfl rfl ydX9_done ⟨Nat.le_of_ble_eq_true rfl, Nat.le_of_ble_eq_true rfl⟩) ⟨bl_PD, va_recv hK hP (ci := 8) (q0 := 0) rfl rfl, pr_PD hPc hK0 hDc hnw⟩ rfl rfl hl.1 rfl (lv_room (Nat.le_of_ble_eq_true rfl)) dX9_step_63 ⟨Nat.le_of_ble_eq_true rfl, Nat.le_of_ble_eq_true rfl⟩) hP hD hS hA [0] [] rfl rfl (by decide) (by decide) (fun H locs hP hD hS => ?_)
        have hP : va_P D vwCl [(a_t, .inr (8, [.ref a_t_forms, .ref a_t_roll, .int c_t_many, .long c_t_taps, .int c_t_cells_29, .int c_t_acts_63, .int c_t_refused, .int c_t_knocks, .int c_t_thrown_17]))] H := hP
        have hD : va_D A [(a_t, .inr (8, [.ref a_t_forms, .ref a_t_roll, .int c_t_many, .long c_t_taps, .int c_t_cells_29, .int c_t_acts_63, .int c_t_refused, .int c_t_knocks, .int c_t_thrown_17]))] := hD
        obtain ⟨e0, e1, e2, e3⟩ := tup4 h
        subst e0
        subst e1
        subst e2
        subst e3
        have hP9 : va_P D vwCl [(a_t, .inr (8, [.ref a_t_forms, .ref a_t_roll, .int c_t_many, .long c_t_taps, .int c_t_cells_29, .int c_t_acts_63, .int c_t_refused, .int c_t_knocks, .int c_t_thrown_17]))] H := hP.sub [0] rfl
        have hD9 : va_D A [(a_t, .inr (8, [.ref a_t_forms, .ref a_t_roll, .int c_t_many, .long c_t_taps, .int c_t_cells_29, .int c_t_acts_63, .int c_t_refused, .int c_t_knocks, .int c_t_thrown_17]))] := hD.sub [0] (by decide) rfl
        exact W.iret hx hb hr (fun t ht hW => ⟨⟨_, (), rfl, rfl, wQA_of ht hP9 hD9⟩, hS.F ht⟩) hS.2.2 dX9_step_66
      · have h := if_ c31 h
        refine lv_iload_n hx hb dX9_step_34 rfl (lv_at hl 2 rfl) ?_
        refine lv_aload_n hx hb dX9_step_35 rfl (lv_at hl 0 rfl) ?_
        refine va_get (D := D) (ci := 8) (v := .int c_t_cells_29) (C := RX9) (T := TX9) (N := 9) hx hb hts hinX9 hown hK hP 0 rfl rfl 4 (by decide) hfl22 (fun _ h9 => h9) rfl dX9_step_36 ?_
        refine lv_iconst (v := 1) hx hb dX9_step_39 (by decide) ?_
        refine lv_iand hx hb dX9_step_40 ?_
        refine lv_iadd hx hb dX9_step_41 ?_
        refine lv_topi (fun x2_42 e_x2_42 => ?_)
        have h := bnd_h e_x2_42 h
        refine lv_istore_n (lv' := [(2, .int x2_42), (0, .ref a_t), (1, .int p0), (3, .int y3_29)]) hx hb dX9_step_42 rfl hl (by decide) rfl (fun ls hl => ?_)
        refine lv_aload_n hx hb dX9_step_43 rfl (lv_at hl 1 rfl) ?_
        refine lv_aload_n hx hb dX9_step_44 rfl (lv_at hl 1 rfl) ?_
        refine lv_aload_n hx hb dX9_step_45 rfl (lv_at hl 1 rfl) ?_
        refine va_get (D := D) (ci := 8) (v := .int c_t_cells_29) (C := RX9) (T := TX9) (N := 9) hx hb hts hinX9 hown hK hP 0 rfl rfl 4 (by decide) hfl22 (fun _ h9 => h9) rfl dX9_step_46 ?_
        obtain ⟨r49, hc49, h⟩ := obn_h h
        have hPc : va_P D vwCl [(a_t, .inr (8, [.ref a_t_forms, .ref a_t_roll, .int c_t_many, .long c_t_taps, .int c_t_cells_29, .int c_t_acts, .int c_t_refused, .int c_t_knocks, .int c_t_thrown_17]))] H := hP.sub [0] rfl
        refine rd_callV (As := [.int c_t_cells_29]) (rest := [.ref a_t]) hcf (c_X9_next l D cyJ a_t a_t_forms a_t_roll c_t_many c_t_taps c_t_cells_29 c_t_acts c_t_refused c_t_knocks c_t_thrown_17 c_t_cells_29 r49 hc49) (cwV 1 hts gX9_step_X9_next rfl rfl rfl ydX9_next ⟨Nat.le_of_ble_eq_true rfl, Nat.le_of_ble_eq_true rfl⟩) hnw hPc hK0 (va_recv hK hP (ci := 8) (q0 := 0) rfl rfl) rfl hl.1 rfl (Nat.le_of_ble_eq_true rfl) dX9_step_49 ⟨Nat.le_of_ble_eq_true rfl, Nat.le_of_ble_eq_true rfl⟩ ?_
        refine va_put (D := D) (ci := 8) (v := .int r49) (ty := .int) (C := RX9) (T := TX9) (N := 9) hx hb hts hinX9 tyX9 tyX9_ok nmX9 hown hK hP hD hS 0 rfl rfl 4 (by decide) hfl22 (fun _ h9 => h9) rfl (by decide +kernel) rfl rfl (Nat.le_of_ble_eq_true rfl) dX9_step_52 (fun H locs hP hD hS => ?_)
        have hP : va_P D vwCl [(a_t, .inr (8, [.ref a_t_forms, .ref a_t_roll, .int c_t_many, .long c_t_taps, .int r49, .int c_t_acts, .int c_t_refused, .int c_t_knocks, .int c_t_thrown_17]))] H := hP
        have hD : va_D A [(a_t, .inr (8, [.ref a_t_forms, .ref a_t_roll, .int c_t_many, .long c_t_taps, .int r49, .int c_t_acts, .int c_t_refused, .int c_t_knocks, .int c_t_thrown_17]))] := hD
        obtain ⟨x3_55, e_x3_55⟩ : ∃ z : Int32, z = y3_29 + 1 := ⟨_, rfl⟩
        have h := bnd_h e_x3_55 h
        refine lv_iinc (v := x3_55) (lv' := [(3, .int x3_55), (2, .int x2_42), (0, .ref a_t), (1, .int p0)]) hx hb dX9_step_55 hl (k := 3) rfl (by rw [e_x3_55]; rfl) (by decide) rfl (fun ls hl => ?_)
        refine lv_goto (tgt := 29) hx hb dX9_step_58 (by decide) ?_
        exact hih29 x2_42 x3_55 r49 h _ _ (hP.sub [0] rfl) (hD.sub [0] (by decide) rfl) hS ls (lv_sub hl [2, 3, 1, 0] rfl)
    · have h := if_ c20 h
      refine lv_iconst (v := 0) hx hb dX9_step_23 (by decide) ?_
      obtain ⟨e0, e1, e2, e3⟩ := tup4 h
      subst e0
      subst e1
      subst e2
      subst e3
      have hP9 : va_P D vwCl [(a_t, .inr (8, [.ref a_t_forms, .ref a_t_roll, .int c_t_many, .long c_t_taps, .int c_t_cells, .int c_t_acts, .int c_t_refused, .int c_t_knocks, .int c_t_thrown_17]))] H := hP.sub [0] rfl
      have hD9 : va_D A [(a_t, .inr (8, [.ref a_t_forms, .ref a_t_roll, .int c_t_many, .long c_t_taps, .int c_t_cells, .int c_t_acts, .int c_t_refused, .int c_t_knocks, .int c_t_thrown_17]))] := hD.sub [0] (by decide) rfl
      exact W.iret hx hb hr (fun t ht hW => ⟨⟨_, (), rfl, rfl, wQA_of ht hP9 hD9⟩, hS.F ht⟩) hS.2.2 dX9_step_24
  · have h := if_ c2 h
    refine lv_iload_n hx hb dX9_step_5 rfl (lv_at hl 1 rfl) ?_
    refine lv_sipush (v := 255) hx hb dX9_step_6 (by decide) ?_
    refine lv_icmp_le (tgt := 16) hx hb dX9_step_9 (by decide) (fun c9 => ?_) (fun c9 => ?_)
    · have h := it_ c9 h
      refine lv_iconst (v := 0) hx hb dX9_step_16 (by decide) ?_
      obtain ⟨r17, c_t_thrown_17, hc17, h⟩ := obn2_h h
      have hPc := hP.sub (ws' := [(a_t, .inr (8, [.ref a_t_forms, .ref a_t_roll, .int c_t_many, .long c_t_taps, .int c_t_cells, .int c_t_acts, .int c_t_refused, .int c_t_knocks, .int c_t_thrown]))]) [0] rfl
      have hDc := hD.sub (ws' := [(a_t, .inr (8, [.ref a_t_forms, .ref a_t_roll, .int c_t_many, .long c_t_taps, .int c_t_cells, .int c_t_acts, .int c_t_refused, .int c_t_knocks, .int c_t_thrown]))]) [0] (by decide) rfl
      refine hp_i (w1 := [(a_t, .inr (8, [.ref a_t_forms, .ref a_t_roll, .int c_t_many, .long c_t_taps, .int c_t_cells, .int c_t_acts, .int c_t_refused, .int c_t_knocks, .int c_t_thrown_17]))]) (wr := []) (va_runV (As := [.int (0 : Int32)]) (rest := []) hcf (c_X9_isThrown_ l D cyJ s.heap.size a_t a_t_forms a_t_roll c_t_many c_t_taps c_t_cells c_t_acts c_t_refused c_t_knocks c_t_thrown (0 : Int32) r17 c_t_thrown_17 hc17) (cwV 1 hts gX9_step_X9_isThrown_ rfl rfl rfl ydX9_isThrown_ ⟨Nat.le_of_ble_eq_true rfl, Nat.le_of_ble_eq_true rfl⟩) ⟨bl_PD, va_recv hK hP (ci := 8) (q0 := 0) rfl rfl, pr_PD hPc hK0 hDc hnw⟩ rfl rfl hl.1 rfl (lv_room (Nat.le_of_ble_eq_true rfl)) dX9_step_17 ⟨Nat.le_of_ble_eq_true rfl, Nat.le_of_ble_eq_true rfl⟩) hP hD hS hA [0] [] rfl rfl (by decide) (by decide) (fun H locs hP hD hS => ?_)
      have hP : va_P D vwCl [(a_t, .inr (8, [.ref a_t_forms, .ref a_t_roll, .int c_t_many, .long c_t_taps, .int c_t_cells, .int c_t_acts, .int c_t_refused, .int c_t_knocks, .int c_t_thrown_17]))] H := hP
      have hD : va_D A [(a_t, .inr (8, [.ref a_t_forms, .ref a_t_roll, .int c_t_many, .long c_t_taps, .int c_t_cells, .int c_t_acts, .int c_t_refused, .int c_t_knocks, .int c_t_thrown_17]))] := hD
      refine lv_if_eq (tgt := 25) hx hb dX9_step_20 (by decide) (fun c20 => ?_) (fun c20 => ?_)
      · have h := it_ c20 h
        refine lv_iconst (v := 0) hx hb dX9_step_25 (by decide) ?_
        refine lv_istore_n (lv' := [(2, .int (0 : Int32)), (0, .ref a_t), (1, .int p0)]) hx hb dX9_step_26 rfl hl (by decide) rfl (fun ls hl => ?_)
        refine lv_iconst (v := 0) hx hb dX9_step_27 (by decide) ?_
        refine lv_istore_n (lv' := [(3, .int (0 : Int32)), (2, .int (0 : Int32)), (0, .ref a_t), (1, .int p0)]) hx hb dX9_step_28 rfl hl (by decide) rfl (fun ls hl => ?_)
        refine LQ3_k1 (M := fun (y2_29 : Int32) (y3_29 : Int32) (c_t_cells_29 : Int32) => ∀ (H : Heap) (locs : List Loc), va_P D vwCl [(a_t, .inr (8, [.ref a_t_forms, .ref a_t_roll, .int c_t_many, .long c_t_taps, .int c_t_cells_29, .int c_t_acts, .int c_t_refused, .int c_t_knocks, .int c_t_thrown_17]))] H → va_D A [(a_t, .inr (8, [.ref a_t_forms, .ref a_t_roll, .int c_t_many, .long c_t_taps, .int c_t_cells_29, .int c_t_acts, .int c_t_refused, .int c_t_knocks, .int c_t_thrown_17]))] → va_S A s.heap H locs → ∀ (ls : Array Slot), lv_has ls 4 [(0, .ref a_t), (1, .int p0), (2, .int y2_29), (3, .int y3_29)] → W p l e rmX9_step s m ([.ref a_t, .int p0] : List Value).toArray below meth c H locs 0 0 (MQ below (va_Qi (fun (r : Int32) (_ : Unit) => r = r0) (fun _ t => wQA D [(a_t, .inr (8, [.ref a_t_forms, .ref a_t_roll, .int c_t_many, .long c_t_taps, .int o_c_t_cells, .int o_c_t_acts, .int c_t_refused, .int c_t_knocks, .int o_c_t_thrown]))] A t) A) ([.ref a_t, .int p0] : List Value).toArray s 0 0 A) (F0 m 29 ls [])) ?_ _ _ _ _ h _ _ hP hD hS ls (lv_sub hl [2, 3, 1, 0] rfl)
        intro k61 hk61 ih29 hih29 y2_29 y3_29 c_t_cells_29 h H locs hP hD hS ls hl
        unfold S_X9_step_29 at h
        refine lv_iload_n hx hb dX9_step_29 rfl (lv_at hl 3 rfl) ?_
        refine lv_iload_n hx hb dX9_step_30 rfl (lv_at hl 1 rfl) ?_
        refine lv_icmp_ge (tgt := 61) hx hb dX9_step_31 (by decide) (fun c31 => ?_) (fun c31 => ?_)
        · have h := it_ c31 h
          rw [hk61] at h
          refine lv_aload_n hx hb dX9_step_61 rfl (lv_at hl 0 rfl) ?_
          refine lv_iload_n hx hb dX9_step_62 rfl (lv_at hl 2 rfl) ?_
          obtain ⟨r63, c_t_acts_63, hc63, h⟩ := obn2_h h
          have hPc := hP.sub (ws' := [(a_t, .inr (8, [.ref a_t_forms, .ref a_t_roll, .int c_t_many, .long c_t_taps, .int c_t_cells_29, .int c_t_acts, .int c_t_refused, .int c_t_knocks, .int c_t_thrown_17]))]) [0] rfl
          have hDc := hD.sub (ws' := [(a_t, .inr (8, [.ref a_t_forms, .ref a_t_roll, .int c_t_many, .long c_t_taps, .int c_t_cells_29, .int c_t_acts, .int c_t_refused, .int c_t_knocks, .int c_t_thrown_17]))]) [0] (by decide) rfl
          refine hp_i (w1 := [(a_t, .inr (8, [.ref a_t_forms, .ref a_t_roll, .int c_t_many, .long c_t_taps, .int c_t_cells_29, .int c_t_acts_63, .int c_t_refused, .int c_t_knocks, .int c_t_thrown_17]))]) (wr := []) (va_runV (As := [.int y2_29]) (rest := []) hcf (c_X9_done l D cyJ H.size a_t a_t_forms a_t_roll c_t_many c_t_taps c_t_cells_29 c_t_acts c_t_refused c_t_knocks c_t_thrown_17 y2_29 r63 c_t_acts_63 hc63) (cwV 1 hts gX9_step_X9_done rfl rfl rfl ydX9_done ⟨Nat.le_of_ble_eq_true rfl, Nat.le_of_ble_eq_true rfl⟩) ⟨bl_PD, va_recv hK hP (ci := 8) (q0 := 0) rfl rfl, pr_PD hPc hK0 hDc hnw⟩ rfl rfl hl.1 rfl (lv_room (Nat.le_of_ble_eq_true rfl)) dX9_step_63 ⟨Nat.le_of_ble_eq_true rfl, Nat.le_of_ble_eq_true rfl⟩) hP hD hS hA [0] [] rfl rfl (by decide) (by decide) (fun H locs hP hD hS => ?_)
          have hP : va_P D vwCl [(a_t, .inr (8, [.ref a_t_forms, .ref a_t_roll, .int c_t_many, .long c_t_taps, .int c_t_cells_29, .int c_t_acts_63, .int c_t_refused, .int c_t_knocks, .int c_t_thrown_17]))] H := hP
          have hD : va_D A [(a_t, .inr (8, [.ref a_t_forms, .ref a_t_roll, .int c_t_many, .long c_t_taps, .int c_t_cells_29, .int c_t_acts_63, .int c_t_refused, .int c_t_knocks, .int c_t_thrown_17]))] := hD
          obtain ⟨e0, e1, e2, e3⟩ := tup4 h
          subst e0
          subst e1
          subst e2
          subst e3
          have hP9 : va_P D vwCl [(a_t, .inr (8, [.ref a_t_forms, .ref a_t_roll, .int c_t_many, .long c_t_taps, .int c_t_cells_29, .int c_t_acts_63, .int c_t_refused, .int c_t_knocks, .int c_t_thrown_17]))] H := hP.sub [0] rfl
          have hD9 : va_D A [(a_t, .inr (8, [.ref a_t_forms, .ref a_t_roll, .int c_t_many, .long c_t_taps, .int c_t_cells_29, .int c_t_acts_63, .int c_t_refused, .int c_t_knocks, .int c_t_thrown_17]))] := hD.sub [0] (by decide) rfl
          exact W.iret hx hb hr (fun t ht hW => ⟨⟨_, (), rfl, rfl, wQA_of ht hP9 hD9⟩, hS.F ht⟩) hS.2.2 dX9_step_66
        · have h := if_ c31 h
          refine lv_iload_n hx hb dX9_step_34 rfl (lv_at hl 2 rfl) ?_
          refine lv_aload_n hx hb dX9_step_35 rfl (lv_at hl 0 rfl) ?_
          refine va_get (D := D) (ci := 8) (v := .int c_t_cells_29) (C := RX9) (T := TX9) (N := 9) hx hb hts hinX9 hown hK hP 0 rfl rfl 4 (by decide) hfl22 (fun _ h9 => h9) rfl dX9_step_36 ?_
          refine lv_iconst (v := 1) hx hb dX9_step_39 (by decide) ?_
          refine lv_iand hx hb dX9_step_40 ?_
          refine lv_iadd hx hb dX9_step_41 ?_
          refine lv_topi (fun x2_42 e_x2_42 => ?_)
          have h := bnd_h e_x2_42 h
          refine lv_istore_n (lv' := [(2, .int x2_42), (0, .ref a_t), (1, .int p0), (3, .int y3_29)]) hx hb dX9_step_42 rfl hl (by decide) rfl (fun ls hl => ?_)
          refine lv_aload_n hx hb dX9_step_43 rfl (lv_at hl 1 rfl) ?_
          refine lv_aload_n hx hb dX9_step_44 rfl (lv_at hl 1 rfl) ?_
          refine lv_aload_n hx hb dX9_step_45 rfl (lv_at hl 1 rfl) ?_
          refine va_get (D := D) (ci := 8) (v := .int c_t_cells_29) (C := RX9) (T := TX9) (N := 9) hx hb hts hinX9 hown hK hP 0 rfl rfl 4 (by decide) hfl22 (fun _ h9 => h9) rfl dX9_step_46 ?_
          obtain ⟨r49, hc49, h⟩ := obn_h h
          have hPc : va_P D vwCl [(a_t, .inr (8, [.ref a_t_forms, .ref a_t_roll, .int c_t_many, .long c_t_taps, .int c_t_cells_29, .int c_t_acts, .int c_t_refused, .int c_t_knocks, .int c_t_thrown_17]))] H := hP.sub [0] rfl
          refine rd_callV (As := [.int c_t_cells_29]) (rest := [.ref a_t]) hcf (c_X9_next l D cyJ a_t a_t_forms a_t_roll c_t_many c_t_taps c_t_cells_29 c_t_acts c_t_refused c_t_knocks c_t_thrown_17 c_t_cells_29 r49 hc49) (cwV 1 hts gX9_step_X9_next rfl rfl rfl ydX9_next ⟨Nat.le_of_ble_eq_true rfl, Nat.le_of_ble_eq_true rfl⟩) hnw hPc hK0 (va_recv hK hP (ci := 8) (q0 := 0) rfl rfl) rfl hl.1 rfl (Nat.le_of_ble_eq_true rfl) dX9_step_49 ⟨Nat.le_of_ble_eq_true rfl, Nat.le_of_ble_eq_true rfl⟩ ?_
          refine va_put (D := D) (ci := 8) (v := .int r49) (ty := .int) (C := RX9) (T := TX9) (N := 9) hx hb hts hinX9 tyX9 tyX9_ok nmX9 hown hK hP hD hS 0 rfl rfl 4 (by decide) hfl22 (fun _ h9 => h9) rfl (by decide +kernel) rfl rfl (Nat.le_of_ble_eq_true rfl) dX9_step_52 (fun H locs hP hD hS => ?_)
          have hP : va_P D vwCl [(a_t, .inr (8, [.ref a_t_forms, .ref a_t_roll, .int c_t_many, .long c_t_taps, .int r49, .int c_t_acts, .int c_t_refused, .int c_t_knocks, .int c_t_thrown_17]))] H := hP
          have hD : va_D A [(a_t, .inr (8, [.ref a_t_forms, .ref a_t_roll, .int c_t_many, .long c_t_taps, .int r49, .int c_t_acts, .int c_t_refused, .int c_t_knocks, .int c_t_thrown_17]))] := hD
          obtain ⟨x3_55, e_x3_55⟩ : ∃ z : Int32, z = y3_29 + 1 := ⟨_, rfl⟩
          have h := bnd_h e_x3_55 h
          refine lv_iinc (v := x3_55) (lv' := [(3, .int x3_55), (2, .int x2_42), (0, .ref a_t), (1, .int p0)]) hx hb dX9_step_55 hl (k := 3) rfl (by rw [e_x3_55]; rfl) (by decide) rfl (fun ls hl => ?_)
          refine lv_goto (tgt := 29) hx hb dX9_step_58 (by decide) ?_
          exact hih29 x2_42 x3_55 r49 h _ _ (hP.sub [0] rfl) (hD.sub [0] (by decide) rfl) hS ls (lv_sub hl [2, 3, 1, 0] rfl)
      · have h := if_ c20 h
        refine lv_iconst (v := 0) hx hb dX9_step_23 (by decide) ?_
        obtain ⟨e0, e1, e2, e3⟩ := tup4 h
        subst e0
        subst e1
        subst e2
        subst e3
        have hP9 : va_P D vwCl [(a_t, .inr (8, [.ref a_t_forms, .ref a_t_roll, .int c_t_many, .long c_t_taps, .int c_t_cells, .int c_t_acts, .int c_t_refused, .int c_t_knocks, .int c_t_thrown_17]))] H := hP.sub [0] rfl
        have hD9 : va_D A [(a_t, .inr (8, [.ref a_t_forms, .ref a_t_roll, .int c_t_many, .long c_t_taps, .int c_t_cells, .int c_t_acts, .int c_t_refused, .int c_t_knocks, .int c_t_thrown_17]))] := hD.sub [0] (by decide) rfl
        exact W.iret hx hb hr (fun t ht hW => ⟨⟨_, (), rfl, rfl, wQA_of ht hP9 hD9⟩, hS.F ht⟩) hS.2.2 dX9_step_24
    · have h := if_ c9 h
      refine lv_iconst (v := 1) hx hb dX9_step_12 (by decide) ?_
      refine lv_goto (tgt := 17) hx hb dX9_step_13 (by decide) ?_
      obtain ⟨r17, c_t_thrown_17, hc17, h⟩ := obn2_h h
      have hPc := hP.sub (ws' := [(a_t, .inr (8, [.ref a_t_forms, .ref a_t_roll, .int c_t_many, .long c_t_taps, .int c_t_cells, .int c_t_acts, .int c_t_refused, .int c_t_knocks, .int c_t_thrown]))]) [0] rfl
      have hDc := hD.sub (ws' := [(a_t, .inr (8, [.ref a_t_forms, .ref a_t_roll, .int c_t_many, .long c_t_taps, .int c_t_cells, .int c_t_acts, .int c_t_refused, .int c_t_knocks, .int c_t_thrown]))]) [0] (by decide) rfl
      refine hp_i (w1 := [(a_t, .inr (8, [.ref a_t_forms, .ref a_t_roll, .int c_t_many, .long c_t_taps, .int c_t_cells, .int c_t_acts, .int c_t_refused, .int c_t_knocks, .int c_t_thrown_17]))]) (wr := []) (va_runV (As := [.int (1 : Int32)]) (rest := []) hcf (c_X9_isThrown_ l D cyJ s.heap.size a_t a_t_forms a_t_roll c_t_many c_t_taps c_t_cells c_t_acts c_t_refused c_t_knocks c_t_thrown (1 : Int32) r17 c_t_thrown_17 hc17) (cwV 1 hts gX9_step_X9_isThrown_ rfl rfl rfl ydX9_isThrown_ ⟨Nat.le_of_ble_eq_true rfl, Nat.le_of_ble_eq_true rfl⟩) ⟨bl_PD, va_recv hK hP (ci := 8) (q0 := 0) rfl rfl, pr_PD hPc hK0 hDc hnw⟩ rfl rfl hl.1 rfl (lv_room (Nat.le_of_ble_eq_true rfl)) dX9_step_17 ⟨Nat.le_of_ble_eq_true rfl, Nat.le_of_ble_eq_true rfl⟩) hP hD hS hA [0] [] rfl rfl (by decide) (by decide) (fun H locs hP hD hS => ?_)
      have hP : va_P D vwCl [(a_t, .inr (8, [.ref a_t_forms, .ref a_t_roll, .int c_t_many, .long c_t_taps, .int c_t_cells, .int c_t_acts, .int c_t_refused, .int c_t_knocks, .int c_t_thrown_17]))] H := hP
      have hD : va_D A [(a_t, .inr (8, [.ref a_t_forms, .ref a_t_roll, .int c_t_many, .long c_t_taps, .int c_t_cells, .int c_t_acts, .int c_t_refused, .int c_t_knocks, .int c_t_thrown_17]))] := hD
      refine lv_if_eq (tgt := 25) hx hb dX9_step_20 (by decide) (fun c20 => ?_) (fun c20 => ?_)
      · have h := it_ c20 h
        refine lv_iconst (v := 0) hx hb dX9_step_25 (by decide) ?_
        refine lv_istore_n (lv' := [(2, .int (0 : Int32)), (0, .ref a_t), (1, .int p0)]) hx hb dX9_step_26 rfl hl (by decide) rfl (fun ls hl => ?_)
        refine lv_iconst (v := 0) hx hb dX9_step_27 (by decide) ?_
        refine lv_istore_n (lv' := [(3, .int (0 : Int32)), (2, .int (0 : Int32)), (0, .ref a_t), (1, .int p0)]) hx hb dX9_step_28 rfl hl (by decide) rfl (fun ls hl => ?_)
        refine LQ3_k1 (M := fun (y2_29 : Int32) (y3_29 : Int32) (c_t_cells_29 : Int32) => ∀ (H : Heap) (locs : List Loc), va_P D vwCl [(a_t, .inr (8, [.ref a_t_forms, .ref a_t_roll, .int c_t_many, .long c_t_taps, .int c_t_cells_29, .int c_t_acts, .int c_t_refused, .int c_t_knocks, .int c_t_thrown_17]))] H → va_D A [(a_t, .inr (8, [.ref a_t_forms, .ref a_t_roll, .int c_t_many, .long c_t_taps, .int c_t_cells_29, .int c_t_acts, .int c_t_refused, .int c_t_knocks, .int c_t_thrown_17]))] → va_S A s.heap H locs → ∀ (ls : Array Slot), lv_has ls 4 [(0, .ref a_t), (1, .int p0), (2, .int y2_29), (3, .int y3_29)] → W p l e rmX9_step s m ([.ref a_t, .int p0] : List Value).toArray below meth c H locs 0 0 (MQ below (va_Qi (fun (r : Int32) (_ : Unit) => r = r0) (fun _ t => wQA D [(a_t, .inr (8, [.ref a_t_forms, .ref a_t_roll, .int c_t_many, .long c_t_taps, .int o_c_t_cells, .int o_c_t_acts, .int c_t_refused, .int c_t_knocks, .int o_c_t_thrown]))] A t) A) ([.ref a_t, .int p0] : List Value).toArray s 0 0 A) (F0 m 29 ls [])) ?_ _ _ _ _ h _ _ hP hD hS ls (lv_sub hl [2, 3, 1, 0] rfl)
        intro k61 hk61 ih29 hih29 y2_29 y3_29 c_t_cells_29 h H locs hP hD hS ls hl
        unfold S_X9_step_29 at h
        refine lv_iload_n hx hb dX9_step_29 rfl (lv_at hl 3 rfl) ?_
        refine lv_iload_n hx hb dX9_step_30 rfl (lv_at hl 1 rfl) ?_
        refine lv_icmp_ge (tgt := 61) hx hb dX9_step_31 (by decide) (fun c31 => ?_) (fun c31 => ?_)
        · have h := it_ c31 h
          rw [hk61] at h
          refine lv_aload_n hx hb dX9_step_61 rfl (lv_at hl 0 rfl) ?_
          refine lv_iload_n hx hb dX9_step_62 rfl (lv_at hl 2 rfl) ?_
          obtain ⟨r63, c_t_acts_63, hc63, h⟩ := obn2_h h
          have hPc := hP.sub (ws' := [(a_t, .inr (8, [.ref a_t_forms, .ref a_t_roll, .int c_t_many, .long c_t_taps, .int c_t_cells_29, .int c_t_acts, .int c_t_refused, .int c_t_knocks, .int c_t_thrown_17]))]) [0] rfl
          have hDc := hD.sub (ws' := [(a_t, .inr (8, [.ref a_t_forms, .ref a_t_roll, .int c_t_many, .long c_t_taps, .int c_t_cells_29, .int c_t_acts, .int c_t_refused, .int c_t_knocks, .int c_t_thrown_17]))]) [0] (by decide) rfl
          refine hp_i (w1 := [(a_t, .inr (8, [.ref a_t_forms, .ref a_t_roll, .int c_t_many, .long c_t_taps, .int c_t_cells_29, .int c_t_acts_63, .int c_t_refused, .int c_t_knocks, .int c_t_thrown_17]))]) (wr := []) (va_runV (As := [.int y2_29]) (rest := []) hcf (c_X9_done l D cyJ H.size a_t a_t_forms a_t_roll c_t_many c_t_taps c_t_cells_29 c_t_acts c_t_refused c_t_knocks c_t_thrown_17 y2_29 r63 c_t_acts_63 hc63) (cwV 1 hts gX9_step_X9_done rfl rfl rfl ydX9_done ⟨Nat.le_of_ble_eq_true rfl, Nat.le_of_ble_eq_true rfl⟩) ⟨bl_PD, va_recv hK hP (ci := 8) (q0 := 0) rfl rfl, pr_PD hPc hK0 hDc hnw⟩ rfl rfl hl.1 rfl (lv_room (Nat.le_of_ble_eq_true rfl)) dX9_step_63 ⟨Nat.le_of_ble_eq_true rfl, Nat.le_of_ble_eq_true rfl⟩) hP hD hS hA [0] [] rfl rfl (by decide) (by decide) (fun H locs hP hD hS => ?_)
          have hP : va_P D vwCl [(a_t, .inr (8, [.ref a_t_forms, .ref a_t_roll, .int c_t_many, .long c_t_taps, .int c_t_cells_29, .int c_t_acts_63, .int c_t_refused, .int c_t_knocks, .int c_t_thrown_17]))] H := hP
          have hD : va_D A [(a_t, .inr (8, [.ref a_t_forms, .ref a_t_roll, .int c_t_many, .long c_t_taps, .int c_t_cells_29, .int c_t_acts_63, .int c_t_refused, .int c_t_knocks, .int c_t_thrown_17]))] := hD
          obtain ⟨e0, e1, e2, e3⟩ := tup4 h
          subst e0
          subst e1
          subst e2
          subst e3
          have hP9 : va_P D vwCl [(a_t, .inr (8, [.ref a_t_forms, .ref a_t_roll, .int c_t_many, .long c_t_taps, .int c_t_cells_29, .int c_t_acts_63, .int c_t_refused, .int c_t_knocks, .int c_t_thrown_17]))] H := hP.sub [0] rfl
          have hD9 : va_D A [(a_t, .inr (8, [.ref a_t_forms, .ref a_t_roll, .int c_t_many, .long c_t_taps, .int c_t_cells_29, .int c_t_acts_63, .int c_t_refused, .int c_t_knocks, .int c_t_thrown_17]))] := hD.sub [0] (by decide) rfl
          exact W.iret hx hb hr (fun t ht hW => ⟨⟨_, (), rfl, rfl, wQA_of ht hP9 hD9⟩, hS.F ht⟩) hS.2.2 dX9_step_66
        · have h := if_ c31 h
          refine lv_iload_n hx hb dX9_step_34 rfl (lv_at hl 2 rfl) ?_
          refine lv_aload_n hx hb dX9_step_35 rfl (lv_at hl 0 rfl) ?_
          refine va_get (D := D) (ci := 8) (v := .int c_t_cells_29) (C := RX9) (T := TX9) (N := 9) hx hb hts hinX9 hown hK hP 0 rfl rfl 4 (by decide) hfl22 (fun _ h9 => h9) rfl dX9_step_36 ?_
          refine lv_iconst (v := 1) hx hb dX9_step_39 (by decide) ?_
          refine lv_iand hx hb dX9_step_40 ?_
          refine lv_iadd hx hb dX9_step_41 ?_
          refine lv_topi (fun x2_42 e_x2_42 => ?_)
          have h := bnd_h e_x2_42 h
          refine lv_istore_n (lv' := [(2, .int x2_42), (0, .ref a_t), (1, .int p0), (3, .int y3_29)]) hx hb dX9_step_42 rfl hl (by decide) rfl (fun ls hl => ?_)
          refine lv_aload_n hx hb dX9_step_43 rfl (lv_at hl 1 rfl) ?_
          refine lv_aload_n hx hb dX9_step_44 rfl (lv_at hl 1 rfl) ?_
          refine lv_aload_n hx hb dX9_step_45 rfl (lv_at hl 1 rfl) ?_
          refine va_get (D := D) (ci := 8) (v := .int c_t_cells_29) (C := RX9) (T := TX9) (N := 9) hx hb hts hinX9 hown hK hP 0 rfl rfl 4 (by decide) hfl22 (fun _ h9 => h9) rfl dX9_step_46 ?_
          obtain ⟨r49, hc49, h⟩ := obn_h h
          have hPc : va_P D vwCl [(a_t, .inr (8, [.ref a_t_forms, .ref a_t_roll, .int c_t_many, .long c_t_taps, .int c_t_cells_29, .int c_t_acts, .int c_t_refused, .int c_t_knocks, .int c_t_thrown_17]))] H := hP.sub [0] rfl
          refine rd_callV (As := [.int c_t_cells_29]) (rest := [.ref a_t]) hcf (c_X9_next l D cyJ a_t a_t_forms a_t_roll c_t_many c_t_taps c_t_cells_29 c_t_acts c_t_refused c_t_knocks c_t_thrown_17 c_t_cells_29 r49 hc49) (cwV 1 hts gX9_step_X9_next rfl rfl rfl ydX9_next ⟨Nat.le_of_ble_eq_true rfl, Nat.le_of_ble_eq_true rfl⟩) hnw hPc hK0 (va_recv hK hP (ci := 8) (q0 := 0) rfl rfl) rfl hl.1 rfl (Nat.le_of_ble_eq_true rfl) dX9_step_49 ⟨Nat.le_of_ble_eq_true rfl, Nat.le_of_ble_eq_true rfl⟩ ?_
          refine va_put (D := D) (ci := 8) (v := .int r49) (ty := .int) (C := RX9) (T := TX9) (N := 9) hx hb hts hinX9 tyX9 tyX9_ok nmX9 hown hK hP hD hS 0 rfl rfl 4 (by decide) hfl22 (fun _ h9 => h9) rfl (by decide +kernel) rfl rfl (Nat.le_of_ble_eq_true rfl) dX9_step_52 (fun H locs hP hD hS => ?_)
          have hP : va_P D vwCl [(a_t, .inr (8, [.ref a_t_forms, .ref a_t_roll, .int c_t_many, .long c_t_taps, .int r49, .int c_t_acts, .int c_t_refused, .int c_t_knocks, .int c_t_thrown_17]))] H := hP
          have hD : va_D A [(a_t, .inr (8, [.ref a_t_forms, .ref a_t_roll, .int c_t_many, .long c_t_taps, .int r49, .int c_t_acts, .int c_t_refused, .int c_t_knocks, .int c_t_thrown_17]))] := hD
          obtain ⟨x3_55, e_x3_55⟩ : ∃ z : Int32, z = y3_29 + 1 := ⟨_, rfl⟩
          have h := bnd_h e_x3_55 h
          refine lv_iinc (v := x3_55) (lv' := [(3, .int x3_55), (2, .int x2_42), (0, .ref a_t), (1, .int p0)]) hx hb dX9_step_55 hl (k := 3) rfl (by rw [e_x3_55]; rfl) (by decide) rfl (fun ls hl => ?_)
          refine lv_goto (tgt := 29) hx hb dX9_step_58 (by decide) ?_
          exact hih29 x2_42 x3_55 r49 h _ _ (hP.sub [0] rfl) (hD.sub [0] (by decide) rfl) hS ls (lv_sub hl [2, 3, 1, 0] rfl)
      · have h := if_ c20 h
        refine lv_iconst (v := 0) hx hb dX9_step_23 (by decide) ?_
        obtain ⟨e0, e1, e2, e3⟩ := tup4 h
        subst e0
        subst e1
        subst e2
        subst e3
        have hP9 : va_P D vwCl [(a_t, .inr (8, [.ref a_t_forms, .ref a_t_roll, .int c_t_many, .long c_t_taps, .int c_t_cells, .int c_t_acts, .int c_t_refused, .int c_t_knocks, .int c_t_thrown_17]))] H := hP.sub [0] rfl
        have hD9 : va_D A [(a_t, .inr (8, [.ref a_t_forms, .ref a_t_roll, .int c_t_many, .long c_t_taps, .int c_t_cells, .int c_t_acts, .int c_t_refused, .int c_t_knocks, .int c_t_thrown_17]))] := hD.sub [0] (by decide) rfl
        exact W.iret hx hb hr (fun t ht hW => ⟨⟨_, (), rfl, rfl, wQA_of ht hP9 hD9⟩, hS.F ht⟩) hS.2.2 dX9_step_24

noncomputable abbrev rmX9_load : Room := { frames := 3, cells := 0, slots := 0, locals := 64 }
theorem ydX9_load : yX9_load.cls = RX9 ∧ yX9_load.cls ≠ "java/lang/invoke/MethodHandle" ∧ yX9_load.cls ≠ "java/lang/invoke/VarHandle" ∧ (parseMethodDescriptor yX9_load.desc).map (fun d => d.parameters.length) = some 1 := by decide +kernel
noncomputable def F_X9_load (c_t_taps : Int64) (c_t_cells : Int32) (c_t_acts : Int32) (c_t_refused : Int32) (p0 : Int32) : Option (Int32 × Int32 × Int32 × Int32 × Int32) :=
 (if p0 < 0 then
 obn2 (F_X9_isThrown_ (1 : Int32)) (fun r17 c_t_thrown_17 =>
 (if r17 = 0 then
 obn (F_X9_degreeOf c_t_taps) (fun r30 =>
 (if (p0 >>> (r30 &&& 31)) ≤ 0 then
 obn (F_X9_onesOf ((c_t_cells ^^^ p0).toInt64)) (fun r49 =>
 obn2 (F_X9_done c_t_acts r49) (fun r60 c_t_acts_60 =>
 some (r60, p0, c_t_acts_60, c_t_refused, c_t_thrown_17)))
else
 obn2 (F_X9_no c_t_refused) (fun r38 c_t_refused_38 =>
 some (r38, c_t_cells, c_t_acts, c_t_refused_38, c_t_thrown_17))))
else
 some ((0 : Int32), c_t_cells, c_t_acts, c_t_refused, c_t_thrown_17)))
else
 (if p0 ≤ (255 : Int32) then
 obn2 (F_X9_isThrown_ (0 : Int32)) (fun r17 c_t_thrown_17 =>
 (if r17 = 0 then
 obn (F_X9_degreeOf c_t_taps) (fun r30 =>
 (if (p0 >>> (r30 &&& 31)) ≤ 0 then
 obn (F_X9_onesOf ((c_t_cells ^^^ p0).toInt64)) (fun r49 =>
 obn2 (F_X9_done c_t_acts r49) (fun r60 c_t_acts_60 =>
 some (r60, p0, c_t_acts_60, c_t_refused, c_t_thrown_17)))
else
 obn2 (F_X9_no c_t_refused) (fun r38 c_t_refused_38 =>
 some (r38, c_t_cells, c_t_acts, c_t_refused_38, c_t_thrown_17))))
else
 some ((0 : Int32), c_t_cells, c_t_acts, c_t_refused, c_t_thrown_17)))
else
 obn2 (F_X9_isThrown_ (1 : Int32)) (fun r17 c_t_thrown_17 =>
 (if r17 = 0 then
 obn (F_X9_degreeOf c_t_taps) (fun r30 =>
 (if (p0 >>> (r30 &&& 31)) ≤ 0 then
 obn (F_X9_onesOf ((c_t_cells ^^^ p0).toInt64)) (fun r49 =>
 obn2 (F_X9_done c_t_acts r49) (fun r60 c_t_acts_60 =>
 some (r60, p0, c_t_acts_60, c_t_refused, c_t_thrown_17)))
else
 obn2 (F_X9_no c_t_refused) (fun r38 c_t_refused_38 =>
 some (r38, c_t_cells, c_t_acts, c_t_refused_38, c_t_thrown_17))))
else
 some ((0 : Int32), c_t_cells, c_t_acts, c_t_refused, c_t_thrown_17)))))
set_option maxHeartbeats 4000000 in
set_option maxRecDepth 100000 in
theorem c_X9_load (l : Launch) (D : va_G) (cyJ : ClassId) (sz : Nat) (a_t : Nat) (a_t_forms : Nat) (a_t_roll : Nat) (c_t_many : Int32) (c_t_taps : Int64) (c_t_cells : Int32) (c_t_acts : Int32) (c_t_refused : Int32) (c_t_knocks : Int32) (c_t_thrown : Int32) (p0 : Int32) (r0 : Int32) (o_c_t_cells : Int32) (o_c_t_acts : Int32) (o_c_t_refused : Int32) (o_c_t_thrown : Int32) (hF : F_X9_load c_t_taps c_t_cells c_t_acts c_t_refused p0 = some (r0, o_c_t_cells, o_c_t_acts, o_c_t_refused, o_c_t_thrown)) : Met l yX9_load wsX9_load rmX9_load (va_Pc [.ref a_t, .int p0] (wPD D [(cyJ, .long)] [(a_t, .inr (8, [.ref a_t_forms, .ref a_t_roll, .int c_t_many, .long c_t_taps, .int c_t_cells, .int c_t_acts, .int c_t_refused, .int c_t_knocks, .int c_t_thrown]))] sz)) (va_Qi (fun (r : Int32) (_ : Unit) => r = r0) (fun _ t => wQA D [(a_t, .inr (8, [.ref a_t_forms, .ref a_t_roll, .int c_t_many, .long c_t_taps, .int o_c_t_cells, .int o_c_t_acts, .int o_c_t_refused, .int c_t_knocks, .int o_c_t_thrown]))] (va_A [(a_t, .inr (8, [.ref a_t_forms, .ref a_t_roll, .int c_t_many, .long c_t_taps, .int c_t_cells, .int c_t_acts, .int c_t_refused, .int c_t_knocks, .int c_t_thrown]))] sz) t) (va_A [(a_t, .inr (8, [.ref a_t_forms, .ref a_t_roll, .int c_t_many, .long c_t_taps, .int c_t_cells, .int c_t_acts, .int c_t_refused, .int c_t_knocks, .int c_t_thrown]))] sz)) 0 0 (va_A [(a_t, .inr (8, [.ref a_t_forms, .ref a_t_roll, .int c_t_many, .long c_t_taps, .int c_t_cells, .int c_t_acts, .int c_t_refused, .int c_t_knocks, .int c_t_thrown]))] sz) := by
  refine Met.ofW (cc := cX9_load) (maxL := 3) (ret := (some .int)) (by decide) rfl ?_
  intro p e s m args below meth c s₁ B hml hv
  obtain ⟨rfl, hsz, hP, hK, hD0, hnw⟩ := hv
  have hx := B.exec
  have hb := B.bytes
  have hr := B.returns
  have hts := atoms_spec (ws := wsX9_load) B.pre
  have hown : s.vm.findClass RX9 = some m.cls := findClass_of_methodNamed B.named
  have hlocks := B.notSynchronized
  have hcf : CallFix _ _ _ _ _ _ _ _ _ := ⟨hx, hb, hml, hown, hts⟩
  have hinX9 : ∀ w ∈ u_ws RX9 TX9 9, w ∈ wsX9_load := by decide +kernel
  have hfl18 := hts (.fieldLink RX9 18 "FormwheelModel" "taps" "J") (by decide +kernel)
  have hfl22 := hts (.fieldLink RX9 22 "FormwheelModel" "cells" "I") (by decide +kernel)
  subst hsz
  have hD := hD0.self (sz := s.heap.size)
  generalize hAe : va_A [(a_t, .inr (8, [.ref a_t_forms, .ref a_t_roll, .int c_t_many, .long c_t_taps, .int c_t_cells, .int c_t_acts, .int c_t_refused, .int c_t_knocks, .int c_t_thrown]))] s.heap.size = A at hD ⊢
  have hA : ∀ q : Nat, s.heap.size ≤ q → A q := fun q h => by rw [← hAe]; exact Or.inr h
  have hS : va_S A s.heap s.heap [] := va_S.rf
  have hP : va_P D vwCl [(a_t, .inr (8, [.ref a_t_forms, .ref a_t_roll, .int c_t_many, .long c_t_taps, .int c_t_cells, .int c_t_acts, .int c_t_refused, .int c_t_knocks, .int c_t_thrown]))] s.heap := hP
  have hK0 := hK
  have hl := lv_entry ([.ref a_t, .int p0]) (n := 3) (Nat.le_of_ble_eq_true rfl)
  rw [lg_entry_eq]
  generalize (lg_sl ([.ref a_t, .int p0]) ++ List.replicate (3 - (lg_sl ([.ref a_t, .int p0])).length) Slot.unset).toArray = ls at hl ⊢
  have hl : lv_has ls 3 [(0, .ref a_t), (1, .int p0)] := hl
  have h := hF
  clear hF
  unfold F_X9_load at h
  refine lv_aload_n hx hb dX9_load_0 rfl (lv_at hl 0 rfl) ?_
  refine lv_iload_n hx hb dX9_load_1 rfl (lv_at hl 1 rfl) ?_
  refine lv_if_lt (tgt := 12) hx hb dX9_load_2 (by decide) (fun c2 => ?_) (fun c2 => ?_)
  · have h := it_ c2 h
    refine lv_iconst (v := 1) hx hb dX9_load_12 (by decide) ?_
    refine lv_goto (tgt := 17) hx hb dX9_load_13 (by decide) ?_
    obtain ⟨r17, c_t_thrown_17, hc17, h⟩ := obn2_h h
    have hPc := hP.sub (ws' := [(a_t, .inr (8, [.ref a_t_forms, .ref a_t_roll, .int c_t_many, .long c_t_taps, .int c_t_cells, .int c_t_acts, .int c_t_refused, .int c_t_knocks, .int c_t_thrown]))]) [0] rfl
    have hDc := hD.sub (ws' := [(a_t, .inr (8, [.ref a_t_forms, .ref a_t_roll, .int c_t_many, .long c_t_taps, .int c_t_cells, .int c_t_acts, .int c_t_refused, .int c_t_knocks, .int c_t_thrown]))]) [0] (by decide) rfl
    refine hp_i (w1 := [(a_t, .inr (8, [.ref a_t_forms, .ref a_t_roll, .int c_t_many, .long c_t_taps, .int c_t_cells, .int c_t_acts, .int c_t_refused, .int c_t_knocks, .int c_t_thrown_17]))]) (wr := []) (va_runV (As := [.int (1 : Int32)]) (rest := []) hcf (c_X9_isThrown_ l D cyJ s.heap.size a_t a_t_forms a_t_roll c_t_many c_t_taps c_t_cells c_t_acts c_t_refused c_t_knocks c_t_thrown (1 : Int32) r17 c_t_thrown_17 hc17) (cwV 1 hts gX9_load_X9_isThrown_ rfl rfl rfl ydX9_isThrown_ ⟨Nat.le_of_ble_eq_true rfl, Nat.le_of_ble_eq_true rfl⟩) ⟨bl_PD, va_recv hK hP (ci := 8) (q0 := 0) rfl rfl, pr_PD hPc hK0 hDc hnw⟩ rfl rfl hl.1 rfl (lv_room (Nat.le_of_ble_eq_true rfl)) dX9_load_17 ⟨Nat.le_of_ble_eq_true rfl, Nat.le_of_ble_eq_true rfl⟩) hP hD hS hA [0] [] rfl rfl (by decide) (by decide) (fun H locs hP hD hS => ?_)
    have hP : va_P D vwCl [(a_t, .inr (8, [.ref a_t_forms, .ref a_t_roll, .int c_t_many, .long c_t_taps, .int c_t_cells, .int c_t_acts, .int c_t_refused, .int c_t_knocks, .int c_t_thrown_17]))] H := hP
    have hD : va_D A [(a_t, .inr (8, [.ref a_t_forms, .ref a_t_roll, .int c_t_many, .long c_t_taps, .int c_t_cells, .int c_t_acts, .int c_t_refused, .int c_t_knocks, .int c_t_thrown_17]))] := hD
    refine lv_if_eq (tgt := 25) hx hb dX9_load_20 (by decide) (fun c20 => ?_) (fun c20 => ?_)
    · have h := it_ c20 h
      refine lv_iload_n hx hb dX9_load_25 rfl (lv_at hl 1 rfl) ?_
      refine lv_aload_n hx hb dX9_load_26 rfl (lv_at hl 0 rfl) ?_
      refine va_get (D := D) (ci := 8) (v := .long c_t_taps) (C := RX9) (T := TX9) (N := 9) hx hb hts hinX9 hown hK hP 0 rfl rfl 3 (by decide) hfl18 (fun _ h9 => h9) rfl dX9_load_27 ?_
      obtain ⟨r30, hc30, h⟩ := obn_h h
      refine pz_callS (As := [.long c_t_taps]) (rest := [.int p0]) hcf (c_X9_degreeOf l c_t_taps r30 hc30) (va_cwS 1 hts gX9_load_X9_degreeOf rfl rfl rfl ydX9_degreeOf ⟨Nat.le_of_ble_eq_true rfl, Nat.le_of_ble_eq_true rfl⟩) hnw rfl hl.1 rfl (Nat.le_of_ble_eq_true rfl) dX9_load_30 ⟨Nat.le_of_ble_eq_true rfl, Nat.le_of_ble_eq_true rfl⟩ ?_
      refine lv_ishr hx hb dX9_load_33 ?_
      refine lv_if_le (tgt := 42) hx hb dX9_load_34 (by decide) (fun c34 => ?_) (fun c34 => ?_)
      · have h := it_ c34 h
        refine lv_aload_n hx hb dX9_load_42 rfl (lv_at hl 0 rfl) ?_
        refine va_get (D := D) (ci := 8) (v := .int c_t_cells) (C := RX9) (T := TX9) (N := 9) hx hb hts hinX9 hown hK hP 0 rfl rfl 4 (by decide) hfl22 (fun _ h9 => h9) rfl dX9_load_43 ?_
        refine lv_iload_n hx hb dX9_load_46 rfl (lv_at hl 1 rfl) ?_
        refine lv_ixor hx hb dX9_load_47 ?_
        refine lv_i2l (v := (c_t_cells ^^^ p0).toInt64) hx hb dX9_load_48 rfl ?_
        obtain ⟨r49, hc49, h⟩ := obn_h h
        refine pz_callS (As := [.long ((c_t_cells ^^^ p0).toInt64)]) (rest := []) hcf (c_X9_onesOf l ((c_t_cells ^^^ p0).toInt64) r49 hc49) (va_cwS 1 hts gX9_load_X9_onesOf rfl rfl rfl ydX9_onesOf ⟨Nat.le_of_ble_eq_true rfl, Nat.le_of_ble_eq_true rfl⟩) hnw rfl hl.1 rfl (Nat.le_of_ble_eq_true rfl) dX9_load_49 ⟨Nat.le_of_ble_eq_true rfl, Nat.le_of_ble_eq_true rfl⟩ ?_
        refine lv_istore_n (lv' := [(2, .int r49), (0, .ref a_t), (1, .int p0)]) hx hb dX9_load_52 rfl hl (by decide) rfl (fun ls hl => ?_)
        refine lv_aload_n hx hb dX9_load_53 rfl (lv_at hl 1 rfl) ?_
        refine lv_iload_n hx hb dX9_load_54 rfl (lv_at hl 2 rfl) ?_
        refine va_put (D := D) (ci := 8) (v := .int p0) (ty := .int) (C := RX9) (T := TX9) (N := 9) hx hb hts hinX9 tyX9 tyX9_ok nmX9 hown hK hP hD hS 0 rfl rfl 4 (by decide) hfl22 (fun _ h9 => h9) rfl (by decide +kernel) rfl rfl (Nat.le_of_ble_eq_true rfl) dX9_load_55 (fun H locs hP hD hS => ?_)
        have hP : va_P D vwCl [(a_t, .inr (8, [.ref a_t_forms, .ref a_t_roll, .int c_t_many, .long c_t_taps, .int p0, .int c_t_acts, .int c_t_refused, .int c_t_knocks, .int c_t_thrown_17]))] H := hP
        have hD : va_D A [(a_t, .inr (8, [.ref a_t_forms, .ref a_t_roll, .int c_t_many, .long c_t_taps, .int p0, .int c_t_acts, .int c_t_refused, .int c_t_knocks, .int c_t_thrown_17]))] := hD
        refine lv_aload_n hx hb dX9_load_58 rfl (lv_at hl 1 rfl) ?_
        refine lv_iload_n hx hb dX9_load_59 rfl (lv_at hl 0 rfl) ?_
        obtain ⟨r60, c_t_acts_60, hc60, h⟩ := obn2_h h
        have hPc := hP.sub (ws' := [(a_t, .inr (8, [.ref a_t_forms, .ref a_t_roll, .int c_t_many, .long c_t_taps, .int p0, .int c_t_acts, .int c_t_refused, .int c_t_knocks, .int c_t_thrown_17]))]) [0] rfl
        have hDc := hD.sub (ws' := [(a_t, .inr (8, [.ref a_t_forms, .ref a_t_roll, .int c_t_many, .long c_t_taps, .int p0, .int c_t_acts, .int c_t_refused, .int c_t_knocks, .int c_t_thrown_17]))]) [0] (by decide) rfl
        refine hp_i (w1 := [(a_t, .inr (8, [.ref a_t_forms, .ref a_t_roll, .int c_t_many, .long c_t_taps, .int p0, .int c_t_acts_60, .int c_t_refused, .int c_t_knocks, .int c_t_thrown_17]))]) (wr := []) (va_runV (As := [.int r49]) (rest := []) hcf (c_X9_done l D cyJ H.size a_t a_t_forms a_t_roll c_t_many c_t_taps p0 c_t_acts c_t_refused c_t_knocks c_t_thrown_17 r49 r60 c_t_acts_60 hc60) (cwV 1 hts gX9_load_X9_done rfl rfl rfl ydX9_done ⟨Nat.le_of_ble_eq_true rfl, Nat.le_of_ble_eq_true rfl⟩) ⟨bl_PD, va_recv hK hP (ci := 8) (q0 := 0) rfl rfl, pr_PD hPc hK0 hDc hnw⟩ rfl rfl hl.1 rfl (lv_room (Nat.le_of_ble_eq_true rfl)) dX9_load_60 ⟨Nat.le_of_ble_eq_true rfl, Nat.le_of_ble_eq_true rfl⟩) hP hD hS hA [0] [] rfl rfl (by decide) (by decide) (fun H locs hP hD hS => ?_)
        have hP : va_P D vwCl [(a_t, .inr (8, [.ref a_t_forms, .ref a_t_roll, .int c_t_many, .long c_t_taps, .int p0, .int c_t_acts_60, .int c_t_refused, .int c_t_knocks, .int c_t_thrown_17]))] H := hP
        have hD : va_D A [(a_t, .inr (8, [.ref a_t_forms, .ref a_t_roll, .int c_t_many, .long c_t_taps, .int p0, .int c_t_acts_60, .int c_t_refused, .int c_t_knocks, .int c_t_thrown_17]))] := hD
        obtain ⟨e0, e1, e2, e3, e4⟩ := tup5 h
        subst e0
        subst e1
        subst e2
        subst e3
        subst e4
        have hP9 : va_P D vwCl [(a_t, .inr (8, [.ref a_t_forms, .ref a_t_roll, .int c_t_many, .long c_t_taps, .int p0, .int c_t_acts_60, .int c_t_refused, .int c_t_knocks, .int c_t_thrown_17]))] H := hP.sub [0] rfl
        have hD9 : va_D A [(a_t, .inr (8, [.ref a_t_forms, .ref a_t_roll, .int c_t_many, .long c_t_taps, .int p0, .int c_t_acts_60, .int c_t_refused, .int c_t_knocks, .int c_t_thrown_17]))] := hD.sub [0] (by decide) rfl
        exact W.iret hx hb hr (fun t ht hW => ⟨⟨_, (), rfl, rfl, wQA_of ht hP9 hD9⟩, hS.F ht⟩) hS.2.2 dX9_load_63
      · have h := if_ c34 h
        refine lv_aload_n hx hb dX9_load_37 rfl (lv_at hl 0 rfl) ?_
        obtain ⟨r38, c_t_refused_38, hc38, h⟩ := obn2_h h
        have hPc := hP.sub (ws' := [(a_t, .inr (8, [.ref a_t_forms, .ref a_t_roll, .int c_t_many, .long c_t_taps, .int c_t_cells, .int c_t_acts, .int c_t_refused, .int c_t_knocks, .int c_t_thrown_17]))]) [0] rfl
        have hDc := hD.sub (ws' := [(a_t, .inr (8, [.ref a_t_forms, .ref a_t_roll, .int c_t_many, .long c_t_taps, .int c_t_cells, .int c_t_acts, .int c_t_refused, .int c_t_knocks, .int c_t_thrown_17]))]) [0] (by decide) rfl
        refine hp_i (w1 := [(a_t, .inr (8, [.ref a_t_forms, .ref a_t_roll, .int c_t_many, .long c_t_taps, .int c_t_cells, .int c_t_acts, .int c_t_refused_38, .int c_t_knocks, .int c_t_thrown_17]))]) (wr := []) (va_runV (As := []) (rest := []) hcf (c_X9_no l D cyJ H.size a_t a_t_forms a_t_roll c_t_many c_t_taps c_t_cells c_t_acts c_t_refused c_t_knocks c_t_thrown_17 r38 c_t_refused_38 hc38) (cwV 0 hts gX9_load_X9_no rfl rfl rfl ydX9_no ⟨Nat.le_of_ble_eq_true rfl, Nat.le_of_ble_eq_true rfl⟩) ⟨bl_PD, va_recv hK hP (ci := 8) (q0 := 0) rfl rfl, pr_PD hPc hK0 hDc hnw⟩ rfl rfl hl.1 rfl (lv_room (Nat.le_of_ble_eq_true rfl)) dX9_load_38 ⟨Nat.le_of_ble_eq_true rfl, Nat.le_of_ble_eq_true rfl⟩) hP hD hS hA [0] [] rfl rfl (by decide) (by decide) (fun H locs hP hD hS => ?_)
        have hP : va_P D vwCl [(a_t, .inr (8, [.ref a_t_forms, .ref a_t_roll, .int c_t_many, .long c_t_taps, .int c_t_cells, .int c_t_acts, .int c_t_refused_38, .int c_t_knocks, .int c_t_thrown_17]))] H := hP
        have hD : va_D A [(a_t, .inr (8, [.ref a_t_forms, .ref a_t_roll, .int c_t_many, .long c_t_taps, .int c_t_cells, .int c_t_acts, .int c_t_refused_38, .int c_t_knocks, .int c_t_thrown_17]))] := hD
        obtain ⟨e0, e1, e2, e3, e4⟩ := tup5 h
        subst e0
        subst e1
        subst e2
        subst e3
        subst e4
        have hP9 : va_P D vwCl [(a_t, .inr (8, [.ref a_t_forms, .ref a_t_roll, .int c_t_many, .long c_t_taps, .int c_t_cells, .int c_t_acts, .int c_t_refused_38, .int c_t_knocks, .int c_t_thrown_17]))] H := hP.sub [0] rfl
        have hD9 : va_D A [(a_t, .inr (8, [.ref a_t_forms, .ref a_t_roll, .int c_t_many, .long c_t_taps, .int c_t_cells, .int c_t_acts, .int c_t_refused_38, .int c_t_knocks, .int c_t_thrown_17]))] := hD.sub [0] (by decide) rfl
        exact W.iret hx hb hr (fun t ht hW => ⟨⟨_, (), rfl, rfl, wQA_of ht hP9 hD9⟩, hS.F ht⟩) hS.2.2 dX9_load_41
    · have h := if_ c20 h
      refine lv_iconst (v := 0) hx hb dX9_load_23 (by decide) ?_
      obtain ⟨e0, e1, e2, e3, e4⟩ := tup5 h
      subst e0
      subst e1
      subst e2
      subst e3
      subst e4
      have hP9 : va_P D vwCl [(a_t, .inr (8, [.ref a_t_forms, .ref a_t_roll, .int c_t_many, .long c_t_taps, .int c_t_cells, .int c_t_acts, .int c_t_refused, .int c_t_knocks, .int c_t_thrown_17]))] H := hP.sub [0] rfl
      have hD9 : va_D A [(a_t, .inr (8, [.ref a_t_forms, .ref a_t_roll, .int c_t_many, .long c_t_taps, .int c_t_cells, .int c_t_acts, .int c_t_refused, .int c_t_knocks, .int c_t_thrown_17]))] := hD.sub [0] (by decide) rfl
      exact W.iret hx hb hr (fun t ht hW => ⟨⟨_, (), rfl, rfl, wQA_of ht hP9 hD9⟩, hS.F ht⟩) hS.2.2 dX9_load_24
  · have h := if_ c2 h
    refine lv_iload_n hx hb dX9_load_5 rfl (lv_at hl 1 rfl) ?_
    refine lv_sipush (v := 255) hx hb dX9_load_6 (by decide) ?_
    refine lv_icmp_le (tgt := 16) hx hb dX9_load_9 (by decide) (fun c9 => ?_) (fun c9 => ?_)
    · have h := it_ c9 h
      refine lv_iconst (v := 0) hx hb dX9_load_16 (by decide) ?_
      obtain ⟨r17, c_t_thrown_17, hc17, h⟩ := obn2_h h
      have hPc := hP.sub (ws' := [(a_t, .inr (8, [.ref a_t_forms, .ref a_t_roll, .int c_t_many, .long c_t_taps, .int c_t_cells, .int c_t_acts, .int c_t_refused, .int c_t_knocks, .int c_t_thrown]))]) [0] rfl
      have hDc := hD.sub (ws' := [(a_t, .inr (8, [.ref a_t_forms, .ref a_t_roll, .int c_t_many, .long c_t_taps, .int c_t_cells, .int c_t_acts, .int c_t_refused, .int c_t_knocks, .int c_t_thrown]))]) [0] (by decide) rfl
      refine hp_i (w1 := [(a_t, .inr (8, [.ref a_t_forms, .ref a_t_roll, .int c_t_many, .long c_t_taps, .int c_t_cells, .int c_t_acts, .int c_t_refused, .int c_t_knocks, .int c_t_thrown_17]))]) (wr := []) (va_runV (As := [.int (0 : Int32)]) (rest := []) hcf (c_X9_isThrown_ l D cyJ s.heap.size a_t a_t_forms a_t_roll c_t_many c_t_taps c_t_cells c_t_acts c_t_refused c_t_knocks c_t_thrown (0 : Int32) r17 c_t_thrown_17 hc17) (cwV 1 hts gX9_load_X9_isThrown_ rfl rfl rfl ydX9_isThrown_ ⟨Nat.le_of_ble_eq_true rfl, Nat.le_of_ble_eq_true rfl⟩) ⟨bl_PD, va_recv hK hP (ci := 8) (q0 := 0) rfl rfl, pr_PD hPc hK0 hDc hnw⟩ rfl rfl hl.1 rfl (lv_room (Nat.le_of_ble_eq_true rfl)) dX9_load_17 ⟨Nat.le_of_ble_eq_true rfl, Nat.le_of_ble_eq_true rfl⟩) hP hD hS hA [0] [] rfl rfl (by decide) (by decide) (fun H locs hP hD hS => ?_)
      have hP : va_P D vwCl [(a_t, .inr (8, [.ref a_t_forms, .ref a_t_roll, .int c_t_many, .long c_t_taps, .int c_t_cells, .int c_t_acts, .int c_t_refused, .int c_t_knocks, .int c_t_thrown_17]))] H := hP
      have hD : va_D A [(a_t, .inr (8, [.ref a_t_forms, .ref a_t_roll, .int c_t_many, .long c_t_taps, .int c_t_cells, .int c_t_acts, .int c_t_refused, .int c_t_knocks, .int c_t_thrown_17]))] := hD
      refine lv_if_eq (tgt := 25) hx hb dX9_load_20 (by decide) (fun c20 => ?_) (fun c20 => ?_)
      · have h := it_ c20 h
        refine lv_iload_n hx hb dX9_load_25 rfl (lv_at hl 1 rfl) ?_
        refine lv_aload_n hx hb dX9_load_26 rfl (lv_at hl 0 rfl) ?_
        refine va_get (D := D) (ci := 8) (v := .long c_t_taps) (C := RX9) (T := TX9) (N := 9) hx hb hts hinX9 hown hK hP 0 rfl rfl 3 (by decide) hfl18 (fun _ h9 => h9) rfl dX9_load_27 ?_
        obtain ⟨r30, hc30, h⟩ := obn_h h
        refine pz_callS (As := [.long c_t_taps]) (rest := [.int p0]) hcf (c_X9_degreeOf l c_t_taps r30 hc30) (va_cwS 1 hts gX9_load_X9_degreeOf rfl rfl rfl ydX9_degreeOf ⟨Nat.le_of_ble_eq_true rfl, Nat.le_of_ble_eq_true rfl⟩) hnw rfl hl.1 rfl (Nat.le_of_ble_eq_true rfl) dX9_load_30 ⟨Nat.le_of_ble_eq_true rfl, Nat.le_of_ble_eq_true rfl⟩ ?_
        refine lv_ishr hx hb dX9_load_33 ?_
        refine lv_if_le (tgt := 42) hx hb dX9_load_34 (by decide) (fun c34 => ?_) (fun c34 => ?_)
        · have h := it_ c34 h
          refine lv_aload_n hx hb dX9_load_42 rfl (lv_at hl 0 rfl) ?_
          refine va_get (D := D) (ci := 8) (v := .int c_t_cells) (C := RX9) (T := TX9) (N := 9) hx hb hts hinX9 hown hK hP 0 rfl rfl 4 (by decide) hfl22 (fun _ h9 => h9) rfl dX9_load_43 ?_
          refine lv_iload_n hx hb dX9_load_46 rfl (lv_at hl 1 rfl) ?_
          refine lv_ixor hx hb dX9_load_47 ?_
          refine lv_i2l (v := (c_t_cells ^^^ p0).toInt64) hx hb dX9_load_48 rfl ?_
          obtain ⟨r49, hc49, h⟩ := obn_h h
          refine pz_callS (As := [.long ((c_t_cells ^^^ p0).toInt64)]) (rest := []) hcf (c_X9_onesOf l ((c_t_cells ^^^ p0).toInt64) r49 hc49) (va_cwS 1 hts gX9_load_X9_onesOf rfl rfl rfl ydX9_onesOf ⟨Nat.le_of_ble_eq_true rfl, Nat.le_of_ble_eq_true rfl⟩) hnw rfl hl.1 rfl (Nat.le_of_ble_eq_true rfl) dX9_load_49 ⟨Nat.le_of_ble_eq_true rfl, Nat.le_of_ble_eq_true rfl⟩ ?_
          refine lv_istore_n (lv' := [(2, .int r49), (0, .ref a_t), (1, .int p0)]) hx hb dX9_load_52 rfl hl (by decide) rfl (fun ls hl => ?_)
          refine lv_aload_n hx hb dX9_load_53 rfl (lv_at hl 1 rfl) ?_
          refine lv_iload_n hx hb dX9_load_54 rfl (lv_at hl 2 rfl) ?_
          refine va_put (D := D) (ci := 8) (v := .int p0) (ty := .int) (C := RX9) (T := TX9) (N := 9) hx hb hts hinX9 tyX9 tyX9_ok nmX9 hown hK hP hD hS 0 rfl rfl 4 (by decide) hfl22 (fun _ h9 => h9) rfl (by decide +kernel) rfl rfl (Nat.le_of_ble_eq_true rfl) dX9_load_55 (fun H locs hP hD hS => ?_)
          have hP : va_P D vwCl [(a_t, .inr (8, [.ref a_t_forms, .ref a_t_roll, .int c_t_many, .long c_t_taps, .int p0, .int c_t_acts, .int c_t_refused, .int c_t_knocks, .int c_t_thrown_17]))] H := hP
          have hD : va_D A [(a_t, .inr (8, [.ref a_t_forms, .ref a_t_roll, .int c_t_many, .long c_t_taps, .int p0, .int c_t_acts, .int c_t_refused, .int c_t_knocks, .int c_t_thrown_17]))] := hD
          refine lv_aload_n hx hb dX9_load_58 rfl (lv_at hl 1 rfl) ?_
          refine lv_iload_n hx hb dX9_load_59 rfl (lv_at hl 0 rfl) ?_
          obtain ⟨r60, c_t_acts_60, hc60, h⟩ := obn2_h h
          have hPc := hP.sub (ws' := [(a_t, .inr (8, [.ref a_t_forms, .ref a_t_roll, .int c_t_many, .long c_t_taps, .int p0, .int c_t_acts, .int c_t_refused, .int c_t_knocks, .int c_t_thrown_17]))]) [0] rfl
          have hDc := hD.sub (ws' := [(a_t, .inr (8, [.ref a_t_forms, .ref a_t_roll, .int c_t_many, .long c_t_taps, .int p0, .int c_t_acts, .int c_t_refused, .int c_t_knocks, .int c_t_thrown_17]))]) [0] (by decide) rfl
          refine hp_i (w1 := [(a_t, .inr (8, [.ref a_t_forms, .ref a_t_roll, .int c_t_many, .long c_t_taps, .int p0, .int c_t_acts_60, .int c_t_refused, .int c_t_knocks, .int c_t_thrown_17]))]) (wr := []) (va_runV (As := [.int r49]) (rest := []) hcf (c_X9_done l D cyJ H.size a_t a_t_forms a_t_roll c_t_many c_t_taps p0 c_t_acts c_t_refused c_t_knocks c_t_thrown_17 r49 r60 c_t_acts_60 hc60) (cwV 1 hts gX9_load_X9_done rfl rfl rfl ydX9_done ⟨Nat.le_of_ble_eq_true rfl, Nat.le_of_ble_eq_true rfl⟩) ⟨bl_PD, va_recv hK hP (ci := 8) (q0 := 0) rfl rfl, pr_PD hPc hK0 hDc hnw⟩ rfl rfl hl.1 rfl (lv_room (Nat.le_of_ble_eq_true rfl)) dX9_load_60 ⟨Nat.le_of_ble_eq_true rfl, Nat.le_of_ble_eq_true rfl⟩) hP hD hS hA [0] [] rfl rfl (by decide) (by decide) (fun H locs hP hD hS => ?_)
          have hP : va_P D vwCl [(a_t, .inr (8, [.ref a_t_forms, .ref a_t_roll, .int c_t_many, .long c_t_taps, .int p0, .int c_t_acts_60, .int c_t_refused, .int c_t_knocks, .int c_t_thrown_17]))] H := hP
          have hD : va_D A [(a_t, .inr (8, [.ref a_t_forms, .ref a_t_roll, .int c_t_many, .long c_t_taps, .int p0, .int c_t_acts_60, .int c_t_refused, .int c_t_knocks, .int c_t_thrown_17]))] := hD
          obtain ⟨e0, e1, e2, e3, e4⟩ := tup5 h
          subst e0
          subst e1
          subst e2
          subst e3
          subst e4
          have hP9 : va_P D vwCl [(a_t, .inr (8, [.ref a_t_forms, .ref a_t_roll, .int c_t_many, .long c_t_taps, .int p0, .int c_t_acts_60, .int c_t_refused, .int c_t_knocks, .int c_t_thrown_17]))] H := hP.sub [0] rfl
          have hD9 : va_D A [(a_t, .inr (8, [.ref a_t_forms, .ref a_t_roll, .int c_t_many, .long c_t_taps, .int p0, .int c_t_acts_60, .int c_t_refused, .int c_t_knocks, .int c_t_thrown_17]))] := hD.sub [0] (by decide) rfl
          exact W.iret hx hb hr (fun t ht hW => ⟨⟨_, (), rfl, rfl, wQA_of ht hP9 hD9⟩, hS.F ht⟩) hS.2.2 dX9_load_63
        · have h := if_ c34 h
          refine lv_aload_n hx hb dX9_load_37 rfl (lv_at hl 0 rfl) ?_
          obtain ⟨r38, c_t_refused_38, hc38, h⟩ := obn2_h h
          have hPc := hP.sub (ws' := [(a_t, .inr (8, [.ref a_t_forms, .ref a_t_roll, .int c_t_many, .long c_t_taps, .int c_t_cells, .int c_t_acts, .int c_t_refused, .int c_t_knocks, .int c_t_thrown_17]))]) [0] rfl
          have hDc := hD.sub (ws' := [(a_t, .inr (8, [.ref a_t_forms, .ref a_t_roll, .int c_t_many, .long c_t_taps, .int c_t_cells, .int c_t_acts, .int c_t_refused, .int c_t_knocks, .int c_t_thrown_17]))]) [0] (by decide) rfl
          refine hp_i (w1 := [(a_t, .inr (8, [.ref a_t_forms, .ref a_t_roll, .int c_t_many, .long c_t_taps, .int c_t_cells, .int c_t_acts, .int c_t_refused_38, .int c_t_knocks, .int c_t_thrown_17]))]) (wr := []) (va_runV (As := []) (rest := []) hcf (c_X9_no l D cyJ H.size a_t a_t_forms a_t_roll c_t_many c_t_taps c_t_cells c_t_acts c_t_refused c_t_knocks c_t_thrown_17 r38 c_t_refused_38 hc38) (cwV 0 hts gX9_load_X9_no rfl rfl rfl ydX9_no ⟨Nat.le_of_ble_eq_true rfl, Nat.le_of_ble_eq_true rfl⟩) ⟨bl_PD, va_recv hK hP (ci := 8) (q0 := 0) rfl rfl, pr_PD hPc hK0 hDc hnw⟩ rfl rfl hl.1 rfl (lv_room (Nat.le_of_ble_eq_true rfl)) dX9_load_38 ⟨Nat.le_of_ble_eq_true rfl, Nat.le_of_ble_eq_true rfl⟩) hP hD hS hA [0] [] rfl rfl (by decide) (by decide) (fun H locs hP hD hS => ?_)
          have hP : va_P D vwCl [(a_t, .inr (8, [.ref a_t_forms, .ref a_t_roll, .int c_t_many, .long c_t_taps, .int c_t_cells, .int c_t_acts, .int c_t_refused_38, .int c_t_knocks, .int c_t_thrown_17]))] H := hP
          have hD : va_D A [(a_t, .inr (8, [.ref a_t_forms, .ref a_t_roll, .int c_t_many, .long c_t_taps, .int c_t_cells, .int c_t_acts, .int c_t_refused_38, .int c_t_knocks, .int c_t_thrown_17]))] := hD
          obtain ⟨e0, e1, e2, e3, e4⟩ := tup5 h
          subst e0
          subst e1
          subst e2
          subst e3
          subst e4
          have hP9 : va_P D vwCl [(a_t, .inr (8, [.ref a_t_forms, .ref a_t_roll, .int c_t_many, .long c_t_taps, .int c_t_cells, .int c_t_acts, .int c_t_refused_38, .int c_t_knocks, .int c_t_thrown_17]))] H := hP.sub [0] rfl
          have hD9 : va_D A [(a_t, .inr (8, [.ref a_t_forms, .ref a_t_roll, .int c_t_many, .long c_t_taps, .int c_t_cells, .int c_t_acts, .int c_t_refused_38, .int c_t_knocks, .int c_t_thrown_17]))] := hD.sub [0] (by decide) rfl
          exact W.iret hx hb hr (fun t ht hW => ⟨⟨_, (), rfl, rfl, wQA_of ht hP9 hD9⟩, hS.F ht⟩) hS.2.2 dX9_load_41
      · have h := if_ c20 h
        refine lv_iconst (v := 0) hx hb dX9_load_23 (by decide) ?_
        obtain ⟨e0, e1, e2, e3, e4⟩ := tup5 h
        subst e0
        subst e1
        subst e2
        subst e3
        subst e4
        have hP9 : va_P D vwCl [(a_t, .inr (8, [.ref a_t_forms, .ref a_t_roll, .int c_t_many, .long c_t_taps, .int c_t_cells, .int c_t_acts, .int c_t_refused, .int c_t_knocks, .int c_t_thrown_17]))] H := hP.sub [0] rfl
        have hD9 : va_D A [(a_t, .inr (8, [.ref a_t_forms, .ref a_t_roll, .int c_t_many, .long c_t_taps, .int c_t_cells, .int c_t_acts, .int c_t_refused, .int c_t_knocks, .int c_t_thrown_17]))] := hD.sub [0] (by decide) rfl
        exact W.iret hx hb hr (fun t ht hW => ⟨⟨_, (), rfl, rfl, wQA_of ht hP9 hD9⟩, hS.F ht⟩) hS.2.2 dX9_load_24
    · have h := if_ c9 h
      refine lv_iconst (v := 1) hx hb dX9_load_12 (by decide) ?_
      refine lv_goto (tgt := 17) hx hb dX9_load_13 (by decide) ?_
      obtain ⟨r17, c_t_thrown_17, hc17, h⟩ := obn2_h h
      have hPc := hP.sub (ws' := [(a_t, .inr (8, [.ref a_t_forms, .ref a_t_roll, .int c_t_many, .long c_t_taps, .int c_t_cells, .int c_t_acts, .int c_t_refused, .int c_t_knocks, .int c_t_thrown]))]) [0] rfl
      have hDc := hD.sub (ws' := [(a_t, .inr (8, [.ref a_t_forms, .ref a_t_roll, .int c_t_many, .long c_t_taps, .int c_t_cells, .int c_t_acts, .int c_t_refused, .int c_t_knocks, .int c_t_thrown]))]) [0] (by decide) rfl
      refine hp_i (w1 := [(a_t, .inr (8, [.ref a_t_forms, .ref a_t_roll, .int c_t_many, .long c_t_taps, .int c_t_cells, .int c_t_acts, .int c_t_refused, .int c_t_knocks, .int c_t_thrown_17]))]) (wr := []) (va_runV (As := [.int (1 : Int32)]) (rest := []) hcf (c_X9_isThrown_ l D cyJ s.heap.size a_t a_t_forms a_t_roll c_t_many c_t_taps c_t_cells c_t_acts c_t_refused c_t_knocks c_t_thrown (1 : Int32) r17 c_t_thrown_17 hc17) (cwV 1 hts gX9_load_X9_isThrown_ rfl rfl rfl ydX9_isThrown_ ⟨Nat.le_of_ble_eq_true rfl, Nat.le_of_ble_eq_true rfl⟩) ⟨bl_PD, va_recv hK hP (ci := 8) (q0 := 0) rfl rfl, pr_PD hPc hK0 hDc hnw⟩ rfl rfl hl.1 rfl (lv_room (Nat.le_of_ble_eq_true rfl)) dX9_load_17 ⟨Nat.le_of_ble_eq_true rfl, Nat.le_of_ble_eq_true rfl⟩) hP hD hS hA [0] [] rfl rfl (by decide) (by decide) (fun H locs hP hD hS => ?_)
      have hP : va_P D vwCl [(a_t, .inr (8, [.ref a_t_forms, .ref a_t_roll, .int c_t_many, .long c_t_taps, .int c_t_cells, .int c_t_acts, .int c_t_refused, .int c_t_knocks, .int c_t_thrown_17]))] H := hP
      have hD : va_D A [(a_t, .inr (8, [.ref a_t_forms, .ref a_t_roll, .int c_t_many, .long c_t_taps, .int c_t_cells, .int c_t_acts, .int c_t_refused, .int c_t_knocks, .int c_t_thrown_17]))] := hD
      refine lv_if_eq (tgt := 25) hx hb dX9_load_20 (by decide) (fun c20 => ?_) (fun c20 => ?_)
      · have h := it_ c20 h
        refine lv_iload_n hx hb dX9_load_25 rfl (lv_at hl 1 rfl) ?_
        refine lv_aload_n hx hb dX9_load_26 rfl (lv_at hl 0 rfl) ?_
        refine va_get (D := D) (ci := 8) (v := .long c_t_taps) (C := RX9) (T := TX9) (N := 9) hx hb hts hinX9 hown hK hP 0 rfl rfl 3 (by decide) hfl18 (fun _ h9 => h9) rfl dX9_load_27 ?_
        obtain ⟨r30, hc30, h⟩ := obn_h h
        refine pz_callS (As := [.long c_t_taps]) (rest := [.int p0]) hcf (c_X9_degreeOf l c_t_taps r30 hc30) (va_cwS 1 hts gX9_load_X9_degreeOf rfl rfl rfl ydX9_degreeOf ⟨Nat.le_of_ble_eq_true rfl, Nat.le_of_ble_eq_true rfl⟩) hnw rfl hl.1 rfl (Nat.le_of_ble_eq_true rfl) dX9_load_30 ⟨Nat.le_of_ble_eq_true rfl, Nat.le_of_ble_eq_true rfl⟩ ?_
        refine lv_ishr hx hb dX9_load_33 ?_
        refine lv_if_le (tgt := 42) hx hb dX9_load_34 (by decide) (fun c34 => ?_) (fun c34 => ?_)
        · have h := it_ c34 h
          refine lv_aload_n hx hb dX9_load_42 rfl (lv_at hl 0 rfl) ?_
          refine va_get (D := D) (ci := 8) (v := .int c_t_cells) (C := RX9) (T := TX9) (N := 9) hx hb hts hinX9 hown hK hP 0 rfl rfl 4 (by decide) hfl22 (fun _ h9 => h9) rfl dX9_load_43 ?_
          refine lv_iload_n hx hb dX9_load_46 rfl (lv_at hl 1 rfl) ?_
          refine lv_ixor hx hb dX9_load_47 ?_
          refine lv_i2l (v := (c_t_cells ^^^ p0).toInt64) hx hb dX9_load_48 rfl ?_
          obtain ⟨r49, hc49, h⟩ := obn_h h
          refine pz_callS (As := [.long ((c_t_cells ^^^ p0).toInt64)]) (rest := []) hcf (c_X9_onesOf l ((c_t_cells ^^^ p0).toInt64) r49 hc49) (va_cwS 1 hts gX9_load_X9_onesOf rfl rfl rfl ydX9_onesOf ⟨Nat.le_of_ble_eq_true rfl, Nat.le_of_ble_eq_true rfl⟩) hnw rfl hl.1 rfl (Nat.le_of_ble_eq_true rfl) dX9_load_49 ⟨Nat.le_of_ble_eq_true rfl, Nat.le_of_ble_eq_true rfl⟩ ?_
          refine lv_istore_n (lv' := [(2, .int r49), (0, .ref a_t), (1, .int p0)]) hx hb dX9_load_52 rfl hl (by decide) rfl (fun ls hl => ?_)
          refine lv_aload_n hx hb dX9_load_53 rfl (lv_at hl 1 rfl) ?_
          refine lv_iload_n hx hb dX9_load_54 rfl (lv_at hl 2 rfl) ?_
          refine va_put (D := D) (ci := 8) (v := .int p0) (ty := .int) (C := RX9) (T := TX9) (N := 9) hx hb hts hinX9 tyX9 tyX9_ok nmX9 hown hK hP hD hS 0 rfl rfl 4 (by decide) hfl22 (fun _ h9 => h9) rfl (by decide +kernel) rfl rfl (Nat.le_of_ble_eq_true rfl) dX9_load_55 (fun H locs hP hD hS => ?_)
          have hP : va_P D vwCl [(a_t, .inr (8, [.ref a_t_forms, .ref a_t_roll, .int c_t_many, .long c_t_taps, .int p0, .int c_t_acts, .int c_t_refused, .int c_t_knocks, .int c_t_thrown_17]))] H := hP
          have hD : va_D A [(a_t, .inr (8, [.ref a_t_forms, .ref a_t_roll, .int c_t_many, .long c_t_taps, .int p0, .int c_t_acts, .int c_t_refused, .int c_t_knocks, .int c_t_thrown_17]))] := hD
          refine lv_aload_n hx hb dX9_load_58 rfl (lv_at hl 1 rfl) ?_
          refine lv_iload_n hx hb dX9_load_59 rfl (lv_at hl 0 rfl) ?_
          obtain ⟨r60, c_t_acts_60, hc60, h⟩ := obn2_h h
          have hPc := hP.sub (ws' := [(a_t, .inr (8, [.ref a_t_forms, .ref a_t_roll, .int c_t_many, .long c_t_taps, .int p0, .int c_t_acts, .int c_t_refused, .int c_t_knocks, .int c_t_thrown_17]))]) [0] rfl
          have hDc := hD.sub (ws' := [(a_t, .inr (8, [.ref a_t_forms, .ref a_t_roll, .int c_t_many, .long c_t_taps, .int p0, .int c_t_acts, .int c_t_refused, .int c_t_knocks, .int c_t_thrown_17]))]) [0] (by decide) rfl
          refine hp_i (w1 := [(a_t, .inr (8, [.ref a_t_forms, .ref a_t_roll, .int c_t_many, .long c_t_taps, .int p0, .int c_t_acts_60, .int c_t_refused, .int c_t_knocks, .int c_t_thrown_17]))]) (wr := []) (va_runV (As := [.int r49]) (rest := []) hcf (c_X9_done l D cyJ H.size a_t a_t_forms a_t_roll c_t_many c_t_taps p0 c_t_acts c_t_refused c_t_knocks c_t_thrown_17 r49 r60 c_t_acts_60 hc60) (cwV 1 hts gX9_load_X9_done rfl rfl rfl ydX9_done ⟨Nat.le_of_ble_eq_true rfl, Nat.le_of_ble_eq_true rfl⟩) ⟨bl_PD, va_recv hK hP (ci := 8) (q0 := 0) rfl rfl, pr_PD hPc hK0 hDc hnw⟩ rfl rfl hl.1 rfl (lv_room (Nat.le_of_ble_eq_true rfl)) dX9_load_60 ⟨Nat.le_of_ble_eq_true rfl, Nat.le_of_ble_eq_true rfl⟩) hP hD hS hA [0] [] rfl rfl (by decide) (by decide) (fun H locs hP hD hS => ?_)
          have hP : va_P D vwCl [(a_t, .inr (8, [.ref a_t_forms, .ref a_t_roll, .int c_t_many, .long c_t_taps, .int p0, .int c_t_acts_60, .int c_t_refused, .int c_t_knocks, .int c_t_thrown_17]))] H := hP
          have hD : va_D A [(a_t, .inr (8, [.ref a_t_forms, .ref a_t_roll, .int c_t_many, .long c_t_taps, .int p0, .int c_t_acts_60, .int c_t_refused, .int c_t_knocks, .int c_t_thrown_17]))] := hD
          obtain ⟨e0, e1, e2, e3, e4⟩ := tup5 h
          subst e0
          subst e1
          subst e2
          subst e3
          subst e4
          have hP9 : va_P D vwCl [(a_t, .inr (8, [.ref a_t_forms, .ref a_t_roll, .int c_t_many, .long c_t_taps, .int p0, .int c_t_acts_60, .int c_t_refused, .int c_t_knocks, .int c_t_thrown_17]))] H := hP.sub [0] rfl
          have hD9 : va_D A [(a_t, .inr (8, [.ref a_t_forms, .ref a_t_roll, .int c_t_many, .long c_t_taps, .int p0, .int c_t_acts_60, .int c_t_refused, .int c_t_knocks, .int c_t_thrown_17]))] := hD.sub [0] (by decide) rfl
          exact W.iret hx hb hr (fun t ht hW => ⟨⟨_, (), rfl, rfl, wQA_of ht hP9 hD9⟩, hS.F ht⟩) hS.2.2 dX9_load_63
        · have h := if_ c34 h
          refine lv_aload_n hx hb dX9_load_37 rfl (lv_at hl 0 rfl) ?_
          obtain ⟨r38, c_t_refused_38, hc38, h⟩ := obn2_h h
          have hPc := hP.sub (ws' := [(a_t, .inr (8, [.ref a_t_forms, .ref a_t_roll, .int c_t_many, .long c_t_taps, .int c_t_cells, .int c_t_acts, .int c_t_refused, .int c_t_knocks, .int c_t_thrown_17]))]) [0] rfl
          have hDc := hD.sub (ws' := [(a_t, .inr (8, [.ref a_t_forms, .ref a_t_roll, .int c_t_many, .long c_t_taps, .int c_t_cells, .int c_t_acts, .int c_t_refused, .int c_t_knocks, .int c_t_thrown_17]))]) [0] (by decide) rfl
          refine hp_i (w1 := [(a_t, .inr (8, [.ref a_t_forms, .ref a_t_roll, .int c_t_many, .long c_t_taps, .int c_t_cells, .int c_t_acts, .int c_t_refused_38, .int c_t_knocks, .int c_t_thrown_17]))]) (wr := []) (va_runV (As := []) (rest := []) hcf (c_X9_no l D cyJ H.size a_t a_t_forms a_t_roll c_t_many c_t_taps c_t_cells c_t_acts c_t_refused c_t_knocks c_t_thrown_17 r38 c_t_refused_38 hc38) (cwV 0 hts gX9_load_X9_no rfl rfl rfl ydX9_no ⟨Nat.le_of_ble_eq_true rfl, Nat.le_of_ble_eq_true rfl⟩) ⟨bl_PD, va_recv hK hP (ci := 8) (q0 := 0) rfl rfl, pr_PD hPc hK0 hDc hnw⟩ rfl rfl hl.1 rfl (lv_room (Nat.le_of_ble_eq_true rfl)) dX9_load_38 ⟨Nat.le_of_ble_eq_true rfl, Nat.le_of_ble_eq_true rfl⟩) hP hD hS hA [0] [] rfl rfl (by decide) (by decide) (fun H locs hP hD hS => ?_)
          have hP : va_P D vwCl [(a_t, .inr (8, [.ref a_t_forms, .ref a_t_roll, .int c_t_many, .long c_t_taps, .int c_t_cells, .int c_t_acts, .int c_t_refused_38, .int c_t_knocks, .int c_t_thrown_17]))] H := hP
          have hD : va_D A [(a_t, .inr (8, [.ref a_t_forms, .ref a_t_roll, .int c_t_many, .long c_t_taps, .int c_t_cells, .int c_t_acts, .int c_t_refused_38, .int c_t_knocks, .int c_t_thrown_17]))] := hD
          obtain ⟨e0, e1, e2, e3, e4⟩ := tup5 h
          subst e0
          subst e1
          subst e2
          subst e3
          subst e4
          have hP9 : va_P D vwCl [(a_t, .inr (8, [.ref a_t_forms, .ref a_t_roll, .int c_t_many, .long c_t_taps, .int c_t_cells, .int c_t_acts, .int c_t_refused_38, .int c_t_knocks, .int c_t_thrown_17]))] H := hP.sub [0] rfl
          have hD9 : va_D A [(a_t, .inr (8, [.ref a_t_forms, .ref a_t_roll, .int c_t_many, .long c_t_taps, .int c_t_cells, .int c_t_acts, .int c_t_refused_38, .int c_t_knocks, .int c_t_thrown_17]))] := hD.sub [0] (by decide) rfl
          exact W.iret hx hb hr (fun t ht hW => ⟨⟨_, (), rfl, rfl, wQA_of ht hP9 hD9⟩, hS.F ht⟩) hS.2.2 dX9_load_41
      · have h := if_ c20 h
        refine lv_iconst (v := 0) hx hb dX9_load_23 (by decide) ?_
        obtain ⟨e0, e1, e2, e3, e4⟩ := tup5 h
        subst e0
        subst e1
        subst e2
        subst e3
        subst e4
        have hP9 : va_P D vwCl [(a_t, .inr (8, [.ref a_t_forms, .ref a_t_roll, .int c_t_many, .long c_t_taps, .int c_t_cells, .int c_t_acts, .int c_t_refused, .int c_t_knocks, .int c_t_thrown_17]))] H := hP.sub [0] rfl
        have hD9 : va_D A [(a_t, .inr (8, [.ref a_t_forms, .ref a_t_roll, .int c_t_many, .long c_t_taps, .int c_t_cells, .int c_t_acts, .int c_t_refused, .int c_t_knocks, .int c_t_thrown_17]))] := hD.sub [0] (by decide) rfl
        exact W.iret hx hb hr (fun t ht hW => ⟨⟨_, (), rfl, rfl, wQA_of ht hP9 hD9⟩, hS.F ht⟩) hS.2.2 dX9_load_24

noncomputable abbrev rmX9_degree : Room := { frames := 3, cells := 0, slots := 0, locals := 64 }
theorem ydX9_degree : yX9_degree.cls = RX9 ∧ yX9_degree.cls ≠ "java/lang/invoke/MethodHandle" ∧ yX9_degree.cls ≠ "java/lang/invoke/VarHandle" ∧ (parseMethodDescriptor yX9_degree.desc).map (fun d => d.parameters.length) = some 1 := by decide +kernel
noncomputable def F_X9_degree (f_t_forms : Nat → Int64) (p0 : Int32) : Option (Int32 × Int32) :=
 obn (F_X9_isForm p0) (fun r2 =>
 (if r2 = 0 then
 obn2 (F_X9_isThrown_ (1 : Int32)) (fun r13 c_t_thrown_13 =>
 (if r13 = 0 then
 chk (¬ (p0 < 0 ∨ 6 ≤ p0.toNatClampNeg)) (
 obn (F_X9_degreeOf (f_t_forms p0.toNatClampNeg)) (fun r29 =>
 some (r29, c_t_thrown_13)))
else
 some ((0 : Int32), c_t_thrown_13)))
else
 obn2 (F_X9_isThrown_ (0 : Int32)) (fun r13 c_t_thrown_13 =>
 (if r13 = 0 then
 chk (¬ (p0 < 0 ∨ 6 ≤ p0.toNatClampNeg)) (
 obn (F_X9_degreeOf (f_t_forms p0.toNatClampNeg)) (fun r29 =>
 some (r29, c_t_thrown_13)))
else
 some ((0 : Int32), c_t_thrown_13)))))
set_option maxHeartbeats 4000000 in
set_option maxRecDepth 100000 in
theorem c_X9_degree (l : Launch) (D : va_G) (cyJ : ClassId) (sz : Nat) (a_t : Nat) (a_t_forms : Nat) (a_t_roll : Nat) (c_t_many : Int32) (c_t_taps : Int64) (c_t_cells : Int32) (c_t_acts : Int32) (c_t_refused : Int32) (c_t_knocks : Int32) (c_t_thrown : Int32) (f_t_forms : Nat → Int64) (p0 : Int32) (r0 : Int32) (o_c_t_thrown : Int32) (hF : F_X9_degree f_t_forms p0 = some (r0, o_c_t_thrown)) : Met l yX9_degree wsX9_degree rmX9_degree (va_Pc [.ref a_t, .int p0] (wPD D [(cyJ, .long)] [(a_t, .inr (8, [.ref a_t_forms, .ref a_t_roll, .int c_t_many, .long c_t_taps, .int c_t_cells, .int c_t_acts, .int c_t_refused, .int c_t_knocks, .int c_t_thrown])), (a_t_forms, .inl (cyJ, 6, .inr (.inl f_t_forms)))] sz)) (va_Qi (fun (r : Int32) (_ : Unit) => r = r0) (fun _ t => wQA D [(a_t, .inr (8, [.ref a_t_forms, .ref a_t_roll, .int c_t_many, .long c_t_taps, .int c_t_cells, .int c_t_acts, .int c_t_refused, .int c_t_knocks, .int o_c_t_thrown])), (a_t_forms, .inl (cyJ, 6, .inr (.inl f_t_forms)))] (va_A [(a_t, .inr (8, [.ref a_t_forms, .ref a_t_roll, .int c_t_many, .long c_t_taps, .int c_t_cells, .int c_t_acts, .int c_t_refused, .int c_t_knocks, .int c_t_thrown])), (a_t_forms, .inl (cyJ, 6, .inr (.inl f_t_forms)))] sz) t) (va_A [(a_t, .inr (8, [.ref a_t_forms, .ref a_t_roll, .int c_t_many, .long c_t_taps, .int c_t_cells, .int c_t_acts, .int c_t_refused, .int c_t_knocks, .int c_t_thrown])), (a_t_forms, .inl (cyJ, 6, .inr (.inl f_t_forms)))] sz)) 0 0 (va_A [(a_t, .inr (8, [.ref a_t_forms, .ref a_t_roll, .int c_t_many, .long c_t_taps, .int c_t_cells, .int c_t_acts, .int c_t_refused, .int c_t_knocks, .int c_t_thrown])), (a_t_forms, .inl (cyJ, 6, .inr (.inl f_t_forms)))] sz) := by
  refine Met.ofW (cc := cX9_degree) (maxL := 2) (ret := (some .int)) (by decide) rfl ?_
  intro p e s m args below meth c s₁ B hml hv
  obtain ⟨rfl, hsz, hP, hK, hD0, hnw⟩ := hv
  have hx := B.exec
  have hb := B.bytes
  have hr := B.returns
  have hts := atoms_spec (ws := wsX9_degree) B.pre
  have hown : s.vm.findClass RX9 = some m.cls := findClass_of_methodNamed B.named
  have hlocks := B.notSynchronized
  have hcf : CallFix _ _ _ _ _ _ _ _ _ := ⟨hx, hb, hml, hown, hts⟩
  have hinX9 : ∀ w ∈ u_ws RX9 TX9 9, w ∈ wsX9_degree := by decide +kernel
  have hfl9 := hts (.fieldLink RX9 9 "FormwheelModel" "forms" "[J") (by decide +kernel)
  subst hsz
  have hD := hD0.self (sz := s.heap.size)
  generalize hAe : va_A [(a_t, .inr (8, [.ref a_t_forms, .ref a_t_roll, .int c_t_many, .long c_t_taps, .int c_t_cells, .int c_t_acts, .int c_t_refused, .int c_t_knocks, .int c_t_thrown])), (a_t_forms, .inl (cyJ, 6, .inr (.inl f_t_forms)))] s.heap.size = A at hD ⊢
  have hA : ∀ q : Nat, s.heap.size ≤ q → A q := fun q h => by rw [← hAe]; exact Or.inr h
  have hS : va_S A s.heap s.heap [] := va_S.rf
  have hP : va_P D vwCl [(a_t, .inr (8, [.ref a_t_forms, .ref a_t_roll, .int c_t_many, .long c_t_taps, .int c_t_cells, .int c_t_acts, .int c_t_refused, .int c_t_knocks, .int c_t_thrown])), (a_t_forms, .inl (cyJ, 6, .inr (.inl f_t_forms)))] s.heap := hP
  have hK0 := hK
  have hl := lv_entry ([.ref a_t, .int p0]) (n := 2) (Nat.le_of_ble_eq_true rfl)
  rw [lg_entry_eq]
  generalize (lg_sl ([.ref a_t, .int p0]) ++ List.replicate (2 - (lg_sl ([.ref a_t, .int p0])).length) Slot.unset).toArray = ls at hl ⊢
  have hl : lv_has ls 2 [(0, .ref a_t), (1, .int p0)] := hl
  have h := hF
  clear hF
  unfold F_X9_degree at h
  refine lv_aload_n hx hb dX9_degree_0 rfl (lv_at hl 0 rfl) ?_
  refine lv_iload_n hx hb dX9_degree_1 rfl (lv_at hl 1 rfl) ?_
  obtain ⟨r2, hc2, h⟩ := obn_h h
  refine pz_callS (As := [.int p0]) (rest := [.ref a_t]) hcf (c_X9_isForm l p0 r2 hc2) (va_cwS 1 hts gX9_degree_X9_isForm rfl rfl rfl ydX9_isForm ⟨Nat.le_of_ble_eq_true rfl, Nat.le_of_ble_eq_true rfl⟩) hnw rfl hl.1 rfl (Nat.le_of_ble_eq_true rfl) dX9_degree_2 ⟨Nat.le_of_ble_eq_true rfl, Nat.le_of_ble_eq_true rfl⟩ ?_
  refine lv_if_ne (tgt := 12) hx hb dX9_degree_5 (by decide) (fun c5 => ?_) (fun c5 => ?_)
  · have h := if_ c5 h
    refine lv_iconst (v := 0) hx hb dX9_degree_12 (by decide) ?_
    obtain ⟨r13, c_t_thrown_13, hc13, h⟩ := obn2_h h
    have hPc := hP.sub (ws' := [(a_t, .inr (8, [.ref a_t_forms, .ref a_t_roll, .int c_t_many, .long c_t_taps, .int c_t_cells, .int c_t_acts, .int c_t_refused, .int c_t_knocks, .int c_t_thrown]))]) [0] rfl
    have hDc := hD.sub (ws' := [(a_t, .inr (8, [.ref a_t_forms, .ref a_t_roll, .int c_t_many, .long c_t_taps, .int c_t_cells, .int c_t_acts, .int c_t_refused, .int c_t_knocks, .int c_t_thrown]))]) [0] (by decide) rfl
    refine hp_i (w1 := [(a_t, .inr (8, [.ref a_t_forms, .ref a_t_roll, .int c_t_many, .long c_t_taps, .int c_t_cells, .int c_t_acts, .int c_t_refused, .int c_t_knocks, .int c_t_thrown_13]))]) (wr := [(a_t_forms, .inl (cyJ, 6, .inr (.inl f_t_forms)))]) (va_runV (As := [.int (0 : Int32)]) (rest := []) hcf (c_X9_isThrown_ l D cyJ s.heap.size a_t a_t_forms a_t_roll c_t_many c_t_taps c_t_cells c_t_acts c_t_refused c_t_knocks c_t_thrown (0 : Int32) r13 c_t_thrown_13 hc13) (cwV 1 hts gX9_degree_X9_isThrown_ rfl rfl rfl ydX9_isThrown_ ⟨Nat.le_of_ble_eq_true rfl, Nat.le_of_ble_eq_true rfl⟩) ⟨bl_PD, va_recv hK hP (ci := 8) (q0 := 0) rfl rfl, pr_PD hPc hK0 hDc hnw⟩ rfl rfl hl.1 rfl (lv_room (Nat.le_of_ble_eq_true rfl)) dX9_degree_13 ⟨Nat.le_of_ble_eq_true rfl, Nat.le_of_ble_eq_true rfl⟩) hP hD hS hA [0] [1] rfl rfl (by decide) (by decide) (fun H locs hP hD hS => ?_)
    have hP : va_P D vwCl [(a_t_forms, .inl (cyJ, 6, .inr (.inl f_t_forms))), (a_t, .inr (8, [.ref a_t_forms, .ref a_t_roll, .int c_t_many, .long c_t_taps, .int c_t_cells, .int c_t_acts, .int c_t_refused, .int c_t_knocks, .int c_t_thrown_13]))] H := hP
    have hD : va_D A [(a_t_forms, .inl (cyJ, 6, .inr (.inl f_t_forms))), (a_t, .inr (8, [.ref a_t_forms, .ref a_t_roll, .int c_t_many, .long c_t_taps, .int c_t_cells, .int c_t_acts, .int c_t_refused, .int c_t_knocks, .int c_t_thrown_13]))] := hD
    refine lv_if_eq (tgt := 23) hx hb dX9_degree_16 (by decide) (fun c16 => ?_) (fun c16 => ?_)
    · have h := it_ c16 h
      refine lv_aload_n hx hb dX9_degree_23 rfl (lv_at hl 0 rfl) ?_
      refine va_get (D := D) (ci := 8) (v := .ref a_t_forms) (C := RX9) (T := TX9) (N := 9) hx hb hts hinX9 hown hK hP 1 rfl rfl 0 (by decide) hfl9 (fun _ h9 => h9) rfl dX9_degree_24 ?_
      refine lv_iload_n hx hb dX9_degree_27 rfl (lv_at hl 1 rfl) ?_
      obtain ⟨hq28, h⟩ := chk_h h
      refine va_lald hx hb hK hP 0 0 rfl rfl hq28 dX9_degree_28 ?_
      obtain ⟨r29, hc29, h⟩ := obn_h h
      refine pz_callS (As := [.long (f_t_forms p0.toNatClampNeg)]) (rest := []) hcf (c_X9_degreeOf l (f_t_forms p0.toNatClampNeg) r29 hc29) (va_cwS 1 hts gX9_degree_X9_degreeOf rfl rfl rfl ydX9_degreeOf ⟨Nat.le_of_ble_eq_true rfl, Nat.le_of_ble_eq_true rfl⟩) hnw rfl hl.1 rfl (Nat.le_of_ble_eq_true rfl) dX9_degree_29 ⟨Nat.le_of_ble_eq_true rfl, Nat.le_of_ble_eq_true rfl⟩ ?_
      obtain ⟨e0, e1⟩ := tup2 h
      subst e0
      subst e1
      have hP9 : va_P D vwCl [(a_t, .inr (8, [.ref a_t_forms, .ref a_t_roll, .int c_t_many, .long c_t_taps, .int c_t_cells, .int c_t_acts, .int c_t_refused, .int c_t_knocks, .int c_t_thrown_13])), (a_t_forms, .inl (cyJ, 6, .inr (.inl f_t_forms)))] H := hP.sub [1, 0] rfl
      have hD9 : va_D A [(a_t, .inr (8, [.ref a_t_forms, .ref a_t_roll, .int c_t_many, .long c_t_taps, .int c_t_cells, .int c_t_acts, .int c_t_refused, .int c_t_knocks, .int c_t_thrown_13])), (a_t_forms, .inl (cyJ, 6, .inr (.inl f_t_forms)))] := hD.sub [1, 0] (by decide) rfl
      exact W.iret hx hb hr (fun t ht hW => ⟨⟨_, (), rfl, rfl, wQA_of ht hP9 hD9⟩, hS.F ht⟩) hS.2.2 dX9_degree_32
    · have h := if_ c16 h
      refine lv_iconst (v := 0) hx hb dX9_degree_19 (by decide) ?_
      refine lv_goto (tgt := 32) hx hb dX9_degree_20 (by decide) ?_
      obtain ⟨e0, e1⟩ := tup2 h
      subst e0
      subst e1
      have hP9 : va_P D vwCl [(a_t, .inr (8, [.ref a_t_forms, .ref a_t_roll, .int c_t_many, .long c_t_taps, .int c_t_cells, .int c_t_acts, .int c_t_refused, .int c_t_knocks, .int c_t_thrown_13])), (a_t_forms, .inl (cyJ, 6, .inr (.inl f_t_forms)))] H := hP.sub [1, 0] rfl
      have hD9 : va_D A [(a_t, .inr (8, [.ref a_t_forms, .ref a_t_roll, .int c_t_many, .long c_t_taps, .int c_t_cells, .int c_t_acts, .int c_t_refused, .int c_t_knocks, .int c_t_thrown_13])), (a_t_forms, .inl (cyJ, 6, .inr (.inl f_t_forms)))] := hD.sub [1, 0] (by decide) rfl
      exact W.iret hx hb hr (fun t ht hW => ⟨⟨_, (), rfl, rfl, wQA_of ht hP9 hD9⟩, hS.F ht⟩) hS.2.2 dX9_degree_32
  · have h := it_ c5 h
    refine lv_iconst (v := 1) hx hb dX9_degree_8 (by decide) ?_
    refine lv_goto (tgt := 13) hx hb dX9_degree_9 (by decide) ?_
    obtain ⟨r13, c_t_thrown_13, hc13, h⟩ := obn2_h h
    have hPc := hP.sub (ws' := [(a_t, .inr (8, [.ref a_t_forms, .ref a_t_roll, .int c_t_many, .long c_t_taps, .int c_t_cells, .int c_t_acts, .int c_t_refused, .int c_t_knocks, .int c_t_thrown]))]) [0] rfl
    have hDc := hD.sub (ws' := [(a_t, .inr (8, [.ref a_t_forms, .ref a_t_roll, .int c_t_many, .long c_t_taps, .int c_t_cells, .int c_t_acts, .int c_t_refused, .int c_t_knocks, .int c_t_thrown]))]) [0] (by decide) rfl
    refine hp_i (w1 := [(a_t, .inr (8, [.ref a_t_forms, .ref a_t_roll, .int c_t_many, .long c_t_taps, .int c_t_cells, .int c_t_acts, .int c_t_refused, .int c_t_knocks, .int c_t_thrown_13]))]) (wr := [(a_t_forms, .inl (cyJ, 6, .inr (.inl f_t_forms)))]) (va_runV (As := [.int (1 : Int32)]) (rest := []) hcf (c_X9_isThrown_ l D cyJ s.heap.size a_t a_t_forms a_t_roll c_t_many c_t_taps c_t_cells c_t_acts c_t_refused c_t_knocks c_t_thrown (1 : Int32) r13 c_t_thrown_13 hc13) (cwV 1 hts gX9_degree_X9_isThrown_ rfl rfl rfl ydX9_isThrown_ ⟨Nat.le_of_ble_eq_true rfl, Nat.le_of_ble_eq_true rfl⟩) ⟨bl_PD, va_recv hK hP (ci := 8) (q0 := 0) rfl rfl, pr_PD hPc hK0 hDc hnw⟩ rfl rfl hl.1 rfl (lv_room (Nat.le_of_ble_eq_true rfl)) dX9_degree_13 ⟨Nat.le_of_ble_eq_true rfl, Nat.le_of_ble_eq_true rfl⟩) hP hD hS hA [0] [1] rfl rfl (by decide) (by decide) (fun H locs hP hD hS => ?_)
    have hP : va_P D vwCl [(a_t_forms, .inl (cyJ, 6, .inr (.inl f_t_forms))), (a_t, .inr (8, [.ref a_t_forms, .ref a_t_roll, .int c_t_many, .long c_t_taps, .int c_t_cells, .int c_t_acts, .int c_t_refused, .int c_t_knocks, .int c_t_thrown_13]))] H := hP
    have hD : va_D A [(a_t_forms, .inl (cyJ, 6, .inr (.inl f_t_forms))), (a_t, .inr (8, [.ref a_t_forms, .ref a_t_roll, .int c_t_many, .long c_t_taps, .int c_t_cells, .int c_t_acts, .int c_t_refused, .int c_t_knocks, .int c_t_thrown_13]))] := hD
    refine lv_if_eq (tgt := 23) hx hb dX9_degree_16 (by decide) (fun c16 => ?_) (fun c16 => ?_)
    · have h := it_ c16 h
      refine lv_aload_n hx hb dX9_degree_23 rfl (lv_at hl 0 rfl) ?_
      refine va_get (D := D) (ci := 8) (v := .ref a_t_forms) (C := RX9) (T := TX9) (N := 9) hx hb hts hinX9 hown hK hP 1 rfl rfl 0 (by decide) hfl9 (fun _ h9 => h9) rfl dX9_degree_24 ?_
      refine lv_iload_n hx hb dX9_degree_27 rfl (lv_at hl 1 rfl) ?_
      obtain ⟨hq28, h⟩ := chk_h h
      refine va_lald hx hb hK hP 0 0 rfl rfl hq28 dX9_degree_28 ?_
      obtain ⟨r29, hc29, h⟩ := obn_h h
      refine pz_callS (As := [.long (f_t_forms p0.toNatClampNeg)]) (rest := []) hcf (c_X9_degreeOf l (f_t_forms p0.toNatClampNeg) r29 hc29) (va_cwS 1 hts gX9_degree_X9_degreeOf rfl rfl rfl ydX9_degreeOf ⟨Nat.le_of_ble_eq_true rfl, Nat.le_of_ble_eq_true rfl⟩) hnw rfl hl.1 rfl (Nat.le_of_ble_eq_true rfl) dX9_degree_29 ⟨Nat.le_of_ble_eq_true rfl, Nat.le_of_ble_eq_true rfl⟩ ?_
      obtain ⟨e0, e1⟩ := tup2 h
      subst e0
      subst e1
      have hP9 : va_P D vwCl [(a_t, .inr (8, [.ref a_t_forms, .ref a_t_roll, .int c_t_many, .long c_t_taps, .int c_t_cells, .int c_t_acts, .int c_t_refused, .int c_t_knocks, .int c_t_thrown_13])), (a_t_forms, .inl (cyJ, 6, .inr (.inl f_t_forms)))] H := hP.sub [1, 0] rfl
      have hD9 : va_D A [(a_t, .inr (8, [.ref a_t_forms, .ref a_t_roll, .int c_t_many, .long c_t_taps, .int c_t_cells, .int c_t_acts, .int c_t_refused, .int c_t_knocks, .int c_t_thrown_13])), (a_t_forms, .inl (cyJ, 6, .inr (.inl f_t_forms)))] := hD.sub [1, 0] (by decide) rfl
      exact W.iret hx hb hr (fun t ht hW => ⟨⟨_, (), rfl, rfl, wQA_of ht hP9 hD9⟩, hS.F ht⟩) hS.2.2 dX9_degree_32
    · have h := if_ c16 h
      refine lv_iconst (v := 0) hx hb dX9_degree_19 (by decide) ?_
      refine lv_goto (tgt := 32) hx hb dX9_degree_20 (by decide) ?_
      obtain ⟨e0, e1⟩ := tup2 h
      subst e0
      subst e1
      have hP9 : va_P D vwCl [(a_t, .inr (8, [.ref a_t_forms, .ref a_t_roll, .int c_t_many, .long c_t_taps, .int c_t_cells, .int c_t_acts, .int c_t_refused, .int c_t_knocks, .int c_t_thrown_13])), (a_t_forms, .inl (cyJ, 6, .inr (.inl f_t_forms)))] H := hP.sub [1, 0] rfl
      have hD9 : va_D A [(a_t, .inr (8, [.ref a_t_forms, .ref a_t_roll, .int c_t_many, .long c_t_taps, .int c_t_cells, .int c_t_acts, .int c_t_refused, .int c_t_knocks, .int c_t_thrown_13])), (a_t_forms, .inl (cyJ, 6, .inr (.inl f_t_forms)))] := hD.sub [1, 0] (by decide) rfl
      exact W.iret hx hb hr (fun t ht hW => ⟨⟨_, (), rfl, rfl, wQA_of ht hP9 hD9⟩, hS.F ht⟩) hS.2.2 dX9_degree_32

noncomputable abbrev rmX9_code : Room := { frames := 3, cells := 0, slots := 0, locals := 64 }
theorem ydX9_code : yX9_code.cls = RX9 ∧ yX9_code.cls ≠ "java/lang/invoke/MethodHandle" ∧ yX9_code.cls ≠ "java/lang/invoke/VarHandle" ∧ (parseMethodDescriptor yX9_code.desc).map (fun d => d.parameters.length) = some 1 := by decide +kernel
noncomputable def F_X9_code (f_t_forms : Nat → Int64) (p0 : Int32) : Option (Int32 × Int32) :=
 obn (F_X9_isForm p0) (fun r2 =>
 (if r2 = 0 then
 obn2 (F_X9_isThrown_ (1 : Int32)) (fun r13 c_t_thrown_13 =>
 (if r13 = 0 then
 chk (¬ (p0 < 0 ∨ 6 ≤ p0.toNatClampNeg)) (
 obn (F_X9_degreeOf (f_t_forms p0.toNatClampNeg)) (fun r29 =>
 (if r29 ≤ (30 : Int32) then
 chk (¬ (p0 < 0 ∨ 6 ≤ p0.toNatClampNeg)) (
 some ((f_t_forms p0.toNatClampNeg).toInt32, c_t_thrown_13))
else
 some ((-9 : Int32), c_t_thrown_13))))
else
 some ((0 : Int32), c_t_thrown_13)))
else
 obn2 (F_X9_isThrown_ (0 : Int32)) (fun r13 c_t_thrown_13 =>
 (if r13 = 0 then
 chk (¬ (p0 < 0 ∨ 6 ≤ p0.toNatClampNeg)) (
 obn (F_X9_degreeOf (f_t_forms p0.toNatClampNeg)) (fun r29 =>
 (if r29 ≤ (30 : Int32) then
 chk (¬ (p0 < 0 ∨ 6 ≤ p0.toNatClampNeg)) (
 some ((f_t_forms p0.toNatClampNeg).toInt32, c_t_thrown_13))
else
 some ((-9 : Int32), c_t_thrown_13))))
else
 some ((0 : Int32), c_t_thrown_13)))))
set_option maxHeartbeats 4000000 in
set_option maxRecDepth 100000 in
theorem c_X9_code (l : Launch) (D : va_G) (cyJ : ClassId) (sz : Nat) (a_t : Nat) (a_t_forms : Nat) (a_t_roll : Nat) (c_t_many : Int32) (c_t_taps : Int64) (c_t_cells : Int32) (c_t_acts : Int32) (c_t_refused : Int32) (c_t_knocks : Int32) (c_t_thrown : Int32) (f_t_forms : Nat → Int64) (p0 : Int32) (r0 : Int32) (o_c_t_thrown : Int32) (hF : F_X9_code f_t_forms p0 = some (r0, o_c_t_thrown)) : Met l yX9_code wsX9_code rmX9_code (va_Pc [.ref a_t, .int p0] (wPD D [(cyJ, .long)] [(a_t, .inr (8, [.ref a_t_forms, .ref a_t_roll, .int c_t_many, .long c_t_taps, .int c_t_cells, .int c_t_acts, .int c_t_refused, .int c_t_knocks, .int c_t_thrown])), (a_t_forms, .inl (cyJ, 6, .inr (.inl f_t_forms)))] sz)) (va_Qi (fun (r : Int32) (_ : Unit) => r = r0) (fun _ t => wQA D [(a_t, .inr (8, [.ref a_t_forms, .ref a_t_roll, .int c_t_many, .long c_t_taps, .int c_t_cells, .int c_t_acts, .int c_t_refused, .int c_t_knocks, .int o_c_t_thrown])), (a_t_forms, .inl (cyJ, 6, .inr (.inl f_t_forms)))] (va_A [(a_t, .inr (8, [.ref a_t_forms, .ref a_t_roll, .int c_t_many, .long c_t_taps, .int c_t_cells, .int c_t_acts, .int c_t_refused, .int c_t_knocks, .int c_t_thrown])), (a_t_forms, .inl (cyJ, 6, .inr (.inl f_t_forms)))] sz) t) (va_A [(a_t, .inr (8, [.ref a_t_forms, .ref a_t_roll, .int c_t_many, .long c_t_taps, .int c_t_cells, .int c_t_acts, .int c_t_refused, .int c_t_knocks, .int c_t_thrown])), (a_t_forms, .inl (cyJ, 6, .inr (.inl f_t_forms)))] sz)) 0 0 (va_A [(a_t, .inr (8, [.ref a_t_forms, .ref a_t_roll, .int c_t_many, .long c_t_taps, .int c_t_cells, .int c_t_acts, .int c_t_refused, .int c_t_knocks, .int c_t_thrown])), (a_t_forms, .inl (cyJ, 6, .inr (.inl f_t_forms)))] sz) := by
  refine Met.ofW (cc := cX9_code) (maxL := 2) (ret := (some .int)) (by decide) rfl ?_
  intro p e s m args below meth c s₁ B hml hv
  obtain ⟨rfl, hsz, hP, hK, hD0, hnw⟩ := hv
  have hx := B.exec
  have hb := B.bytes
  have hr := B.returns
  have hts := atoms_spec (ws := wsX9_code) B.pre
  have hown : s.vm.findClass RX9 = some m.cls := findClass_of_methodNamed B.named
  have hlocks := B.notSynchronized
  have hcf : CallFix _ _ _ _ _ _ _ _ _ := ⟨hx, hb, hml, hown, hts⟩
  have hinX9 : ∀ w ∈ u_ws RX9 TX9 9, w ∈ wsX9_code := by decide +kernel
  have hfl9 := hts (.fieldLink RX9 9 "FormwheelModel" "forms" "[J") (by decide +kernel)
  subst hsz
  have hD := hD0.self (sz := s.heap.size)
  generalize hAe : va_A [(a_t, .inr (8, [.ref a_t_forms, .ref a_t_roll, .int c_t_many, .long c_t_taps, .int c_t_cells, .int c_t_acts, .int c_t_refused, .int c_t_knocks, .int c_t_thrown])), (a_t_forms, .inl (cyJ, 6, .inr (.inl f_t_forms)))] s.heap.size = A at hD ⊢
  have hA : ∀ q : Nat, s.heap.size ≤ q → A q := fun q h => by rw [← hAe]; exact Or.inr h
  have hS : va_S A s.heap s.heap [] := va_S.rf
  have hP : va_P D vwCl [(a_t, .inr (8, [.ref a_t_forms, .ref a_t_roll, .int c_t_many, .long c_t_taps, .int c_t_cells, .int c_t_acts, .int c_t_refused, .int c_t_knocks, .int c_t_thrown])), (a_t_forms, .inl (cyJ, 6, .inr (.inl f_t_forms)))] s.heap := hP
  have hK0 := hK
  have hl := lv_entry ([.ref a_t, .int p0]) (n := 2) (Nat.le_of_ble_eq_true rfl)
  rw [lg_entry_eq]
  generalize (lg_sl ([.ref a_t, .int p0]) ++ List.replicate (2 - (lg_sl ([.ref a_t, .int p0])).length) Slot.unset).toArray = ls at hl ⊢
  have hl : lv_has ls 2 [(0, .ref a_t), (1, .int p0)] := hl
  have h := hF
  clear hF
  unfold F_X9_code at h
  refine lv_aload_n hx hb dX9_code_0 rfl (lv_at hl 0 rfl) ?_
  refine lv_iload_n hx hb dX9_code_1 rfl (lv_at hl 1 rfl) ?_
  obtain ⟨r2, hc2, h⟩ := obn_h h
  refine pz_callS (As := [.int p0]) (rest := [.ref a_t]) hcf (c_X9_isForm l p0 r2 hc2) (va_cwS 1 hts gX9_code_X9_isForm rfl rfl rfl ydX9_isForm ⟨Nat.le_of_ble_eq_true rfl, Nat.le_of_ble_eq_true rfl⟩) hnw rfl hl.1 rfl (Nat.le_of_ble_eq_true rfl) dX9_code_2 ⟨Nat.le_of_ble_eq_true rfl, Nat.le_of_ble_eq_true rfl⟩ ?_
  refine lv_if_ne (tgt := 12) hx hb dX9_code_5 (by decide) (fun c5 => ?_) (fun c5 => ?_)
  · have h := if_ c5 h
    refine lv_iconst (v := 0) hx hb dX9_code_12 (by decide) ?_
    obtain ⟨r13, c_t_thrown_13, hc13, h⟩ := obn2_h h
    have hPc := hP.sub (ws' := [(a_t, .inr (8, [.ref a_t_forms, .ref a_t_roll, .int c_t_many, .long c_t_taps, .int c_t_cells, .int c_t_acts, .int c_t_refused, .int c_t_knocks, .int c_t_thrown]))]) [0] rfl
    have hDc := hD.sub (ws' := [(a_t, .inr (8, [.ref a_t_forms, .ref a_t_roll, .int c_t_many, .long c_t_taps, .int c_t_cells, .int c_t_acts, .int c_t_refused, .int c_t_knocks, .int c_t_thrown]))]) [0] (by decide) rfl
    refine hp_i (w1 := [(a_t, .inr (8, [.ref a_t_forms, .ref a_t_roll, .int c_t_many, .long c_t_taps, .int c_t_cells, .int c_t_acts, .int c_t_refused, .int c_t_knocks, .int c_t_thrown_13]))]) (wr := [(a_t_forms, .inl (cyJ, 6, .inr (.inl f_t_forms)))]) (va_runV (As := [.int (0 : Int32)]) (rest := []) hcf (c_X9_isThrown_ l D cyJ s.heap.size a_t a_t_forms a_t_roll c_t_many c_t_taps c_t_cells c_t_acts c_t_refused c_t_knocks c_t_thrown (0 : Int32) r13 c_t_thrown_13 hc13) (cwV 1 hts gX9_code_X9_isThrown_ rfl rfl rfl ydX9_isThrown_ ⟨Nat.le_of_ble_eq_true rfl, Nat.le_of_ble_eq_true rfl⟩) ⟨bl_PD, va_recv hK hP (ci := 8) (q0 := 0) rfl rfl, pr_PD hPc hK0 hDc hnw⟩ rfl rfl hl.1 rfl (lv_room (Nat.le_of_ble_eq_true rfl)) dX9_code_13 ⟨Nat.le_of_ble_eq_true rfl, Nat.le_of_ble_eq_true rfl⟩) hP hD hS hA [0] [1] rfl rfl (by decide) (by decide) (fun H locs hP hD hS => ?_)
    have hP : va_P D vwCl [(a_t_forms, .inl (cyJ, 6, .inr (.inl f_t_forms))), (a_t, .inr (8, [.ref a_t_forms, .ref a_t_roll, .int c_t_many, .long c_t_taps, .int c_t_cells, .int c_t_acts, .int c_t_refused, .int c_t_knocks, .int c_t_thrown_13]))] H := hP
    have hD : va_D A [(a_t_forms, .inl (cyJ, 6, .inr (.inl f_t_forms))), (a_t, .inr (8, [.ref a_t_forms, .ref a_t_roll, .int c_t_many, .long c_t_taps, .int c_t_cells, .int c_t_acts, .int c_t_refused, .int c_t_knocks, .int c_t_thrown_13]))] := hD
    refine lv_if_eq (tgt := 23) hx hb dX9_code_16 (by decide) (fun c16 => ?_) (fun c16 => ?_)
    · have h := it_ c16 h
      refine lv_aload_n hx hb dX9_code_23 rfl (lv_at hl 0 rfl) ?_
      refine va_get (D := D) (ci := 8) (v := .ref a_t_forms) (C := RX9) (T := TX9) (N := 9) hx hb hts hinX9 hown hK hP 1 rfl rfl 0 (by decide) hfl9 (fun _ h9 => h9) rfl dX9_code_24 ?_
      refine lv_iload_n hx hb dX9_code_27 rfl (lv_at hl 1 rfl) ?_
      obtain ⟨hq28, h⟩ := chk_h h
      refine va_lald hx hb hK hP 0 0 rfl rfl hq28 dX9_code_28 ?_
      obtain ⟨r29, hc29, h⟩ := obn_h h
      refine pz_callS (As := [.long (f_t_forms p0.toNatClampNeg)]) (rest := []) hcf (c_X9_degreeOf l (f_t_forms p0.toNatClampNeg) r29 hc29) (va_cwS 1 hts gX9_code_X9_degreeOf rfl rfl rfl ydX9_degreeOf ⟨Nat.le_of_ble_eq_true rfl, Nat.le_of_ble_eq_true rfl⟩) hnw rfl hl.1 rfl (Nat.le_of_ble_eq_true rfl) dX9_code_29 ⟨Nat.le_of_ble_eq_true rfl, Nat.le_of_ble_eq_true rfl⟩ ?_
      refine lv_bipush (v := 30) hx hb dX9_code_32 (by decide) ?_
      refine lv_icmp_le (tgt := 42) hx hb dX9_code_34 (by decide) (fun c34 => ?_) (fun c34 => ?_)
      · have h := it_ c34 h
        refine lv_aload_n hx hb dX9_code_42 rfl (lv_at hl 0 rfl) ?_
        refine va_get (D := D) (ci := 8) (v := .ref a_t_forms) (C := RX9) (T := TX9) (N := 9) hx hb hts hinX9 hown hK hP 1 rfl rfl 0 (by decide) hfl9 (fun _ h9 => h9) rfl dX9_code_43 ?_
        refine lv_iload_n hx hb dX9_code_46 rfl (lv_at hl 1 rfl) ?_
        obtain ⟨hq47, h⟩ := chk_h h
        refine va_lald hx hb hK hP 0 0 rfl rfl hq47 dX9_code_47 ?_
        refine lv_l2i (v := (f_t_forms p0.toNatClampNeg).toInt32) hx hb dX9_code_48 rfl ?_
        obtain ⟨e0, e1⟩ := tup2 h
        subst e0
        subst e1
        have hP9 : va_P D vwCl [(a_t, .inr (8, [.ref a_t_forms, .ref a_t_roll, .int c_t_many, .long c_t_taps, .int c_t_cells, .int c_t_acts, .int c_t_refused, .int c_t_knocks, .int c_t_thrown_13])), (a_t_forms, .inl (cyJ, 6, .inr (.inl f_t_forms)))] H := hP.sub [1, 0] rfl
        have hD9 : va_D A [(a_t, .inr (8, [.ref a_t_forms, .ref a_t_roll, .int c_t_many, .long c_t_taps, .int c_t_cells, .int c_t_acts, .int c_t_refused, .int c_t_knocks, .int c_t_thrown_13])), (a_t_forms, .inl (cyJ, 6, .inr (.inl f_t_forms)))] := hD.sub [1, 0] (by decide) rfl
        exact W.iret hx hb hr (fun t ht hW => ⟨⟨_, (), rfl, rfl, wQA_of ht hP9 hD9⟩, hS.F ht⟩) hS.2.2 dX9_code_49
      · have h := if_ c34 h
        refine lv_bipush (v := -9) hx hb dX9_code_37 (by decide) ?_
        refine lv_goto (tgt := 49) hx hb dX9_code_39 (by decide) ?_
        obtain ⟨e0, e1⟩ := tup2 h
        subst e0
        subst e1
        have hP9 : va_P D vwCl [(a_t, .inr (8, [.ref a_t_forms, .ref a_t_roll, .int c_t_many, .long c_t_taps, .int c_t_cells, .int c_t_acts, .int c_t_refused, .int c_t_knocks, .int c_t_thrown_13])), (a_t_forms, .inl (cyJ, 6, .inr (.inl f_t_forms)))] H := hP.sub [1, 0] rfl
        have hD9 : va_D A [(a_t, .inr (8, [.ref a_t_forms, .ref a_t_roll, .int c_t_many, .long c_t_taps, .int c_t_cells, .int c_t_acts, .int c_t_refused, .int c_t_knocks, .int c_t_thrown_13])), (a_t_forms, .inl (cyJ, 6, .inr (.inl f_t_forms)))] := hD.sub [1, 0] (by decide) rfl
        exact W.iret hx hb hr (fun t ht hW => ⟨⟨_, (), rfl, rfl, wQA_of ht hP9 hD9⟩, hS.F ht⟩) hS.2.2 dX9_code_49
    · have h := if_ c16 h
      refine lv_iconst (v := 0) hx hb dX9_code_19 (by decide) ?_
      refine lv_goto (tgt := 49) hx hb dX9_code_20 (by decide) ?_
      obtain ⟨e0, e1⟩ := tup2 h
      subst e0
      subst e1
      have hP9 : va_P D vwCl [(a_t, .inr (8, [.ref a_t_forms, .ref a_t_roll, .int c_t_many, .long c_t_taps, .int c_t_cells, .int c_t_acts, .int c_t_refused, .int c_t_knocks, .int c_t_thrown_13])), (a_t_forms, .inl (cyJ, 6, .inr (.inl f_t_forms)))] H := hP.sub [1, 0] rfl
      have hD9 : va_D A [(a_t, .inr (8, [.ref a_t_forms, .ref a_t_roll, .int c_t_many, .long c_t_taps, .int c_t_cells, .int c_t_acts, .int c_t_refused, .int c_t_knocks, .int c_t_thrown_13])), (a_t_forms, .inl (cyJ, 6, .inr (.inl f_t_forms)))] := hD.sub [1, 0] (by decide) rfl
      exact W.iret hx hb hr (fun t ht hW => ⟨⟨_, (), rfl, rfl, wQA_of ht hP9 hD9⟩, hS.F ht⟩) hS.2.2 dX9_code_49
  · have h := it_ c5 h
    refine lv_iconst (v := 1) hx hb dX9_code_8 (by decide) ?_
    refine lv_goto (tgt := 13) hx hb dX9_code_9 (by decide) ?_
    obtain ⟨r13, c_t_thrown_13, hc13, h⟩ := obn2_h h
    have hPc := hP.sub (ws' := [(a_t, .inr (8, [.ref a_t_forms, .ref a_t_roll, .int c_t_many, .long c_t_taps, .int c_t_cells, .int c_t_acts, .int c_t_refused, .int c_t_knocks, .int c_t_thrown]))]) [0] rfl
    have hDc := hD.sub (ws' := [(a_t, .inr (8, [.ref a_t_forms, .ref a_t_roll, .int c_t_many, .long c_t_taps, .int c_t_cells, .int c_t_acts, .int c_t_refused, .int c_t_knocks, .int c_t_thrown]))]) [0] (by decide) rfl
    refine hp_i (w1 := [(a_t, .inr (8, [.ref a_t_forms, .ref a_t_roll, .int c_t_many, .long c_t_taps, .int c_t_cells, .int c_t_acts, .int c_t_refused, .int c_t_knocks, .int c_t_thrown_13]))]) (wr := [(a_t_forms, .inl (cyJ, 6, .inr (.inl f_t_forms)))]) (va_runV (As := [.int (1 : Int32)]) (rest := []) hcf (c_X9_isThrown_ l D cyJ s.heap.size a_t a_t_forms a_t_roll c_t_many c_t_taps c_t_cells c_t_acts c_t_refused c_t_knocks c_t_thrown (1 : Int32) r13 c_t_thrown_13 hc13) (cwV 1 hts gX9_code_X9_isThrown_ rfl rfl rfl ydX9_isThrown_ ⟨Nat.le_of_ble_eq_true rfl, Nat.le_of_ble_eq_true rfl⟩) ⟨bl_PD, va_recv hK hP (ci := 8) (q0 := 0) rfl rfl, pr_PD hPc hK0 hDc hnw⟩ rfl rfl hl.1 rfl (lv_room (Nat.le_of_ble_eq_true rfl)) dX9_code_13 ⟨Nat.le_of_ble_eq_true rfl, Nat.le_of_ble_eq_true rfl⟩) hP hD hS hA [0] [1] rfl rfl (by decide) (by decide) (fun H locs hP hD hS => ?_)
    have hP : va_P D vwCl [(a_t_forms, .inl (cyJ, 6, .inr (.inl f_t_forms))), (a_t, .inr (8, [.ref a_t_forms, .ref a_t_roll, .int c_t_many, .long c_t_taps, .int c_t_cells, .int c_t_acts, .int c_t_refused, .int c_t_knocks, .int c_t_thrown_13]))] H := hP
    have hD : va_D A [(a_t_forms, .inl (cyJ, 6, .inr (.inl f_t_forms))), (a_t, .inr (8, [.ref a_t_forms, .ref a_t_roll, .int c_t_many, .long c_t_taps, .int c_t_cells, .int c_t_acts, .int c_t_refused, .int c_t_knocks, .int c_t_thrown_13]))] := hD
    refine lv_if_eq (tgt := 23) hx hb dX9_code_16 (by decide) (fun c16 => ?_) (fun c16 => ?_)
    · have h := it_ c16 h
      refine lv_aload_n hx hb dX9_code_23 rfl (lv_at hl 0 rfl) ?_
      refine va_get (D := D) (ci := 8) (v := .ref a_t_forms) (C := RX9) (T := TX9) (N := 9) hx hb hts hinX9 hown hK hP 1 rfl rfl 0 (by decide) hfl9 (fun _ h9 => h9) rfl dX9_code_24 ?_
      refine lv_iload_n hx hb dX9_code_27 rfl (lv_at hl 1 rfl) ?_
      obtain ⟨hq28, h⟩ := chk_h h
      refine va_lald hx hb hK hP 0 0 rfl rfl hq28 dX9_code_28 ?_
      obtain ⟨r29, hc29, h⟩ := obn_h h
      refine pz_callS (As := [.long (f_t_forms p0.toNatClampNeg)]) (rest := []) hcf (c_X9_degreeOf l (f_t_forms p0.toNatClampNeg) r29 hc29) (va_cwS 1 hts gX9_code_X9_degreeOf rfl rfl rfl ydX9_degreeOf ⟨Nat.le_of_ble_eq_true rfl, Nat.le_of_ble_eq_true rfl⟩) hnw rfl hl.1 rfl (Nat.le_of_ble_eq_true rfl) dX9_code_29 ⟨Nat.le_of_ble_eq_true rfl, Nat.le_of_ble_eq_true rfl⟩ ?_
      refine lv_bipush (v := 30) hx hb dX9_code_32 (by decide) ?_
      refine lv_icmp_le (tgt := 42) hx hb dX9_code_34 (by decide) (fun c34 => ?_) (fun c34 => ?_)
      · have h := it_ c34 h
        refine lv_aload_n hx hb dX9_code_42 rfl (lv_at hl 0 rfl) ?_
        refine va_get (D := D) (ci := 8) (v := .ref a_t_forms) (C := RX9) (T := TX9) (N := 9) hx hb hts hinX9 hown hK hP 1 rfl rfl 0 (by decide) hfl9 (fun _ h9 => h9) rfl dX9_code_43 ?_
        refine lv_iload_n hx hb dX9_code_46 rfl (lv_at hl 1 rfl) ?_
        obtain ⟨hq47, h⟩ := chk_h h
        refine va_lald hx hb hK hP 0 0 rfl rfl hq47 dX9_code_47 ?_
        refine lv_l2i (v := (f_t_forms p0.toNatClampNeg).toInt32) hx hb dX9_code_48 rfl ?_
        obtain ⟨e0, e1⟩ := tup2 h
        subst e0
        subst e1
        have hP9 : va_P D vwCl [(a_t, .inr (8, [.ref a_t_forms, .ref a_t_roll, .int c_t_many, .long c_t_taps, .int c_t_cells, .int c_t_acts, .int c_t_refused, .int c_t_knocks, .int c_t_thrown_13])), (a_t_forms, .inl (cyJ, 6, .inr (.inl f_t_forms)))] H := hP.sub [1, 0] rfl
        have hD9 : va_D A [(a_t, .inr (8, [.ref a_t_forms, .ref a_t_roll, .int c_t_many, .long c_t_taps, .int c_t_cells, .int c_t_acts, .int c_t_refused, .int c_t_knocks, .int c_t_thrown_13])), (a_t_forms, .inl (cyJ, 6, .inr (.inl f_t_forms)))] := hD.sub [1, 0] (by decide) rfl
        exact W.iret hx hb hr (fun t ht hW => ⟨⟨_, (), rfl, rfl, wQA_of ht hP9 hD9⟩, hS.F ht⟩) hS.2.2 dX9_code_49
      · have h := if_ c34 h
        refine lv_bipush (v := -9) hx hb dX9_code_37 (by decide) ?_
        refine lv_goto (tgt := 49) hx hb dX9_code_39 (by decide) ?_
        obtain ⟨e0, e1⟩ := tup2 h
        subst e0
        subst e1
        have hP9 : va_P D vwCl [(a_t, .inr (8, [.ref a_t_forms, .ref a_t_roll, .int c_t_many, .long c_t_taps, .int c_t_cells, .int c_t_acts, .int c_t_refused, .int c_t_knocks, .int c_t_thrown_13])), (a_t_forms, .inl (cyJ, 6, .inr (.inl f_t_forms)))] H := hP.sub [1, 0] rfl
        have hD9 : va_D A [(a_t, .inr (8, [.ref a_t_forms, .ref a_t_roll, .int c_t_many, .long c_t_taps, .int c_t_cells, .int c_t_acts, .int c_t_refused, .int c_t_knocks, .int c_t_thrown_13])), (a_t_forms, .inl (cyJ, 6, .inr (.inl f_t_forms)))] := hD.sub [1, 0] (by decide) rfl
        exact W.iret hx hb hr (fun t ht hW => ⟨⟨_, (), rfl, rfl, wQA_of ht hP9 hD9⟩, hS.F ht⟩) hS.2.2 dX9_code_49
    · have h := if_ c16 h
      refine lv_iconst (v := 0) hx hb dX9_code_19 (by decide) ?_
      refine lv_goto (tgt := 49) hx hb dX9_code_20 (by decide) ?_
      obtain ⟨e0, e1⟩ := tup2 h
      subst e0
      subst e1
      have hP9 : va_P D vwCl [(a_t, .inr (8, [.ref a_t_forms, .ref a_t_roll, .int c_t_many, .long c_t_taps, .int c_t_cells, .int c_t_acts, .int c_t_refused, .int c_t_knocks, .int c_t_thrown_13])), (a_t_forms, .inl (cyJ, 6, .inr (.inl f_t_forms)))] H := hP.sub [1, 0] rfl
      have hD9 : va_D A [(a_t, .inr (8, [.ref a_t_forms, .ref a_t_roll, .int c_t_many, .long c_t_taps, .int c_t_cells, .int c_t_acts, .int c_t_refused, .int c_t_knocks, .int c_t_thrown_13])), (a_t_forms, .inl (cyJ, 6, .inr (.inl f_t_forms)))] := hD.sub [1, 0] (by decide) rfl
      exact W.iret hx hb hr (fun t ht hW => ⟨⟨_, (), rfl, rfl, wQA_of ht hP9 hD9⟩, hS.F ht⟩) hS.2.2 dX9_code_49
