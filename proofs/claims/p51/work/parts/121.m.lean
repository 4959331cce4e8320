noncomputable abbrev rmX9_has : Room := { frames := 2, cells := 0, slots := 0, locals := 43 }
theorem ydX9_has : yX9_has.cls = RX9 ∧ yX9_has.cls ≠ "java/lang/invoke/MethodHandle" ∧ yX9_has.cls ≠ "java/lang/invoke/VarHandle" ∧ (parseMethodDescriptor yX9_has.desc).map (fun d => d.parameters.length) = some 2 := by decide +kernel
noncomputable def F_X9_has (f_t_forms : Nat → Int64) (p0 : Int32) (p1 : Int32) : Option (Int32 × Int32) :=
 obn (F_X9_isForm p0) (fun r2 =>
 (if r2 = 0 then
 obn2 (F_X9_isThrown_ (1 : Int32)) (fun r20 c_t_thrown_20 =>
 (if r20 = 0 then
 chk (¬ (p0 < 0 ∨ 6 ≤ p0.toNatClampNeg)) (
 (if (((f_t_forms p0.toNatClampNeg) >>> (p1.toInt64 &&& 63)) &&& (1 : Int64)) = (1 : Int64) then
 some ((1 : Int32), c_t_thrown_20)
else
 some ((0 : Int32), c_t_thrown_20)))
else
 some ((0 : Int32), c_t_thrown_20)))
else
 obn (F_X9_isPlace p1) (fun r9 =>
 (if r9 = 0 then
 obn2 (F_X9_isThrown_ (1 : Int32)) (fun r20 c_t_thrown_20 =>
 (if r20 = 0 then
 chk (¬ (p0 < 0 ∨ 6 ≤ p0.toNatClampNeg)) (
 (if (((f_t_forms p0.toNatClampNeg) >>> (p1.toInt64 &&& 63)) &&& (1 : Int64)) = (1 : Int64) then
 some ((1 : Int32), c_t_thrown_20)
else
 some ((0 : Int32), c_t_thrown_20)))
else
 some ((0 : Int32), c_t_thrown_20)))
else
 obn2 (F_X9_isThrown_ (0 : Int32)) (fun r20 c_t_thrown_20 =>
 (if r20 = 0 then
 chk (¬ (p0 < 0 ∨ 6 ≤ p0.toNatClampNeg)) (
 (if (((f_t_forms p0.toNatClampNeg) >>> (p1.toInt64 &&& 63)) &&& (1 : Int64)) = (1 : Int64) then
 some ((1 : Int32), c_t_thrown_20)
else
 some ((0 : Int32), c_t_thrown_20)))
else
 some ((0 : Int32), c_t_thrown_20)))))))
set_option maxHeartbeats 4000000 in
set_option maxRecDepth 100000 in
theorem c_X9_has (l : Launch) (D : va_G) (cyJ : ClassId) (sz : Nat) (a_t : Nat) (a_t_forms : Nat) (a_t_roll : Nat) (c_t_many : Int32) (c_t_taps : Int64) (c_t_cells : Int32) (c_t_acts : Int32) (c_t_refused : Int32) (c_t_knocks : Int32) (c_t_thrown : Int32) (f_t_forms : Nat → Int64) (p0 : Int32) (p1 : Int32) (r0 : Int32) (o_c_t_thrown : Int32) (hF : F_X9_has f_t_forms p0 p1 = some (r0, o_c_t_thrown)) : Met l yX9_has wsX9_has rmX9_has (va_Pc [.ref a_t, .int p0, .int p1] (wPD D [(cyJ, .long)] [(a_t, .inr (8, [.ref a_t_forms, .ref a_t_roll, .int c_t_many, .long c_t_taps, .int c_t_cells, .int c_t_acts, .int c_t_refused, .int c_t_knocks, .int c_t_thrown])), (a_t_forms, .inl (cyJ, 6, .inr (.inl f_t_forms)))] sz)) (va_Qi (fun (r : Int32) (_ : Unit) => r = r0) (fun _ t => wQA D [(a_t, .inr (8, [.ref a_t_forms, .ref a_t_roll, .int c_t_many, .long c_t_taps, .int c_t_cells, .int c_t_acts, .int c_t_refused, .int c_t_knocks, .int o_c_t_thrown])), (a_t_forms, .inl (cyJ, 6, .inr (.inl f_t_forms)))] (va_A [(a_t, .inr (8, [.ref a_t_forms, .ref a_t_roll, .int c_t_many, .long c_t_taps, .int c_t_cells, .int c_t_acts, .int c_t_refused, .int c_t_knocks, .int c_t_thrown])), (a_t_forms, .inl (cyJ, 6, .inr (.inl f_t_forms)))] sz) t) (va_A [(a_t, .inr (8, [.ref a_t_forms, .ref a_t_roll, .int c_t_many, .long c_t_taps, .int c_t_cells, .int c_t_acts, .int c_t_refused, .int c_t_knocks, .int c_t_thrown])), (a_t_forms, .inl (cyJ, 6, .inr (.inl f_t_forms)))] sz)) 0 0 (va_A [(a_t, .inr (8, [.ref a_t_forms, .ref a_t_roll, .int c_t_many, .long c_t_taps, .int c_t_cells, .int c_t_acts, .int c_t_refused, .int c_t_knocks, .int c_t_thrown])), (a_t_forms, .inl (cyJ, 6, .inr (.inl f_t_forms)))] sz) := by
  refine Met.ofW (cc := cX9_has) (maxL := 3) (ret := (some .boolean)) (by decide) rfl ?_
  intro p e s m args below meth c s₁ B hml hv
  obtain ⟨rfl, hsz, hP, hK, hD0, hnw⟩ := hv
  have hx := B.exec
  have hb := B.bytes
  have hr := B.returns
  have hts := atoms_spec (ws := wsX9_has) B.pre
  have hown : s.vm.findClass RX9 = some m.cls := findClass_of_methodNamed B.named
  have hlocks := B.notSynchronized
  have hcf : CallFix _ _ _ _ _ _ _ _ _ := ⟨hx, hb, hml, hown, hts⟩
  have hinX9 : ∀ w ∈ u_ws RX9 TX9 9, w ∈ wsX9_has := by decide +kernel
  have hfl9 := hts (.fieldLink RX9 9 "FormwheelModel" "forms" "[J") (by decide +kernel)
  subst hsz
  have hD := hD0.self (sz := s.heap.size)
  generalize hAe : va_A [(a_t, .inr (8, [.ref a_t_forms, .ref a_t_roll, .int c_t_many, .long c_t_taps, .int c_t_cells, .int c_t_acts, .int c_t_refused, .int c_t_knocks, .int c_t_thrown])), (a_t_forms, .inl (cyJ, 6, .inr (.inl f_t_forms)))] s.heap.size = A at hD ⊢
  have hA : ∀ q : Nat, s.heap.size ≤ q → A q := fun q h => by rw [← hAe]; exact Or.inr h
  have hS : va_S A s.heap s.heap [] := va_S.rf
  have hP : va_P D vwCl [(a_t, .inr (8, [.ref a_t_forms, .ref a_t_roll, .int c_t_many, .long c_t_taps, .int c_t_cells, .int c_t_acts, .int c_t_refused, .int c_t_knocks, .int c_t_thrown])), (a_t_forms, .inl (cyJ, 6, .inr (.inl f_t_forms)))] s.heap := hP
  have hK0 := hK
  have hl := lv_entry ([.ref a_t, .int p0, .int p1]) (n := 3) (Nat.le_of_ble_eq_true rfl)
  rw [lg_entry_eq]
  generalize (lg_sl ([.ref a_t, .int p0, .int p1]) ++ List.replicate (3 - (lg_sl ([.ref a_t, .int p0, .int p1])).length) Slot.unset).toArray = ls at hl ⊢
  have hl : lv_has ls 3 [(0, .ref a_t), (1, .int p0), (2, .int p1)] := hl
  have h := hF
  clear hF
  unfold F_X9_has at h
  refine lv_aload_n hx hb dX9_has_0 rfl (lv_at hl 0 rfl) ?_
  refine lv_iload_n hx hb dX9_has_1 rfl (lv_at hl 1 rfl) ?_
  obtain ⟨r2, hc2, h⟩ := obn_h h
  refine pz_callS (As := [.int p0]) (rest := [.ref a_t]) hcf (c_X9_isForm l p0 r2 hc2) (va_cwS 1 hts gX9_has_X9_isForm rfl rfl rfl ydX9_isForm ⟨Nat.le_of_ble_eq_true rfl, Nat.le_of_ble_eq_true rfl⟩) hnw rfl hl.1 rfl (Nat.le_of_ble_eq_true rfl) dX9_has_2 ⟨Nat.le_of_ble_eq_true rfl, Nat.le_of_ble_eq_true rfl⟩ ?_
  refine lv_if_eq (tgt := 15) hx hb dX9_has_5 (by decide) (fun c5 => ?_) (fun c5 => ?_)
  · have h := it_ c5 h
    refine lv_iconst (v := 1) hx hb dX9_has_15 (by decide) ?_
    refine lv_goto (tgt := 20) hx hb dX9_has_16 (by decide) ?_
    obtain ⟨r20, c_t_thrown_20, hc20, h⟩ := obn2_h h
    have hPc := hP.sub (ws' := [(a_t, .inr (8, [.ref a_t_forms, .ref a_t_roll, .int c_t_many, .long c_t_taps, .int c_t_cells, .int c_t_acts, .int c_t_refused, .int c_t_knocks, .int c_t_thrown]))]) [0] rfl
    have hDc := hD.sub (ws' := [(a_t, .inr (8, [.ref a_t_forms, .ref a_t_roll, .int c_t_many, .long c_t_taps, .int c_t_cells, .int c_t_acts, .int c_t_refused, .int c_t_knocks, .int c_t_thrown]))]) [0] (by decide) rfl
    refine hp_i (w1 := [(a_t, .inr (8, [.ref a_t_forms, .ref a_t_roll, .int c_t_many, .long c_t_taps, .int c_t_cells, .int c_t_acts, .int c_t_refused, .int c_t_knocks, .int c_t_thrown_20]))]) (wr := [(a_t_forms, .inl (cyJ, 6, .inr (.inl f_t_forms)))]) (va_runV (As := [.int (1 : Int32)]) (rest := []) hcf (c_X9_isThrown_ l D cyJ s.heap.size a_t a_t_forms a_t_roll c_t_many c_t_taps c_t_cells c_t_acts c_t_refused c_t_knocks c_t_thrown (1 : Int32) r20 c_t_thrown_20 hc20) (cwV 1 hts gX9_has_X9_isThrown_ rfl rfl rfl ydX9_isThrown_ ⟨Nat.le_of_ble_eq_true rfl, Nat.le_of_ble_eq_true rfl⟩) ⟨bl_PD, va_recv hK hP (ci := 8) (q0 := 0) rfl rfl, pr_PD hPc hK0 hDc hnw⟩ rfl rfl hl.1 rfl (lv_room (Nat.le_of_ble_eq_true rfl)) dX9_has_20 ⟨Nat.le_of_ble_eq_true rfl, Nat.le_of_ble_eq_true rfl⟩) hP hD hS hA [0] [1] rfl rfl (by decide) (by decide) (fun H locs hP hD hS => ?_)
    have hP : va_P D vwCl [(a_t_forms, .inl (cyJ, 6, .inr (.inl f_t_forms))), (a_t, .inr (8, [.ref a_t_forms, .ref a_t_roll, .int c_t_many, .long c_t_taps, .int c_t_cells, .int c_t_acts, .int c_t_refused, .int c_t_knocks, .int c_t_thrown_20]))] H := hP
    have hD : va_D A [(a_t_forms, .inl (cyJ, 6, .inr (.inl f_t_forms))), (a_t, .inr (8, [.ref a_t_forms, .ref a_t_roll, .int c_t_many, .long c_t_taps, .int c_t_cells, .int c_t_acts, .int c_t_refused, .int c_t_knocks, .int c_t_thrown_20]))] := hD
    refine lv_if_ne (tgt := 45) hx hb dX9_has_23 (by decide) (fun c23 => ?_) (fun c23 => ?_)
    · have h := if_ c23 h
      refine lv_iconst (v := 0) hx hb dX9_has_45 (by decide) ?_
      obtain ⟨e0, e1⟩ := tup2 h
      subst e0
      subst e1
      have hP9 : va_P D vwCl [(a_t, .inr (8, [.ref a_t_forms, .ref a_t_roll, .int c_t_many, .long c_t_taps, .int c_t_cells, .int c_t_acts, .int c_t_refused, .int c_t_knocks, .int c_t_thrown_20])), (a_t_forms, .inl (cyJ, 6, .inr (.inl f_t_forms)))] H := hP.sub [1, 0] rfl
      have hD9 : va_D A [(a_t, .inr (8, [.ref a_t_forms, .ref a_t_roll, .int c_t_many, .long c_t_taps, .int c_t_cells, .int c_t_acts, .int c_t_refused, .int c_t_knocks, .int c_t_thrown_20])), (a_t_forms, .inl (cyJ, 6, .inr (.inl f_t_forms)))] := hD.sub [1, 0] (by decide) rfl
      exact W.zret hx hb hr narrow_b0 (fun t ht hW => ⟨⟨_, (), rfl, rfl, wQA_of ht hP9 hD9⟩, hS.F ht⟩) hS.2.2 dX9_has_46
    · have h := it_ c23 h
      refine lv_aload_n hx hb dX9_has_26 rfl (lv_at hl 0 rfl) ?_
      refine va_get (D := D) (ci := 8) (v := .ref a_t_forms) (C := RX9) (T := TX9) (N := 9) hx hb hts hinX9 hown hK hP 1 rfl rfl 0 (by decide) hfl9 (fun _ h9 => h9) rfl dX9_has_27 ?_
      refine lv_iload_n hx hb dX9_has_30 rfl (lv_at hl 1 rfl) ?_
      obtain ⟨hq31, h⟩ := chk_h h
      refine va_lald hx hb hK hP 0 0 rfl rfl hq31 dX9_has_31 ?_
      refine lv_iload_n hx hb dX9_has_32 rfl (lv_at hl 2 rfl) ?_
      refine lv_lshr (v := (f_t_forms p0.toNatClampNeg) >>> (p1.toInt64 &&& 63)) hx hb dX9_has_33 rfl ?_
      refine lv_lconst (v := 1) hx hb dX9_has_34 (by decide) ?_
      refine lv_land hx hb dX9_has_35 ?_
      refine lv_lconst (v := 1) hx hb dX9_has_36 (by decide) ?_
      refine W.lcmp hx hb dX9_has_37 ?_
      refine lv_if_ne (tgt := 45) hx hb dX9_has_38 (by decide) (fun c38 => ?_) (fun c38 => ?_)
      · have c38 := fun z => c38 ((lg_cmp_eq _ _).mpr z)
        have h := if_ c38 h
        refine lv_iconst (v := 0) hx hb dX9_has_45 (by decide) ?_
        obtain ⟨e0, e1⟩ := tup2 h
        subst e0
        subst e1
        have hP9 : va_P D vwCl [(a_t, .inr (8, [.ref a_t_forms, .ref a_t_roll, .int c_t_many, .long c_t_taps, .int c_t_cells, .int c_t_acts, .int c_t_refused, .int c_t_knocks, .int c_t_thrown_20])), (a_t_forms, .inl (cyJ, 6, .inr (.inl f_t_forms)))] H := hP.sub [1, 0] rfl
        have hD9 : va_D A [(a_t, .inr (8, [.ref a_t_forms, .ref a_t_roll, .int c_t_many, .long c_t_taps, .int c_t_cells, .int c_t_acts, .int c_t_refused, .int c_t_knocks, .int c_t_thrown_20])), (a_t_forms, .inl (cyJ, 6, .inr (.inl f_t_forms)))] := hD.sub [1, 0] (by decide) rfl
        exact W.zret hx hb hr narrow_b0 (fun t ht hW => ⟨⟨_, (), rfl, rfl, wQA_of ht hP9 hD9⟩, hS.F ht⟩) hS.2.2 dX9_has_46
      · have c38 := (lg_cmp_eq _ _).mp c38
        have h := it_ c38 h
        refine lv_iconst (v := 1) hx hb dX9_has_41 (by decide) ?_
        refine lv_goto (tgt := 46) hx hb dX9_has_42 (by decide) ?_
        obtain ⟨e0, e1⟩ := tup2 h
        subst e0
        subst e1
        have hP9 : va_P D vwCl [(a_t, .inr (8, [.ref a_t_forms, .ref a_t_roll, .int c_t_many, .long c_t_taps, .int c_t_cells, .int c_t_acts, .int c_t_refused, .int c_t_knocks, .int c_t_thrown_20])), (a_t_forms, .inl (cyJ, 6, .inr (.inl f_t_forms)))] H := hP.sub [1, 0] rfl
        have hD9 : va_D A [(a_t, .inr (8, [.ref a_t_forms, .ref a_t_roll, .int c_t_many, .long c_t_taps, .int c_t_cells, .int c_t_acts, .int c_t_refused, .int c_t_knocks, .int c_t_thrown_20])), (a_t_forms, .inl (cyJ, 6, .inr (.inl f_t_forms)))] := hD.sub [1, 0] (by decide) rfl
        exact W.zret hx hb hr narrow_b1 (fun t ht hW => ⟨⟨_, (), rfl, rfl, wQA_of ht hP9 hD9⟩, hS.F ht⟩) hS.2.2 dX9_has_46
  · have h := if_ c5 h
    refine lv_iload_n hx hb dX9_has_8 rfl (lv_at hl 2 rfl) ?_
    obtain ⟨r9, hc9, h⟩ := obn_h h
    refine pz_callS (As := [.int p1]) (rest := [.ref a_t]) hcf (c_X9_isPlace l p1 r9 hc9) (va_cwS 1 hts gX9_has_X9_isPlace rfl rfl rfl ydX9_isPlace ⟨Nat.le_of_ble_eq_true rfl, Nat.le_of_ble_eq_true rfl⟩) hnw rfl hl.1 rfl (Nat.le_of_ble_eq_true rfl) dX9_has_9 ⟨Nat.le_of_ble_eq_true rfl, Nat.le_of_ble_eq_true rfl⟩ ?_
    refine lv_if_ne (tgt := 19) hx hb dX9_has_12 (by decide) (fun c12 => ?_) (fun c12 => ?_)
    · have h := if_ c12 h
      refine lv_iconst (v := 0) hx hb dX9_has_19 (by decide) ?_
      obtain ⟨r20, c_t_thrown_20, hc20, h⟩ := obn2_h h
      have hPc := hP.sub (ws' := [(a_t, .inr (8, [.ref a_t_forms, .ref a_t_roll, .int c_t_many, .long c_t_taps, .int c_t_cells, .int c_t_acts, .int c_t_refused, .int c_t_knocks, .int c_t_thrown]))]) [0] rfl
      have hDc := hD.sub (ws' := [(a_t, .inr (8, [.ref a_t_forms, .ref a_t_roll, .int c_t_many, .long c_t_taps, .int c_t_cells, .int c_t_acts, .int c_t_refused, .int c_t_knocks, .int c_t_thrown]))]) [0] (by decide) rfl
      refine hp_i (w1 := [(a_t, .inr (8, [.ref a_t_forms, .ref a_t_roll, .int c_t_many, .long c_t_taps, .int c_t_cells, .int c_t_acts, .int c_t_refused, .int c_t_knocks, .int c_t_thrown_20]))]) (wr := [(a_t_forms, .inl (cyJ, 6, .inr (.inl f_t_forms)))]) (va_runV (As := [.int (0 : Int32)]) (rest := []) hcf (c_X9_isThrown_ l D cyJ s.heap.size a_t a_t_forms a_t_roll c_t_many c_t_taps c_t_cells c_t_acts c_t_refused c_t_knocks c_t_thrown (0 : Int32) r20 c_t_thrown_20 hc20) (cwV 1 hts gX9_has_X9_isThrown_ rfl rfl rfl ydX9_isThrown_ ⟨Nat.le_of_ble_eq_true rfl, Nat.le_of_ble_eq_true rfl⟩) ⟨bl_PD, va_recv hK hP (ci := 8) (q0 := 0) rfl rfl, pr_PD hPc hK0 hDc hnw⟩ rfl rfl hl.1 rfl (lv_room (Nat.le_of_ble_eq_true rfl)) dX9_has_20 ⟨Nat.le_of_ble_eq_true rfl, Nat.le_of_ble_eq_true rfl⟩) hP hD hS hA [0] [1] rfl rfl (by decide) (by decide) (fun H locs hP hD hS => ?_)
      have hP : va_P D vwCl [(a_t_forms, .inl (cyJ, 6, .inr (.inl f_t_forms))), (a_t, .inr (8, [.ref a_t_forms, .ref a_t_roll, .int c_t_many, .long c_t_taps, .int c_t_cells, .int c_t_acts, .int c_t_refused, .int c_t_knocks, .int c_t_thrown_20]))] H := hP
      have hD : va_D A [(a_t_forms, .inl (cyJ, 6, .inr (.inl f_t_forms))), (a_t, .inr (8, [.ref a_t_forms, .ref a_t_roll, .int c_t_many, .long c_t_taps, .int c_t_cells, .int c_t_acts, .int c_t_refused, .int c_t_knocks, .int c_t_thrown_20]))] := hD
      refine lv_if_ne (tgt := 45) hx hb dX9_has_23 (by decide) (fun c23 => ?_) (fun c23 => ?_)
      · have h := if_ c23 h
        refine lv_iconst (v := 0) hx hb dX9_has_45 (by decide) ?_
        obtain ⟨e0, e1⟩ := tup2 h
        subst e0
        subst e1
        have hP9 : va_P D vwCl [(a_t, .inr (8, [.ref a_t_forms, .ref a_t_roll, .int c_t_many, .long c_t_taps, .int c_t_cells, .int c_t_acts, .int c_t_refused, .int c_t_knocks, .int c_t_thrown_20])), (a_t_forms, .inl (cyJ, 6, .inr (.inl f_t_forms)))] H := hP.sub [1, 0] rfl
        have hD9 : va_D A [(a_t, .inr (8, [.ref a_t_forms, .ref a_t_roll, .int c_t_many, .long c_t_taps, .int c_t_cells, .int c_t_acts, .int c_t_refused, .int c_t_knocks, .int c_t_thrown_20])), (a_t_forms, .inl (cyJ, 6, .inr (.inl f_t_forms)))] := hD.sub [1, 0] (by decide) rfl
        exact W.zret hx hb hr narrow_b0 (fun t ht hW => ⟨⟨_, (), rfl, rfl, wQA_of ht hP9 hD9⟩, hS.F ht⟩) hS.2.2 dX9_has_46
      · have h := it_ c23 h
        refine lv_aload_n hx hb dX9_has_26 rfl (lv_at hl 0 rfl) ?_
        refine va_get (D := D) (ci := 8) (v := .ref a_t_forms) (C := RX9) (T := TX9) (N := 9) hx hb hts hinX9 hown hK hP 1 rfl rfl 0 (by decide) hfl9 (fun _ h9 => h9) rfl dX9_has_27 ?_
        refine lv_iload_n hx hb dX9_has_30 rfl (lv_at hl 1 rfl) ?_
        obtain ⟨hq31, h⟩ := chk_h h
        refine va_lald hx hb hK hP 0 0 rfl rfl hq31 dX9_has_31 ?_
        refine lv_iload_n hx hb dX9_has_32 rfl (lv_at hl 2 rfl) ?_
        refine lv_lshr (v := (f_t_forms p0.toNatClampNeg) >>> (p1.toInt64 &&& 63)) hx hb dX9_has_33 rfl ?_
        refine lv_lconst (v := 1) hx hb dX9_has_34 (by decide) ?_
        refine lv_land hx hb dX9_has_35 ?_
        refine lv_lconst (v := 1) hx hb dX9_has_36 (by decide) ?_
        refine W.lcmp hx hb dX9_has_37 ?_
        refine lv_if_ne (tgt := 45) hx hb dX9_has_38 (by decide) (fun c38 => ?_) (fun c38 => ?_)
        · have c38 := fun z => c38 ((lg_cmp_eq _ _).mpr z)
          have h := if_ c38 h
          refine lv_iconst (v := 0) hx hb dX9_has_45 (by decide) ?_
          obtain ⟨e0, e1⟩ := tup2 h
          subst e0
          subst e1
          have hP9 : va_P D vwCl [(a_t, .inr (8, [.ref a_t_forms, .ref a_t_roll, .int c_t_many, .long c_t_taps, .int c_t_cells, .int c_t_acts, .int c_t_refused, .int c_t_knocks, .int c_t_thrown_20])), (a_t_forms, .inl (cyJ, 6, .inr (.inl f_t_forms)))] H := hP.sub [1, 0] rfl
          have hD9 : va_D A [(a_t, .inr (8, [.ref a_t_forms, .ref a_t_roll, .int c_t_many, .long c_t_taps, .int c_t_cells, .int c_t_acts, .int c_t_refused, .int c_t_knocks, .int c_t_thrown_20])), (a_t_forms, .inl (cyJ, 6, .inr (.inl f_t_forms)))] := hD.sub [1, 0] (by decide) rfl
          exact W.zret hx hb hr narrow_b0 (fun t ht hW => ⟨⟨_, (), rfl, rfl, wQA_of ht hP9 hD9⟩, hS.F ht⟩) hS.2.2 dX9_has_46
        · have c38 := (lg_cmp_eq _ _).mp c38
          have h := it_ c38 h
          refine lv_iconst (v := 1) hx hb dX9_has_41 (by decide) ?_
          refine lv_goto (tgt := 46) hx hb dX9_has_42 (by decide) ?_
          obtain ⟨e0, e1⟩ := tup2 h
          subst e0
          subst e1
          have hP9 : va_P D vwCl [(a_t, .inr (8, [.ref a_t_forms, .ref a_t_roll, .int c_t_many, .long c_t_taps, .int c_t_cells, .int c_t_acts, .int c_t_refused, .int c_t_knocks, .int c_t_thrown_20])), (a_t_forms, .inl (cyJ, 6, .inr (.inl f_t_forms)))] H := hP.sub [1, 0] rfl
          have hD9 : va_D A [(a_t, .inr (8, [.ref a_t_forms, .ref a_t_roll, .int c_t_many, .long c_t_taps, .int c_t_cells, .int c_t_acts, .int c_t_refused, .int c_t_knocks, .int c_t_thrown_20])), (a_t_forms, .inl (cyJ, 6, .inr (.inl f_t_forms)))] := hD.sub [1, 0] (by decide) rfl
          exact W.zret hx hb hr narrow_b1 (fun t ht hW => ⟨⟨_, (), rfl, rfl, wQA_of ht hP9 hD9⟩, hS.F ht⟩) hS.2.2 dX9_has_46
    · have h := it_ c12 h
      refine lv_iconst (v := 1) hx hb dX9_has_15 (by decide) ?_
      refine lv_goto (tgt := 20) hx hb dX9_has_16 (by decide) ?_
      obtain ⟨r20, c_t_thrown_20, hc20, h⟩ := obn2_h h
      have hPc := hP.sub (ws' := [(a_t, .inr (8, [.ref a_t_forms, .ref a_t_roll, .int c_t_many, .long c_t_taps, .int c_t_cells, .int c_t_acts, .int c_t_refused, .int c_t_knocks, .int c_t_thrown]))]) [0] rfl
      have hDc := hD.sub (ws' := [(a_t, .inr (8, [.ref a_t_forms, .ref a_t_roll, .int c_t_many, .long c_t_taps, .int c_t_cells, .int c_t_acts, .int c_t_refused, .int c_t_knocks, .int c_t_thrown]))]) [0] (by decide) rfl
      refine hp_i (w1 := [(a_t, .inr (8, [.ref a_t_forms, .ref a_t_roll, .int c_t_many, .long c_t_taps, .int c_t_cells, .int c_t_acts, .int c_t_refused, .int c_t_knocks, .int c_t_thrown_20]))]) (wr := [(a_t_forms, .inl (cyJ, 6, .inr (.inl f_t_forms)))]) (va_runV (As := [.int (1 : Int32)]) (rest := []) hcf (c_X9_isThrown_ l D cyJ s.heap.size a_t a_t_forms a_t_roll c_t_many c_t_taps c_t_cells c_t_acts c_t_refused c_t_knocks c_t_thrown (1 : Int32) r20 c_t_thrown_20 hc20) (cwV 1 hts gX9_has_X9_isThrown_ rfl rfl rfl ydX9_isThrown_ ⟨Nat.le_of_ble_eq_true rfl, Nat.le_of_ble_eq_true rfl⟩) ⟨bl_PD, va_recv hK hP (ci := 8) (q0 := 0) rfl rfl, pr_PD hPc hK0 hDc hnw⟩ rfl rfl hl.1 rfl (lv_room (Nat.le_of_ble_eq_true rfl)) dX9_has_20 ⟨Nat.le_of_ble_eq_true rfl, Nat.le_of_ble_eq_true rfl⟩) hP hD hS hA [0] [1] rfl rfl (by decide) (by decide) (fun H locs hP hD hS => ?_)
      have hP : va_P D vwCl [(a_t_forms, .inl (cyJ, 6, .inr (.inl f_t_forms))), (a_t, .inr (8, [.ref a_t_forms, .ref a_t_roll, .int c_t_many, .long c_t_taps, .int c_t_cells, .int c_t_acts, .int c_t_refused, .int c_t_knocks, .int c_t_thrown_20]))] H := hP
      have hD : va_D A [(a_t_forms, .inl (cyJ, 6, .inr (.inl f_t_forms))), (a_t, .inr (8, [.ref a_t_forms, .ref a_t_roll, .int c_t_many, .long c_t_taps, .int c_t_cells, .int c_t_acts, .int c_t_refused, .int c_t_knocks, .int c_t_thrown_20]))] := hD
      refine lv_if_ne (tgt := 45) hx hb dX9_has_23 (by decide) (fun c23 => ?_) (fun c23 => ?_)
      · have h := if_ c23 h
        refine lv_iconst (v := 0) hx hb dX9_has_45 (by decide) ?_
        obtain ⟨e0, e1⟩ := tup2 h
        subst e0
        subst e1
        have hP9 : va_P D vwCl [(a_t, .inr (8, [.ref a_t_forms, .ref a_t_roll, .int c_t_many, .long c_t_taps, .int c_t_cells, .int c_t_acts, .int c_t_refused, .int c_t_knocks, .int c_t_thrown_20])), (a_t_forms, .inl (cyJ, 6, .inr (.inl f_t_forms)))] H := hP.sub [1, 0] rfl
        have hD9 : va_D A [(a_t, .inr (8, [.ref a_t_forms, .ref a_t_roll, .int c_t_many, .long c_t_taps, .int c_t_cells, .int c_t_acts, .int c_t_refused, .int c_t_knocks, .int c_t_thrown_20])), (a_t_forms, .inl (cyJ, 6, .inr (.inl f_t_forms)))] := hD.sub [1, 0] (by decide) rfl
        exact W.zret hx hb hr narrow_b0 (fun t ht hW => ⟨⟨_, (), rfl, rfl, wQA_of ht hP9 hD9⟩, hS.F ht⟩) hS.2.2 dX9_has_46
      · have h := it_ c23 h
        refine lv_aload_n hx hb dX9_has_26 rfl (lv_at hl 0 rfl) ?_
        refine va_get (D := D) (ci := 8) (v := .ref a_t_forms) (C := RX9) (T := TX9) (N := 9) hx hb hts hinX9 hown hK hP 1 rfl rfl 0 (by decide) hfl9 (fun _ h9 => h9) rfl dX9_has_27 ?_
        refine lv_iload_n hx hb dX9_has_30 rfl (lv_at hl 1 rfl) ?_
        obtain ⟨hq31, h⟩ := chk_h h
        refine va_lald hx hb hK hP 0 0 rfl rfl hq31 dX9_has_31 ?_
        refine lv_iload_n hx hb dX9_has_32 rfl (lv_at hl 2 rfl) ?_
        refine lv_lshr (v := (f_t_forms p0.toNatClampNeg) >>> (p1.toInt64 &&& 63)) hx hb dX9_has_33 rfl ?_
        refine lv_lconst (v := 1) hx hb dX9_has_34 (by decide) ?_
        refine lv_land hx hb dX9_has_35 ?_
        refine lv_lconst (v := 1) hx hb dX9_has_36 (by decide) ?_
        refine W.lcmp hx hb dX9_has_37 ?_
        refine lv_if_ne (tgt := 45) hx hb dX9_has_38 (by decide) (fun c38 => ?_) (fun c38 => ?_)
        · have c38 := fun z => c38 ((lg_cmp_eq _ _).mpr z)
          have h := if_ c38 h
          refine lv_iconst (v := 0) hx hb dX9_has_45 (by decide) ?_
          obtain ⟨e0, e1⟩ := tup2 h
          subst e0
          subst e1
          have hP9 : va_P D vwCl [(a_t, .inr (8, [.ref a_t_forms, .ref a_t_roll, .int c_t_many, .long c_t_taps, .int c_t_cells, .int c_t_acts, .int c_t_refused, .int c_t_knocks, .int c_t_thrown_20])), (a_t_forms, .inl (cyJ, 6, .inr (.inl f_t_forms)))] H := hP.sub [1, 0] rfl
          have hD9 : va_D A [(a_t, .inr (8, [.ref a_t_forms, .ref a_t_roll, .int c_t_many, .long c_t_taps, .int c_t_cells, .int c_t_acts, .int c_t_refused, .int c_t_knocks, .int c_t_thrown_20])), (a_t_forms, .inl (cyJ, 6, .inr (.inl f_t_forms)))] := hD.sub [1, 0] (by decide) rfl
          exact W.zret hx hb hr narrow_b0 (fun t ht hW => ⟨⟨_, (), rfl, rfl, wQA_of ht hP9 hD9⟩, hS.F ht⟩) hS.2.2 dX9_has_46
        · have c38 := (lg_cmp_eq _ _).mp c38
          have h := it_ c38 h
          refine lv_iconst (v := 1) hx hb dX9_has_41 (by decide) ?_
          refine lv_goto (tgt := 46) hx hb dX9_has_42 (by decide) ?_
          obtain ⟨e0, e1⟩ := tup2 h
          subst e0
          subst e1
          have hP9 : va_P D vwCl [(a_t, .inr (8, [.ref a_t_forms, .ref a_t_roll, .int c_t_many, .long c_t_taps, .int c_t_cells, .int c_t_acts, .int c_t_refused, .int c_t_knocks, .int c_t_thrown_20])), (a_t_forms, .inl (cyJ, 6, .inr (.inl f_t_forms)))] H := hP.sub [1, 0] rfl
          have hD9 : va_D A [(a_t, .inr (8, [.ref a_t_forms, .ref a_t_roll, .int c_t_many, .long c_t_taps, .int c_t_cells, .int c_t_acts, .int c_t_refused, .int c_t_knocks, .int c_t_thrown_20])), (a_t_forms, .inl (cyJ, 6, .inr (.inl f_t_forms)))] := hD.sub [1, 0] (by decide) rfl
          exact W.zret hx hb hr narrow_b1 (fun t ht hW => ⟨⟨_, (), rfl, rfl, wQA_of ht hP9 hD9⟩, hS.F ht⟩) hS.2.2 dX9_has_46

noncomputable abbrev rmX9_ones : Room := { frames := 2, cells := 0, slots := 0, locals := 43 }
theorem ydX9_ones : yX9_ones.cls = RX9 ∧ yX9_ones.cls ≠ "java/lang/invoke/MethodHandle" ∧ yX9_ones.cls ≠ "java/lang/invoke/VarHandle" ∧ (parseMethodDescriptor yX9_ones.desc).map (fun d => d.parameters.length) = some 1 := by decide +kernel
noncomputable def F_X9_ones (f_t_forms : Nat → Int64) (p0 : Int32) : Option (Int32 × Int32) :=
 obn (F_X9_isForm p0) (fun r2 =>
 (if r2 = 0 then
 obn2 (F_X9_isThrown_ (1 : Int32)) (fun r13 c_t_thrown_13 =>
 (if r13 = 0 then
 chk (¬ (p0 < 0 ∨ 6 ≤ p0.toNatClampNeg)) (
 obn (F_X9_onesOf (f_t_forms p0.toNatClampNeg)) (fun r29 =>
 some (r29, c_t_thrown_13)))
else
 some ((0 : Int32), c_t_thrown_13)))
else
 obn2 (F_X9_isThrown_ (0 : Int32)) (fun r13 c_t_thrown_13 =>
 (if r13 = 0 then
 chk (¬ (p0 < 0 ∨ 6 ≤ p0.toNatClampNeg)) (
 obn (F_X9_onesOf (f_t_forms p0.toNatClampNeg)) (fun r29 =>
 some (r29, c_t_thrown_13)))
else
 some ((0 : Int32), c_t_thrown_13)))))
set_option maxHeartbeats 4000000 in
set_option maxRecDepth 100000 in
theorem c_X9_ones (l : Launch) (D : va_G) (cyJ : ClassId) (sz : Nat) (a_t : Nat) (a_t_forms : Nat) (a_t_roll : Nat) (c_t_many : Int32) (c_t_taps : Int64) (c_t_cells : Int32) (c_t_acts : Int32) (c_t_refused : Int32) (c_t_knocks : Int32) (c_t_thrown : Int32) (f_t_forms : Nat → Int64) (p0 : Int32) (r0 : Int32) (o_c_t_thrown : Int32) (hF : F_X9_ones f_t_forms p0 = some (r0, o_c_t_thrown)) : Met l yX9_ones wsX9_ones rmX9_ones (va_Pc [.ref a_t, .int p0] (wPD D [(cyJ, .long)] [(a_t, .inr (8, [.ref a_t_forms, .ref a_t_roll, .int c_t_many, .long c_t_taps, .int c_t_cells, .int c_t_acts, .int c_t_refused, .int c_t_knocks, .int c_t_thrown])), (a_t_forms, .inl (cyJ, 6, .inr (.inl f_t_forms)))] sz)) (va_Qi (fun (r : Int32) (_ : Unit) => r = r0) (fun _ t => wQA D [(a_t, .inr (8, [.ref a_t_forms, .ref a_t_roll, .int c_t_many, .long c_t_taps, .int c_t_cells, .int c_t_acts, .int c_t_refused, .int c_t_knocks, .int o_c_t_thrown])), (a_t_forms, .inl (cyJ, 6, .inr (.inl f_t_forms)))] (va_A [(a_t, .inr (8, [.ref a_t_forms, .ref a_t_roll, .int c_t_many, .long c_t_taps, .int c_t_cells, .int c_t_acts, .int c_t_refused, .int c_t_knocks, .int c_t_thrown])), (a_t_forms, .inl (cyJ, 6, .inr (.inl f_t_forms)))] sz) t) (va_A [(a_t, .inr (8, [.ref a_t_forms, .ref a_t_roll, .int c_t_many, .long c_t_taps, .int c_t_cells, .int c_t_acts, .int c_t_refused, .int c_t_knocks, .int c_t_thrown])), (a_t_forms, .inl (cyJ, 6, .inr (.inl f_t_forms)))] sz)) 0 0 (va_A [(a_t, .inr (8, [.ref a_t_forms, .ref a_t_roll, .int c_t_many, .long c_t_taps, .int c_t_cells, .int c_t_acts, .int c_t_refused, .int c_t_knocks, .int c_t_thrown])), (a_t_forms, .inl (cyJ, 6, .inr (.inl f_t_forms)))] sz) := by
  refine Met.ofW (cc := cX9_ones) (maxL := 2) (ret := (some .int)) (by decide) rfl ?_
  intro p e s m args below meth c s₁ B hml hv
  obtain ⟨rfl, hsz, hP, hK, hD0, hnw⟩ := hv
  have hx := B.exec
  have hb := B.bytes
  have hr := B.returns
  have hts := atoms_spec (ws := wsX9_ones) B.pre
  have hown : s.vm.findClass RX9 = some m.cls := findClass_of_methodNamed B.named
  have hlocks := B.notSynchronized
  have hcf : CallFix _ _ _ _ _ _ _ _ _ := ⟨hx, hb, hml, hown, hts⟩
  have hinX9 : ∀ w ∈ u_ws RX9 TX9 9, w ∈ wsX9_ones := by decide +kernel
  have hfl9 := hts (.fieldLink RX9 9 "FormwheelModel" "forms" "[J") (by decide +kernel)
  subst hsz
  have hD := hD0.self (sz := s.heap.size)
  generalize hAe : va_A [(a_t, .inr (8, [.ref a_t_forms, .ref a_t_roll, .int c_t_many, .long c_t_taps, .int c_t_cells, .int c_t_acts, .int c_t_refused, .int c_t_knocks, .int c_t_thrown])), (a_t_forms, .inl (cyJ, 6, .inr (.inl f_t_forms)))] s.heap.size = A at hD ⊢
  have hA : ∀ q : Nat, s.heap.size ≤ q → A q := fun q h => by rw [← hAe]; exact Or.inr h
  have hS : va_S A s.heap s.heap [] := va_S.rf
  have hP : va_P D vwCl [(a_t, .inr (8, [.ref a_t_forms, .ref a_t_roll, .int c_t_many, .long c_t_taps, .int c_t_cells, .int c_t_acts, .int c_t_refused, .int c_t_knocks, .int c_t_thrown])), (a_t_forms, .inl (cyJ, 6, .inr (.inl f_t_forms)))] s.heap := hP
  have hK0 := hK
  have hl := lv_entry ([.ref a_t, .int p0]) (n := 2) (Nat.le_of_ble_eq_true rfl)
  rw [lg_entry_eq]
  generalize (lg_sl ([.ref a_t, .int p0]) ++ List.replicate (2 - (lg_sl ([.ref a_t, .int p0])).length) Slot.unset).toArray = ls at hl ⊢
  have hl : lv_has ls 2 [(0, .ref a_t), (1, .int p0)] := hl
  have h := hF
  clear hF
  unfold F_X9_ones at h
  refine lv_aload_n hx hb dX9_ones_0 rfl (lv_at hl 0 rfl) ?_
  refine lv_iload_n hx hb dX9_ones_1 rfl (lv_at hl 1 rfl) ?_
  obtain ⟨r2, hc2, h⟩ := obn_h h
  refine pz_callS (As := [.int p0]) (rest := [.ref a_t]) hcf (c_X9_isForm l p0 r2 hc2) (va_cwS 1 hts gX9_ones_X9_isForm rfl rfl rfl ydX9_isForm ⟨Nat.le_of_ble_eq_true rfl, Nat.le_of_ble_eq_true rfl⟩) hnw rfl hl.1 rfl (Nat.le_of_ble_eq_true rfl) dX9_ones_2 ⟨Nat.le_of_ble_eq_true rfl, Nat.le_of_ble_eq_true rfl⟩ ?_
  refine lv_if_ne (tgt := 12) hx hb dX9_ones_5 (by decide) (fun c5 => ?_) (fun c5 => ?_)
  · have h := if_ c5 h
    refine lv_iconst (v := 0) hx hb dX9_ones_12 (by decide) ?_
    obtain ⟨r13, c_t_thrown_13, hc13, h⟩ := obn2_h h
    have hPc := hP.sub (ws' := [(a_t, .inr (8, [.ref a_t_forms, .ref a_t_roll, .int c_t_many, .long c_t_taps, .int c_t_cells, .int c_t_acts, .int c_t_refused, .int c_t_knocks, .int c_t_thrown]))]) [0] rfl
    have hDc := hD.sub (ws' := [(a_t, .inr (8, [.ref a_t_forms, .ref a_t_roll, .int c_t_many, .long c_t_taps, .int c_t_cells, .int c_t_acts, .int c_t_refused, .int c_t_knocks, .int c_t_thrown]))]) [0] (by decide) rfl
    refine hp_i (w1 := [(a_t, .inr (8, [.ref a_t_forms, .ref a_t_roll, .int c_t_many, .long c_t_taps, .int c_t_cells, .int c_t_acts, .int c_t_refused, .int c_t_knocks, .int c_t_thrown_13]))]) (wr := [(a_t_forms, .inl (cyJ, 6, .inr (.inl f_t_forms)))]) (va_runV (As := [.int (0 : Int32)]) (rest := []) hcf (c_X9_isThrown_ l D cyJ s.heap.size a_t a_t_forms a_t_roll c_t_many c_t_taps c_t_cells c_t_acts c_t_refused c_t_knocks c_t_thrown (0 : Int32) r13 c_t_thrown_13 hc13) (cwV 1 hts gX9_ones_X9_isThrown_ rfl rfl rfl ydX9_isThrown_ ⟨Nat.le_of_ble_eq_true rfl, Nat.le_of_ble_eq_true rfl⟩) ⟨bl_PD, va_recv hK hP (ci := 8) (q0 := 0) rfl rfl, pr_PD hPc hK0 hDc hnw⟩ rfl rfl hl.1 rfl (lv_room (Nat.le_of_ble_eq_true rfl)) dX9_ones_13 ⟨Nat.le_of_ble_eq_true rfl, Nat.le_of_ble_eq_true rfl⟩) hP hD hS hA [0] [1] rfl rfl (by decide) (by decide) (fun H locs hP hD hS => ?_)
    have hP : va_P D vwCl [(a_t_forms, .inl (cyJ, 6, .inr (.inl f_t_forms))), (a_t, .inr (8, [.ref a_t_forms, .ref a_t_roll, .int c_t_many, .long c_t_taps, .int c_t_cells, .int c_t_acts, .int c_t_refused, .int c_t_knocks, .int c_t_thrown_13]))] H := hP
    have hD : va_D A [(a_t_forms, .inl (cyJ, 6, .inr (.inl f_t_forms))), (a_t, .inr (8, [.ref a_t_forms, .ref a_t_roll, .int c_t_many, .long c_t_taps, .int c_t_cells, .int c_t_acts, .int c_t_refused, .int c_t_knocks, .int c_t_thrown_13]))] := hD
    refine lv_if_eq (tgt := 23) hx hb dX9_ones_16 (by decide) (fun c16 => ?_) (fun c16 => ?_)
    · have h := it_ c16 h
      refine lv_aload_n hx hb dX9_ones_23 rfl (lv_at hl 0 rfl) ?_
      refine va_get (D := D) (ci := 8) (v := .ref a_t_forms) (C := RX9) (T := TX9) (N := 9) hx hb hts hinX9 hown hK hP 1 rfl rfl 0 (by decide) hfl9 (fun _ h9 => h9) rfl dX9_ones_24 ?_
      refine lv_iload_n hx hb dX9_ones_27 rfl (lv_at hl 1 rfl) ?_
      obtain ⟨hq28, h⟩ := chk_h h
      refine va_lald hx hb hK hP 0 0 rfl rfl hq28 dX9_ones_28 ?_
      obtain ⟨r29, hc29, h⟩ := obn_h h
      refine pz_callS (As := [.long (f_t_forms p0.toNatClampNeg)]) (rest := []) hcf (c_X9_onesOf l (f_t_forms p0.toNatClampNeg) r29 hc29) (va_cwS 1 hts gX9_ones_X9_onesOf rfl rfl rfl ydX9_onesOf ⟨Nat.le_of_ble_eq_true rfl, Nat.le_of_ble_eq_true rfl⟩) hnw rfl hl.1 rfl (Nat.le_of_ble_eq_true rfl) dX9_ones_29 ⟨Nat.le_of_ble_eq_true rfl, Nat.le_of_ble_eq_true rfl⟩ ?_
      obtain ⟨e0, e1⟩ := tup2 h
      subst e0
      subst e1
      have hP9 : va_P D vwCl [(a_t, .inr (8, [.ref a_t_forms, .ref a_t_roll, .int c_t_many, .long c_t_taps, .int c_t_cells, .int c_t_acts, .int c_t_refused, .int c_t_knocks, .int c_t_thrown_13])), (a_t_forms, .inl (cyJ, 6, .inr (.inl f_t_forms)))] H := hP.sub [1, 0] rfl
      have hD9 : va_D A [(a_t, .inr (8, [.ref a_t_forms, .ref a_t_roll, .int c_t_many, .long c_t_taps, .int c_t_cells, .int c_t_acts, .int c_t_refused, .int c_t_knocks, .int c_t_thrown_13])), (a_t_forms, .inl (cyJ, 6, .inr (.inl f_t_forms)))] := hD.sub [1, 0] (by decide) rfl
      exact W.iret hx hb hr (fun t ht hW => ⟨⟨_, (), rfl, rfl, wQA_of ht hP9 hD9⟩, hS.F ht⟩) hS.2.2 dX9_ones_32
    · have h := if_ c16 h
      refine lv_iconst (v := 0) hx hb dX9_ones_19 (by decide) ?_
      refine lv_goto (tgt := 32) hx hb dX9_ones_20 (by decide) ?_
      obtain ⟨e0, e1⟩ := tup2 h
      subst e0
      subst e1
      have hP9 : va_P D vwCl [(a_t, .inr (8, [.ref a_t_forms, .ref a_t_roll, .int c_t_many, .long c_t_taps, .int c_t_cells, .int c_t_acts, .int c_t_refused, .int c_t_knocks, .int c_t_thrown_13])), (a_t_forms, .inl (cyJ, 6, .inr (.inl f_t_forms)))] H := hP.sub [1, 0] rfl
      have hD9 : va_D A [(a_t, .inr (8, [.ref a_t_forms, .ref a_t_roll, .int c_t_many, .long c_t_taps, .int c_t_cells, .int c_t_acts, .int c_t_refused, .int c_t_knocks, .int c_t_thrown_13])), (a_t_forms, .inl (cyJ, 6, .inr (.inl f_t_forms)))] := hD.sub [1, 0] (by decide) rfl
      exact W.iret hx hb hr (fun t ht hW => ⟨⟨_, (), rfl, rfl, wQA_of ht hP9 hD9⟩, hS.F ht⟩) hS.2.2 dX9_ones_32
  · have h := it_ c5 h
    refine lv_iconst (v := 1) hx hb dX9_ones_8 (by decide) ?_
    refine lv_goto (tgt := 13) hx hb dX9_ones_9 (by decide) ?_
    obtain ⟨r13, c_t_thrown_13, hc13, h⟩ := obn2_h h
    have hPc := hP.sub (ws' := [(a_t, .inr (8, [.ref a_t_forms, .ref a_t_roll, .int c_t_many, .long c_t_taps, .int c_t_cells, .int c_t_acts, .int c_t_refused, .int c_t_knocks, .int c_t_thrown]))]) [0] rfl
    have hDc := hD.sub (ws' := [(a_t, .inr (8, [.ref a_t_forms, .ref a_t_roll, .int c_t_many, .long c_t_taps, .int c_t_cells, .int c_t_acts, .int c_t_refused, .int c_t_knocks, .int c_t_thrown]))]) [0] (by decide) rfl
    refine hp_i (w1 := [(a_t, .inr (8, [.ref a_t_forms, .ref a_t_roll, .int c_t_many, .long c_t_taps, .int c_t_cells, .int c_t_acts, .int c_t_refused, .int c_t_knocks, .int c_t_thrown_13]))]) (wr := [(a_t_forms, .inl (cyJ, 6, .inr (.inl f_t_forms)))]) (va_runV (As := [.int (1 : Int32)]) (rest := []) hcf (c_X9_isThrown_ l D cyJ s.heap.size a_t a_t_forms a_t_roll c_t_many c_t_taps c_t_cells c_t_acts c_t_refused c_t_knocks c_t_thrown (1 : Int32) r13 c_t_thrown_13 hc13) (cwV 1 hts gX9_ones_X9_isThrown_ rfl rfl rfl ydX9_isThrown_ ⟨Nat.le_of_ble_eq_true rfl, Nat.le_of_ble_eq_true rfl⟩) ⟨bl_PD, va_recv hK hP (ci := 8) (q0 := 0) rfl rfl, pr_PD hPc hK0 hDc hnw⟩ rfl rfl hl.1 rfl (lv_room (Nat.le_of_ble_eq_true rfl)) dX9_ones_13 ⟨Nat.le_of_ble_eq_true rfl, Nat.le_of_ble_eq_true rfl⟩) hP hD hS hA [0] [1] rfl rfl (by decide) (by decide) (fun H locs hP hD hS => ?_)
    have hP : va_P D vwCl [(a_t_forms, .inl (cyJ, 6, .inr (.inl f_t_forms))), (a_t, .inr (8, [.ref a_t_forms, .ref a_t_roll, .int c_t_many, .long c_t_taps, .int c_t_cells, .int c_t_acts, .int c_t_refused, .int c_t_knocks, .int c_t_thrown_13]))] H := hP
    have hD : va_D A [(a_t_forms, .inl (cyJ, 6, .inr (.inl f_t_forms))), (a_t, .inr (8, [.ref a_t_forms, .ref a_t_roll, .int c_t_many, .long c_t_taps, .int c_t_cells, .int c_t_acts, .int c_t_refused, .int c_t_knocks, .int c_t_thrown_13]))] := hD
    refine lv_if_eq (tgt := 23) hx hb dX9_ones_16 (by decide) (fun c16 => ?_) (fun c16 => ?_)
    · have h := it_ c16 h
      refine lv_aload_n hx hb dX9_ones_23 rfl (lv_at hl 0 rfl) ?_
      refine va_get (D := D) (ci := 8) (v := .ref a_t_forms) (C := RX9) (T := TX9) (N := 9) hx hb hts hinX9 hown hK hP 1 rfl rfl 0 (by decide) hfl9 (fun _ h9 => h9) rfl dX9_ones_24 ?_
      refine lv_iload_n hx hb dX9_ones_27 rfl (lv_at hl 1 rfl) ?_
      obtain ⟨hq28, h⟩ := chk_h h
      refine va_lald hx hb hK hP 0 0 rfl rfl hq28 dX9_ones_28 ?_
      obtain ⟨r29, hc29, h⟩ := obn_h h
      refine pz_callS (As := [.long (f_t_forms p0.toNatClampNeg)]) (rest := []) hcf (c_X9_onesOf l (f_t_forms p0.toNatClampNeg) r29 hc29) (va_cwS 1 hts gX9_ones_X9_onesOf rfl rfl rfl ydX9_onesOf ⟨Nat.le_of_ble_eq_true rfl, Nat.le_of_ble_eq_true rfl⟩) hnw rfl hl.1 rfl (Nat.le_of_ble_eq_true rfl) dX9_ones_29 ⟨Nat.le_of_ble_eq_true rfl, Nat.le_of_ble_eq_true rfl⟩ ?_
      obtain ⟨e0, e1⟩ := tup2 h
      subst e0
      subst e1
      have hP9 : va_P D vwCl [(a_t, .inr (8, [.ref a_t_forms, .ref a_t_roll, .int c_t_many, .long c_t_taps, .int c_t_cells, .int c_t_acts, .int c_t_refused, .int c_t_knocks, .int c_t_thrown_13])), (a_t_forms, .inl (cyJ, 6, .inr (.inl f_t_forms)))] H := hP.sub [1, 0] rfl
      have hD9 : va_D A [(a_t, .inr (8, [.ref a_t_forms, .ref a_t_roll, .int c_t_many, .long c_t_taps, .int c_t_cells, .int c_t_acts, .int c_t_refused, .int c_t_knocks, .int c_t_thrown_13])), (a_t_forms, .inl (cyJ, 6, .inr (.inl f_t_forms)))] := hD.sub [1, 0] (by decide) rfl
      exact W.iret hx hb hr (fun t ht hW => ⟨⟨_, (), rfl, rfl, wQA_of ht hP9 hD9⟩, hS.F ht⟩) hS.2.2 dX9_ones_32
    · have h := if_ c16 h
      refine lv_iconst (v := 0) hx hb dX9_ones_19 (by decide) ?_
      refine lv_goto (tgt := 32) hx hb dX9_ones_20 (by decide) ?_
      obtain ⟨e0, e1⟩ := tup2 h
      subst e0
      subst e1
      have hP9 : va_P D vwCl [(a_t, .inr (8, [.ref a_t_forms, .ref a_t_roll, .int c_t_many, .long c_t_taps, .int c_t_cells, .int c_t_acts, .int c_t_refused, .int c_t_knocks, .int c_t_thrown_13])), (a_t_forms, .inl (cyJ, 6, .inr (.inl f_t_forms)))] H := hP.sub [1, 0] rfl
      have hD9 : va_D A [(a_t, .inr (8, [.ref a_t_forms, .ref a_t_roll, .int c_t_many, .long c_t_taps, .int c_t_cells, .int c_t_acts, .int c_t_refused, .int c_t_knocks, .int c_t_thrown_13])), (a_t_forms, .inl (cyJ, 6, .inr (.inl f_t_forms)))] := hD.sub [1, 0] (by decide) rfl
      exact W.iret hx hb hr (fun t ht hW => ⟨⟨_, (), rfl, rfl, wQA_of ht hP9 hD9⟩, hS.F ht⟩) hS.2.2 dX9_ones_32

noncomputable abbrev rmX9_lowest : Room := { frames := 3, cells := 0, slots := 0, locals := 64 }
theorem ydX9_lowest : yX9_lowest.cls = RX9 ∧ yX9_lowest.cls ≠ "java/lang/invoke/MethodHandle" ∧ yX9_lowest.cls ≠ "java/lang/invoke/VarHandle" ∧ (parseMethodDescriptor yX9_lowest.desc).map (fun d => d.parameters.length) = some 1 := by decide +kernel
noncomputable def F_X9_lowest (f_t_forms : Nat → Int64) (p0 : Int32) : Option (Int32 × Int32) :=
 obn (F_X9_isForm p0) (fun r2 =>
 (if r2 = 0 then
 obn2 (F_X9_isThrown_ (1 : Int32)) (fun r13 c_t_thrown_13 =>
 (if r13 = 0 then
 chk (¬ (p0 < 0 ∨ 6 ≤ p0.toNatClampNeg)) (
 obn (F_X9_lowestOf (f_t_forms p0.toNatClampNeg)) (fun r29 =>
 some (r29, c_t_thrown_13)))
else
 some ((0 : Int32), c_t_thrown_13)))
else
 obn2 (F_X9_isThrown_ (0 : Int32)) (fun r13 c_t_thrown_13 =>
 (if r13 = 0 then
 chk (¬ (p0 < 0 ∨ 6 ≤ p0.toNatClampNeg)) (
 obn (F_X9_lowestOf (f_t_forms p0.toNatClampNeg)) (fun r29 =>
 some (r29, c_t_thrown_13)))
else
 some ((0 : Int32), c_t_thrown_13)))))
set_option maxHeartbeats 4000000 in
set_option maxRecDepth 100000 in
theorem c_X9_lowest (l : Launch) (D : va_G) (cyJ : ClassId) (sz : Nat) (a_t : Nat) (a_t_forms : Nat) (a_t_roll : Nat) (c_t_many : Int32) (c_t_taps : Int64) (c_t_cells : Int32) (c_t_acts : Int32) (c_t_refused : Int32) (c_t_knocks : Int32) (c_t_thrown : Int32) (f_t_forms : Nat → Int64) (p0 : Int32) (r0 : Int32) (o_c_t_thrown : Int32) (hF : F_X9_lowest f_t_forms p0 = some (r0, o_c_t_thrown)) : Met l yX9_lowest wsX9_lowest rmX9_lowest (va_Pc [.ref a_t, .int p0] (wPD D [(cyJ, .long)] [(a_t, .inr (8, [.ref a_t_forms, .ref a_t_roll, .int c_t_many, .long c_t_taps, .int c_t_cells, .int c_t_acts, .int c_t_refused, .int c_t_knocks, .int c_t_thrown])), (a_t_forms, .inl (cyJ, 6, .inr (.inl f_t_forms)))] sz)) (va_Qi (fun (r : Int32) (_ : Unit) => r = r0) (fun _ t => wQA D [(a_t, .inr (8, [.ref a_t_forms, .ref a_t_roll, .int c_t_many, .long c_t_taps, .int c_t_cells, .int c_t_acts, .int c_t_refused, .int c_t_knocks, .int o_c_t_thrown])), (a_t_forms, .inl (cyJ, 6, .inr (.inl f_t_forms)))] (va_A [(a_t, .inr (8, [.ref a_t_forms, .ref a_t_roll, .int c_t_many, .long c_t_taps, .int c_t_cells, .int c_t_acts, .int c_t_refused, .int c_t_knocks, .int c_t_thrown])), (a_t_forms, .inl (cyJ, 6, .inr (.inl f_t_forms)))] sz) t) (va_A [(a_t, .inr (8, [.ref a_t_forms, .ref a_t_roll, .int c_t_many, .long c_t_taps, .int c_t_cells, .int c_t_acts, .int c_t_refused, .int c_t_knocks, .int c_t_thrown])), (a_t_forms, .inl (cyJ, 6, .inr (.inl f_t_forms)))] sz)) 0 0 (va_A [(a_t, .inr (8, [.ref a_t_forms, .ref a_t_roll, .int c_t_many, .long c_t_taps, .int c_t_cells, .int c_t_acts, .int c_t_refused, .int c_t_knocks, .int c_t_thrown])), (a_t_forms, .inl (cyJ, 6, .inr (.inl f_t_forms)))] sz) := by
  refine Met.ofW (cc := cX9_lowest) (maxL := 2) (ret := (some .int)) (by decide) rfl ?_
  intro p e s m args below meth c s₁ B hml hv
  obtain ⟨rfl, hsz, hP, hK, hD0, hnw⟩ := hv
  have hx := B.exec
  have hb := B.bytes
  have hr := B.returns
  have hts := atoms_spec (ws := wsX9_lowest) B.pre
  have hown : s.vm.findClass RX9 = some m.cls := findClass_of_methodNamed B.named
  have hlocks := B.notSynchronized
  have hcf : CallFix _ _ _ _ _ _ _ _ _ := ⟨hx, hb, hml, hown, hts⟩
  have hinX9 : ∀ w ∈ u_ws RX9 TX9 9, w ∈ wsX9_lowest := by decide +kernel
  have hfl9 := hts (.fieldLink RX9 9 "FormwheelModel" "forms" "[J") (by decide +kernel)
  subst hsz
  have hD := hD0.self (sz := s.heap.size)
  generalize hAe : va_A [(a_t, .inr (8, [.ref a_t_forms, .ref a_t_roll, .int c_t_many, .long c_t_taps, .int c_t_cells, .int c_t_acts, .int c_t_refused, .int c_t_knocks, .int c_t_thrown])), (a_t_forms, .inl (cyJ, 6, .inr (.inl f_t_forms)))] s.heap.size = A at hD ⊢
  have hA : ∀ q : Nat, s.heap.size ≤ q → A q := fun q h => by rw [← hAe]; exact Or.inr h
  have hS : va_S A s.heap s.heap [] := va_S.rf
  have hP : va_P D vwCl [(a_t, .inr (8, [.ref a_t_forms, .ref a_t_roll, .int c_t_many, .long c_t_taps, .int c_t_cells, .int c_t_acts, .int c_t_refused, .int c_t_knocks, .int c_t_thrown])), (a_t_forms, .inl (cyJ, 6, .inr (.inl f_t_forms)))] s.heap := hP
  have hK0 := hK
  have hl := lv_entry ([.ref a_t, .int p0]) (n := 2) (Nat.le_of_ble_eq_true rfl)
  rw [lg_entry_eq]
  generalize (lg_sl ([.ref a_t, .int p0]) ++ List.replicate (2 - (lg_sl ([.ref a_t, .int p0])).length) Slot.unset).toArray = ls at hl ⊢
  have hl : lv_has ls 2 [(0, .ref a_t), (1, .int p0)] := hl
  have h := hF
  clear hF
  unfold F_X9_lowest at h
  refine lv_aload_n hx hb dX9_lowest_0 rfl (lv_at hl 0 rfl) ?_
  refine lv_iload_n hx hb dX9_lowest_1 rfl (lv_at hl 1 rfl) ?_
  obtain ⟨r2, hc2, h⟩ := obn_h h
  refine pz_callS (As := [.int p0]) (rest := [.ref a_t]) hcf (c_X9_isForm l p0 r2 hc2) (va_cwS 1 hts gX9_lowest_X9_isForm rfl rfl rfl ydX9_isForm ⟨Nat.le_of_ble_eq_true rfl, Nat.le_of_ble_eq_true rfl⟩) hnw rfl hl.1 rfl (Nat.le_of_ble_eq_true rfl) dX9_lowest_2 ⟨Nat.le_of_ble_eq_true rfl, Nat.le_of_ble_eq_true rfl⟩ ?_
  refine lv_if_ne (tgt := 12) hx hb dX9_lowest_5 (by decide) (fun c5 => ?_) (fun c5 => ?_)
  · have h := if_ c5 h
    refine lv_iconst (v := 0) hx hb dX9_lowest_12 (by decide) ?_
    obtain ⟨r13, c_t_thrown_13, hc13, h⟩ := obn2_h h
    have hPc := hP.sub (ws' := [(a_t, .inr (8, [.ref a_t_forms, .ref a_t_roll, .int c_t_many, .long c_t_taps, .int c_t_cells, .int c_t_acts, .int c_t_refused, .int c_t_knocks, .int c_t_thrown]))]) [0] rfl
    have hDc := hD.sub (ws' := [(a_t, .inr (8, [.ref a_t_forms, .ref a_t_roll, .int c_t_many, .long c_t_taps, .int c_t_cells, .int c_t_acts, .int c_t_refused, .int c_t_knocks, .int c_t_thrown]))]) [0] (by decide) rfl
    refine hp_i (w1 := [(a_t, .inr (8, [.ref a_t_forms, .ref a_t_roll, .int c_t_many, .long c_t_taps, .int c_t_cells, .int c_t_acts, .int c_t_refused, .int c_t_knocks, .int c_t_thrown_13]))]) (wr := [(a_t_forms, .inl (cyJ, 6, .inr (.inl f_t_forms)))]) (va_runV (As := [.int (0 : Int32)]) (rest := []) hcf (c_X9_isThrown_ l D cyJ s.heap.size a_t a_t_forms a_t_roll c_t_many c_t_taps c_t_cells c_t_acts c_t_refused c_t_knocks c_t_thrown (0 : Int32) r13 c_t_thrown_13 hc13) (cwV 1 hts gX9_lowest_X9_isThrown_ rfl rfl rfl ydX9_isThrown_ ⟨Nat.le_of_ble_eq_true rfl, Nat.le_of_ble_eq_true rfl⟩) ⟨bl_PD, va_recv hK hP (ci := 8) (q0 := 0) rfl rfl, pr_PD hPc hK0 hDc hnw⟩ rfl rfl hl.1 rfl (lv_room (Nat.le_of_ble_eq_true rfl)) dX9_lowest_13 ⟨Nat.le_of_ble_eq_true rfl, Nat.le_of_ble_eq_true rfl⟩) hP hD hS hA [0] [1] rfl rfl (by decide) (by decide) (fun H locs hP hD hS => ?_)
    have hP : va_P D vwCl [(a_t_forms, .inl (cyJ, 6, .inr (.inl f_t_forms))), (a_t, .inr (8, [.ref a_t_forms, .ref a_t_roll, .int c_t_many, .long c_t_taps, .int c_t_cells, .int c_t_acts, .int c_t_refused, .int c_t_knocks, .int c_t_thrown_13]))] H := hP
    have hD : va_D A [(a_t_forms, .inl (cyJ, 6, .inr (.inl f_t_forms))), (a_t, .inr (8, [.ref a_t_forms, .ref a_t_roll, .int c_t_many, .long c_t_taps, .int c_t_cells, .int c_t_acts, .int c_t_refused, .int c_t_knocks, .int c_t_thrown_13]))] := hD
    refine lv_if_eq (tgt := 23) hx hb dX9_lowest_16 (by decide) (fun c16 => ?_) (fun c16 => ?_)
    · have h := it_ c16 h
      refine lv_aload_n hx hb dX9_lowest_23 rfl (lv_at hl 0 rfl) ?_
      refine va_get (D := D) (ci := 8) (v := .ref a_t_forms) (C := RX9) (T := TX9) (N := 9) hx hb hts hinX9 hown hK hP 1 rfl rfl 0 (by decide) hfl9 (fun _ h9 => h9) rfl dX9_lowest_24 ?_
      refine lv_iload_n hx hb dX9_lowest_27 rfl (lv_at hl 1 rfl) ?_
      obtain ⟨hq28, h⟩ := chk_h h
      refine va_lald hx hb hK hP 0 0 rfl rfl hq28 dX9_lowest_28 ?_
      obtain ⟨r29, hc29, h⟩ := obn_h h
      refine pz_callS (As := [.long (f_t_forms p0.toNatClampNeg)]) (rest := []) hcf (c_X9_lowestOf l (f_t_forms p0.toNatClampNeg) r29 hc29) (va_cwS 1 hts gX9_lowest_X9_lowestOf rfl rfl rfl ydX9_lowestOf ⟨Nat.le_of_ble_eq_true rfl, Nat.le_of_ble_eq_true rfl⟩) hnw rfl hl.1 rfl (Nat.le_of_ble_eq_true rfl) dX9_lowest_29 ⟨Nat.le_of_ble_eq_true rfl, Nat.le_of_ble_eq_true rfl⟩ ?_
      obtain ⟨e0, e1⟩ := tup2 h
      subst e0
      subst e1
      have hP9 : va_P D vwCl [(a_t, .inr (8, [.ref a_t_forms, .ref a_t_roll, .int c_t_many, .long c_t_taps, .int c_t_cells, .int c_t_acts, .int c_t_refused, .int c_t_knocks, .int c_t_thrown_13])), (a_t_forms, .inl (cyJ, 6, .inr (.inl f_t_forms)))] H := hP.sub [1, 0] rfl
      have hD9 : va_D A [(a_t, .inr (8, [.ref a_t_forms, .ref a_t_roll, .int c_t_many, .long c_t_taps, .int c_t_cells, .int c_t_acts, .int c_t_refused, .int c_t_knocks, .int c_t_thrown_13])), (a_t_forms, .inl (cyJ, 6, .inr (.inl f_t_forms)))] := hD.sub [1, 0] (by decide) rfl
      exact W.iret hx hb hr (fun t ht hW => ⟨⟨_, (), rfl, rfl, wQA_of ht hP9 hD9⟩, hS.F ht⟩) hS.2.2 dX9_lowest_32
    · have h := if_ c16 h
      refine lv_iconst (v := 0) hx hb dX9_lowest_19 (by decide) ?_
      refine lv_goto (tgt := 32) hx hb dX9_lowest_20 (by decide) ?_
      obtain ⟨e0, e1⟩ := tup2 h
      subst e0
      subst e1
      have hP9 : va_P D vwCl [(a_t, .inr (8, [.ref a_t_forms, .ref a_t_roll, .int c_t_many, .long c_t_taps, .int c_t_cells, .int c_t_acts, .int c_t_refused, .int c_t_knocks, .int c_t_thrown_13])), (a_t_forms, .inl (cyJ, 6, .inr (.inl f_t_forms)))] H := hP.sub [1, 0] rfl
      have hD9 : va_D A [(a_t, .inr (8, [.ref a_t_forms, .ref a_t_roll, .int c_t_many, .long c_t_taps, .int c_t_cells, .int c_t_acts, .int c_t_refused, .int c_t_knocks, .int c_t_thrown_13])), (a_t_forms, .inl (cyJ, 6, .inr (.inl f_t_forms)))] := hD.sub [1, 0] (by decide) rfl
      exact W.iret hx hb hr (fun t ht hW => ⟨⟨_, (), rfl, rfl, wQA_of ht hP9 hD9⟩, hS.F ht⟩) hS.2.2 dX9_lowest_32
  · have h := it_ c5 h
    refine lv_iconst (v := 1) hx hb dX9_lowest_8 (by decide) ?_
    refine lv_goto (tgt := 13) hx hb dX9_lowest_9 (by decide) ?_
    obtain ⟨r13, c_t_thrown_13, hc13, h⟩ := obn2_h h
    have hPc := hP.sub (ws' := [(a_t, .inr (8, [.ref a_t_forms, .ref a_t_roll, .int c_t_many, .long c_t_taps, .int c_t_cells, .int c_t_acts, .int c_t_refused, .int c_t_knocks, .int c_t_thrown]))]) [0] rfl
    have hDc := hD.sub (ws' := [(a_t, .inr (8, [.ref a_t_forms, .ref a_t_roll, .int c_t_many, .long c_t_taps, .int c_t_cells, .int c_t_acts, .int c_t_refused, .int c_t_knocks, .int c_t_thrown]))]) [0] (by decide) rfl
    refine hp_i (w1 := [(a_t, .inr (8, [.ref a_t_forms, .ref a_t_roll, .int c_t_many, .long c_t_taps, .int c_t_cells, .int c_t_acts, .int c_t_refused, .int c_t_knocks, .int c_t_thrown_13]))]) (wr := [(a_t_forms, .inl (cyJ, 6, .inr (.inl f_t_forms)))]) (va_runV (As := [.int (1 : Int32)]) (rest := []) hcf (c_X9_isThrown_ l D cyJ s.heap.size a_t a_t_forms a_t_roll c_t_many c_t_taps c_t_cells c_t_acts c_t_refused c_t_knocks c_t_thrown (1 : Int32) r13 c_t_thrown_13 hc13) (cwV 1 hts gX9_lowest_X9_isThrown_ rfl rfl rfl ydX9_isThrown_ ⟨Nat.le_of_ble_eq_true rfl, Nat.le_of_ble_eq_true rfl⟩) ⟨bl_PD, va_recv hK hP (ci := 8) (q0 := 0) rfl rfl, pr_PD hPc hK0 hDc hnw⟩ rfl rfl hl.1 rfl (lv_room (Nat.le_of_ble_eq_true rfl)) dX9_lowest_13 ⟨Nat.le_of_ble_eq_true rfl, Nat.le_of_ble_eq_true rfl⟩) hP hD hS hA [0] [1] rfl rfl (by decide) (by decide) (fun H locs hP hD hS => ?_)
    have hP : va_P D vwCl [(a_t_forms, .inl (cyJ, 6, .inr (.inl f_t_forms))), (a_t, .inr (8, [.ref a_t_forms, .ref a_t_roll, .int c_t_many, .long c_t_taps, .int c_t_cells, .int c_t_acts, .int c_t_refused, .int c_t_knocks, .int c_t_thrown_13]))] H := hP
    have hD : va_D A [(a_t_forms, .inl (cyJ, 6, .inr (.inl f_t_forms))), (a_t, .inr (8, [.ref a_t_forms, .ref a_t_roll, .int c_t_many, .long c_t_taps, .int c_t_cells, .int c_t_acts, .int c_t_refused, .int c_t_knocks, .int c_t_thrown_13]))] := hD
    refine lv_if_eq (tgt := 23) hx hb dX9_lowest_16 (by decide) (fun c16 => ?_) (fun c16 => ?_)
    · have h := it_ c16 h
      refine lv_aload_n hx hb dX9_lowest_23 rfl (lv_at hl 0 rfl) ?_
      refine va_get (D := D) (ci := 8) (v := .ref a_t_forms) (C := RX9) (T := TX9) (N := 9) hx hb hts hinX9 hown hK hP 1 rfl rfl 0 (by decide) hfl9 (fun _ h9 => h9) rfl dX9_lowest_24 ?_
      refine lv_iload_n hx hb dX9_lowest_27 rfl (lv_at hl 1 rfl) ?_
      obtain ⟨hq28, h⟩ := chk_h h
      refine va_lald hx hb hK hP 0 0 rfl rfl hq28 dX9_lowest_28 ?_
      obtain ⟨r29, hc29, h⟩ := obn_h h
      refine pz_callS (As := [.long (f_t_forms p0.toNatClampNeg)]) (rest := []) hcf (c_X9_lowestOf l (f_t_forms p0.toNatClampNeg) r29 hc29) (va_cwS 1 hts gX9_lowest_X9_lowestOf rfl rfl rfl ydX9_lowestOf ⟨Nat.le_of_ble_eq_true rfl, Nat.le_of_ble_eq_true rfl⟩) hnw rfl hl.1 rfl (Nat.le_of_ble_eq_true rfl) dX9_lowest_29 ⟨Nat.le_of_ble_eq_true rfl, Nat.le_of_ble_eq_true rfl⟩ ?_
      obtain ⟨e0, e1⟩ := tup2 h
      subst e0
      subst e1
      have hP9 : va_P D vwCl [(a_t, .inr (8, [.ref a_t_forms, .ref a_t_roll, .int c_t_many, .long c_t_taps, .int c_t_cells, .int c_t_acts, .int c_t_refused, .int c_t_knocks, .int c_t_thrown_13])), (a_t_forms, .inl (cyJ, 6, .inr (.inl f_t_forms)))] H := hP.sub [1, 0] rfl
      have hD9 : va_D A [(a_t, .inr (8, [.ref a_t_forms, .ref a_t_roll, .int c_t_many, .long c_t_taps, .int c_t_cells, .int c_t_acts, .int c_t_refused, .int c_t_knocks, .int c_t_thrown_13])), (a_t_forms, .inl (cyJ, 6, .inr (.inl f_t_forms)))] := hD.sub [1, 0] (by decide) rfl
      exact W.iret hx hb hr (fun t ht hW => ⟨⟨_, (), rfl, rfl, wQA_of ht hP9 hD9⟩, hS.F ht⟩) hS.2.2 dX9_lowest_32
    · have h := if_ c16 h
      refine lv_iconst (v := 0) hx hb dX9_lowest_19 (by decide) ?_
      refine lv_goto (tgt := 32) hx hb dX9_lowest_20 (by decide) ?_
      obtain ⟨e0, e1⟩ := tup2 h
      subst e0
      subst e1
      have hP9 : va_P D vwCl [(a_t, .inr (8, [.ref a_t_forms, .ref a_t_roll, .int c_t_many, .long c_t_taps, .int c_t_cells, .int c_t_acts, .int c_t_refused, .int c_t_knocks, .int c_t_thrown_13])), (a_t_forms, .inl (cyJ, 6, .inr (.inl f_t_forms)))] H := hP.sub [1, 0] rfl
      have hD9 : va_D A [(a_t, .inr (8, [.ref a_t_forms, .ref a_t_roll, .int c_t_many, .long c_t_taps, .int c_t_cells, .int c_t_acts, .int c_t_refused, .int c_t_knocks, .int c_t_thrown_13])), (a_t_forms, .inl (cyJ, 6, .inr (.inl f_t_forms)))] := hD.sub [1, 0] (by decide) rfl
      exact W.iret hx hb hr (fun t ht hW => ⟨⟨_, (), rfl, rfl, wQA_of ht hP9 hD9⟩, hS.F ht⟩) hS.2.2 dX9_lowest_32

noncomputable abbrev rmJ0_coder_7d493 : Room := { frames := 0, cells := 0, slots := 0, locals := 0 }
theorem ydJ0_coder_7d493 : yJ0_coder_7d493.cls = RJ0 ∧ yJ0_coder_7d493.cls ≠ "java/lang/invoke/MethodHandle" ∧ yJ0_coder_7d493.cls ≠ "java/lang/invoke/VarHandle" ∧ (parseMethodDescriptor yJ0_coder_7d493.desc).map (fun d => d.parameters.length) = some 0 := by decide +kernel
noncomputable def F_J0_coder_7d493 : Option (Int32) :=
 some (0 : Int32)
set_option maxHeartbeats 4000000 in
set_option maxRecDepth 100000 in
theorem c_J0_coder_7d493 (l : Launch) (D : va_G) (cyJ cyB : ClassId) (adK adV : Nat → Nat) (k_t : Nat) (hk_t : k_t < 2) (r0 : Int32) (hF : F_J0_coder_7d493 = some r0) : Met l yJ0_coder_7d493 wsJ0_coder_7d493 rmJ0_coder_7d493 (va_Pc [.ref (adK k_t)] (wPKT D [(cyJ, .long), (cyB, .byte)] [] adK adV)) (k2_QcV (.int r0)) 0 0 (fun _ => False) := by
  refine Met.ofW (cc := cJ0_coder_7d493) (maxL := 1) (ret := (some .byte)) (by decide) rfl ?_
  intro p e s m args below meth c s₁ B hml hv
  obtain ⟨rfl, ⟨hP, hK, hnw⟩, hT⟩ := hv
  have hx := B.exec
  have hb := B.bytes
  have hr := B.returns
  have hts := atoms_spec (ws := wsJ0_coder_7d493) B.pre
  have hown : s.vm.findClass RJ0 = some m.cls := findClass_of_methodNamed B.named
  have hlocks := B.notSynchronized
  have hcf : CallFix _ _ _ _ _ _ _ _ _ := ⟨hx, hb, hml, hown, hts⟩
  have hS0 : va_S (fun _ : Nat => False) s.heap s.heap [] := va_S.rf
  have hK0 := hK
  have hcB : s.vm.findClass "[B" = some cyB := (hK.2 1 _ rfl).2
  have hl := lv_entry ([.ref (adK k_t)]) (n := 1) (Nat.le_of_ble_eq_true rfl)
  rw [lg_entry_eq]
  generalize (lg_sl ([.ref (adK k_t)]) ++ List.replicate (1 - (lg_sl ([.ref (adK k_t)])).length) Slot.unset).toArray = ls at hl ⊢
  have hl : lv_has ls 1 [(0, .ref (adK k_t))] := hl
  have h := hF
  clear hF
  unfold F_J0_coder_7d493 at h
  refine va_gets (v := .int 1) hx hb hT.1 hS0 hown (hts (.fieldLink RJ0 38 "java/lang/String" "COMPACT_STRINGS" "Z") (by decide +kernel)) (fun _ h9 => h9) dJ0_coder_7d493_0 ?_
  refine lv_if_eq (tgt := 13) hx hb dJ0_coder_7d493_3 (by decide) (fun c3 => absurd c3 (by decide)) (fun c3 => ?_)
  refine lv_aload_n hx hb dJ0_coder_7d493_6 rfl (lv_at hl 0 rfl) ?_
  refine vk_getf (v := .int (0 : Int32)) hx hb (hT.2.2.2.1.1 _ hk_t).2.1 hS0 hown (hts (.fieldLink RJ0 15 "java/lang/String" "coder" "B") (by decide +kernel)) (fun _ h9 => h9) dJ0_coder_7d493_7 ?_
  refine lv_goto (tgt := 14) hx hb dJ0_coder_7d493_10 (by decide) ?_
  have e1 := Option.some.inj h
  subst e1
  exact W.zret hx hb hr narrow_by0 (fun t ht _ => ⟨rfl, ht⟩) no_q dJ0_coder_7d493_14

noncomputable abbrev rmJ0_length_8abf5 : Room := { frames := 1, cells := 0, slots := 0, locals := 20 }
theorem ydJ0_length_8abf5 : yJ0_length_8abf5.cls = RJ0 ∧ yJ0_length_8abf5.cls ≠ "java/lang/invoke/MethodHandle" ∧ yJ0_length_8abf5.cls ≠ "java/lang/invoke/VarHandle" ∧ (parseMethodDescriptor yJ0_length_8abf5.desc).map (fun d => d.parameters.length) = some 0 := by decide +kernel
noncomputable def F_J0_length_8abf5 (k_t : Nat) : Option (Int32) :=
 obn (F_J0_coder_7d493 ) (fun r6 =>
 some ((Int32.ofNat (kLen.getD k_t 0)) >>> (r6 &&& 31)))
set_option maxHeartbeats 4000000 in
set_option maxRecDepth 100000 in
theorem c_J0_length_8abf5 (l : Launch) (D : va_G) (cyJ cyB : ClassId) (adK adV : Nat → Nat) (k_t : Nat) (hk_t : k_t < 2) (r0 : Int32) (hF : F_J0_length_8abf5 k_t = some r0) : Met l yJ0_length_8abf5 wsJ0_length_8abf5 rmJ0_length_8abf5 (va_Pc [.ref (adK k_t)] (wPKT D [(cyJ, .long), (cyB, .byte)] [] adK adV)) (k2_QcV (.int r0)) 0 0 (fun _ => False) := by
  refine Met.ofW (cc := cJ0_length_8abf5) (maxL := 1) (ret := (some .int)) (by decide) rfl ?_
  intro p e s m args below meth c s₁ B hml hv
  obtain ⟨rfl, ⟨hP, hK, hnw⟩, hT⟩ := hv
  have hx := B.exec
  have hb := B.bytes
  have hr := B.returns
  have hts := atoms_spec (ws := wsJ0_length_8abf5) B.pre
  have hown : s.vm.findClass RJ0 = some m.cls := findClass_of_methodNamed B.named
  have hlocks := B.notSynchronized
  have hcf : CallFix _ _ _ _ _ _ _ _ _ := ⟨hx, hb, hml, hown, hts⟩
  have hS0 : va_S (fun _ : Nat => False) s.heap s.heap [] := va_S.rf
  have hK0 := hK
  have hcB : s.vm.findClass "[B" = some cyB := (hK.2 1 _ rfl).2
  have hl := lv_entry ([.ref (adK k_t)]) (n := 1) (Nat.le_of_ble_eq_true rfl)
  rw [lg_entry_eq]
  generalize (lg_sl ([.ref (adK k_t)]) ++ List.replicate (1 - (lg_sl ([.ref (adK k_t)])).length) Slot.unset).toArray = ls at hl ⊢
  have hl : lv_has ls 1 [(0, .ref (adK k_t))] := hl
  have h := hF
  clear hF
  unfold F_J0_length_8abf5 at h
  refine lv_aload_n hx hb dJ0_length_8abf5_0 rfl (lv_at hl 0 rfl) ?_
  refine vk_getf (v := .ref (adV k_t)) hx hb (hT.2.2.2.1.1 _ hk_t).2.2.1 hS0 hown (hts (.fieldLink RJ0 9 "java/lang/String" "value" "[B") (by decide +kernel)) (fun _ h9 => h9) dJ0_length_8abf5_1 ?_
  refine va_tlen hx hb (hT.2.2.2.1.1 _ hk_t).2.2.2 hS0 (v := Int32.ofNat (kLen.getD k_t 0)) rfl dJ0_length_8abf5_4 ?_
  refine lv_aload_n hx hb dJ0_length_8abf5_5 rfl (lv_at hl 0 rfl) ?_
  obtain ⟨r6, hc6, h⟩ := obn_h h
  have hPc : va_P D vwCl [] s.heap := fun k q h => by simp at h
  refine rg_callV (As := []) (rest := [.int (Int32.ofNat (kLen.getD k_t 0))]) hcf (c_J0_coder_7d493 l D cyJ cyB adK adV k_t hk_t r6 hc6) (cwV 0 hts gJ0_length_8abf5_J0_coder_7d493 rfl rfl rfl ydJ0_coder_7d493 ⟨Nat.le_of_ble_eq_true rfl, Nat.le_of_ble_eq_true rfl⟩) ⟨bl_PKT, (vk_recv hT.2.2.2.1 hk_t hS0), pr_PKT hPc hK0 hnw hT hS0⟩ rfl hl.1 rfl (Nat.le_of_ble_eq_true rfl) dJ0_length_8abf5_6 ⟨Nat.le_of_ble_eq_true rfl, Nat.le_of_ble_eq_true rfl⟩ ?_
  refine lv_ishr hx hb dJ0_length_8abf5_9 ?_
  have e1 := Option.some.inj h
  subst e1
  exact W.iret hx hb hr (fun t ht _ => ⟨rfl, ht⟩) no_q dJ0_length_8abf5_10

noncomputable abbrev rmJ5_inflateIfNeededFor_a7421 : Room := { frames := 1, cells := 0, slots := 0, locals := 20 }
theorem ydJ5_inflateIfNeededFor_a7421 : yJ5_inflateIfNeededFor_a7421.cls = RJ5 ∧ yJ5_inflateIfNeededFor_a7421.cls ≠ "java/lang/invoke/MethodHandle" ∧ yJ5_inflateIfNeededFor_a7421.cls ≠ "java/lang/invoke/VarHandle" ∧ (parseMethodDescriptor yJ5_inflateIfNeededFor_a7421.desc).map (fun d => d.parameters.length) = some 1 := by decide +kernel
noncomputable def F_J5_inflateIfNeededFor_a7421 (c_t_coder : Int32) : Option (Unit) :=
 obn (F_J0_coder_7d493 ) (fun r11 =>
 (if c_t_coder = r11 then
 some ()
else
 none))
set_option maxHeartbeats 4000000 in
set_option maxRecDepth 100000 in
theorem c_J5_inflateIfNeededFor_a7421 (l : Launch) (D : va_G) (cyJ cyB : ClassId) (adK adV : Nat → Nat) (sz : Nat) (a_t : Nat) (a_t_value : Nat) (c_t_coder : Int32) (c_t_maybeLatin1 : Int32) (c_t_count : Int32) (k_q0 : Nat) (hk_q0 : k_q0 < 2) (hF : F_J5_inflateIfNeededFor_a7421 c_t_coder = some ()) : Met l yJ5_inflateIfNeededFor_a7421 wsJ5_inflateIfNeededFor_a7421 rmJ5_inflateIfNeededFor_a7421 (va_Pc [.ref a_t, .ref (adK k_q0)] (wPDT D [(cyJ, .long), (cyB, .byte)] [(a_t, .inr (1, [.ref a_t_value, .int c_t_coder, .int c_t_maybeLatin1, .int c_t_count]))] adK adV sz)) (va_Qv (fun (_ : Unit) => True) (fun _ t => wQA D [(a_t, .inr (1, [.ref a_t_value, .int c_t_coder, .int c_t_maybeLatin1, .int c_t_count]))] (va_A [(a_t, .inr (1, [.ref a_t_value, .int c_t_coder, .int c_t_maybeLatin1, .int c_t_count]))] sz) t) (va_A [(a_t, .inr (1, [.ref a_t_value, .int c_t_coder, .int c_t_maybeLatin1, .int c_t_count]))] sz)) 0 0 (va_A [(a_t, .inr (1, [.ref a_t_value, .int c_t_coder, .int c_t_maybeLatin1, .int c_t_count]))] sz) := by
  refine Met.ofW (cc := cJ5_inflateIfNeededFor_a7421) (maxL := 2) (ret := none) (by decide) rfl ?_
  intro p e s m args below meth c s₁ B hml hv
  obtain ⟨rfl, ⟨⟨hsz, hP, hK, hD0, hnw⟩, hT⟩⟩ := hv
  have hx := B.exec
  have hb := B.bytes
  have hr := B.returns
  have hts := atoms_spec (ws := wsJ5_inflateIfNeededFor_a7421) B.pre
  have hown : s.vm.findClass RJ5 = some m.cls := findClass_of_methodNamed B.named
  have hlocks := B.notSynchronized
  have hcf : CallFix _ _ _ _ _ _ _ _ _ := ⟨hx, hb, hml, hown, hts⟩
  have hinJ4 : ∀ w ∈ u_ws RJ4 TJ4 4, w ∈ wsJ5_inflateIfNeededFor_a7421 := by decide +kernel
  have hfl22 := hts (.fieldLink RJ5 22 "java/lang/AbstractStringBuilder" "coder" "B") (by decide +kernel)
  subst hsz
  have hD := hD0.self (sz := s.heap.size)
  generalize hAe : va_A [(a_t, .inr (1, [.ref a_t_value, .int c_t_coder, .int c_t_maybeLatin1, .int c_t_count]))] s.heap.size = A at hD hT ⊢
  have hA : ∀ q : Nat, s.heap.size ≤ q → A q := fun q h => by rw [← hAe]; exact Or.inr h
  have hS : va_S A s.heap s.heap [] := va_S.rf
  have hP : va_P D vwCl [(a_t, .inr (1, [.ref a_t_value, .int c_t_coder, .int c_t_maybeLatin1, .int c_t_count]))] s.heap := hP
  have hK0 := hK
  have hcB : s.vm.findClass "[B" = some cyB := (hK.2 1 _ rfl).2
  have hl := lv_entry ([.ref a_t, .ref (adK k_q0)]) (n := 2) (Nat.le_of_ble_eq_true rfl)
  rw [lg_entry_eq]
  generalize (lg_sl ([.ref a_t, .ref (adK k_q0)]) ++ List.replicate (2 - (lg_sl ([.ref a_t, .ref (adK k_q0)])).length) Slot.unset).toArray = ls at hl ⊢
  have hl : lv_has ls 2 [(0, .ref a_t), (1, .ref (adK k_q0))] := hl
  have h := hF
  clear hF
  unfold F_J5_inflateIfNeededFor_a7421 at h
  refine va_gets (v := .int 1) hx hb hT.1 hS hown (hts (.fieldLink RJ5 18 "java/lang/String" "COMPACT_STRINGS" "Z") (by decide +kernel)) (fun _ h9 => h9) dJ5_inflateIfNeededFor_a7421_0 ?_
  refine lv_if_eq (tgt := 21) hx hb dJ5_inflateIfNeededFor_a7421_3 (by decide) (fun c3 => absurd c3 (by decide)) (fun c3 => ?_)
  refine lv_aload_n hx hb dJ5_inflateIfNeededFor_a7421_6 rfl (lv_at hl 0 rfl) ?_
  refine va_get (D := D) (ci := 1) (v := .int c_t_coder) (C := RJ4) (T := TJ4) (N := 4) hx hb hts hinJ4 hown hK hP 0 rfl rfl 1 (by decide) hfl22 (fun _ h9 => h9) rfl dJ5_inflateIfNeededFor_a7421_7 ?_
  refine lv_aload_n hx hb dJ5_inflateIfNeededFor_a7421_10 rfl (lv_at hl 1 rfl) ?_
  obtain ⟨r11, hc11, h⟩ := obn_h h
  have hPc : va_P D vwCl [] s.heap := fun k q h => by simp at h
  refine rg_callV (As := []) (rest := [.int c_t_coder]) hcf (c_J0_coder_7d493 l D cyJ cyB adK adV k_q0 hk_q0 r11 hc11) (cwV 0 hts gJ5_inflateIfNeededFor_a7421_J0_coder_7d493 rfl rfl rfl ydJ0_coder_7d493 ⟨Nat.le_of_ble_eq_true rfl, Nat.le_of_ble_eq_true rfl⟩) ⟨bl_PKT, (vk_recv hT.2.2.2.1 hk_q0 hS), pr_PKT hPc hK0 hnw hT hS⟩ rfl hl.1 rfl (Nat.le_of_ble_eq_true rfl) dJ5_inflateIfNeededFor_a7421_11 ⟨Nat.le_of_ble_eq_true rfl, Nat.le_of_ble_eq_true rfl⟩ ?_
  refine lv_icmp_eq (tgt := 21) hx hb dJ5_inflateIfNeededFor_a7421_14 (by decide) (fun c14 => ?_) (fun c14 => ?_)
  · have h := it_ c14 h
    have hP9 : va_P D vwCl [(a_t, .inr (1, [.ref a_t_value, .int c_t_coder, .int c_t_maybeLatin1, .int c_t_count]))] s.heap := hP.sub [0] rfl
    have hD9 : va_D A [(a_t, .inr (1, [.ref a_t_value, .int c_t_coder, .int c_t_maybeLatin1, .int c_t_count]))] := hD.sub [0] (by decide) rfl
    exact W.vret hx hb hr (fun t ht hW => ⟨⟨(), rfl, trivial, wQA_of ht hP9 hD9⟩, hS.F ht⟩) hS.2.2 dJ5_inflateIfNeededFor_a7421_21
  · have h := if_ c14 h
    cases h

noncomputable abbrev rmJ0_getBytes_840e7 : Room := { frames := 1, cells := 0, slots := 0, locals := 80 }
theorem ydJ0_getBytes_840e7 : yJ0_getBytes_840e7.cls = RJ0 ∧ yJ0_getBytes_840e7.cls ≠ "java/lang/invoke/MethodHandle" ∧ yJ0_getBytes_840e7.cls ≠ "java/lang/invoke/VarHandle" ∧ (parseMethodDescriptor yJ0_getBytes_840e7.desc).map (fun d => d.parameters.length) = some 3 := by decide +kernel
noncomputable def F_J0_getBytes_840e7 (n_q0 : Nat) (f_q0 : Nat → Int32) (k_t : Nat) (p1 : Int32) (p2 : Int32) : Option ((Nat → Int32)) :=
 obn (F_J0_coder_7d493 ) (fun r1 =>
 (if r1 = p2 then
 chk (¬ (0 : Int32) < 0 ∧ ¬ (p1 <<< (p2 &&& 31)) < 0 ∧ ¬ (Int32.ofNat (kLen.getD k_t 0)) < 0 ∧ (0 : Int32).toNatClampNeg + (Int32.ofNat (kLen.getD k_t 0)).toNatClampNeg ≤ (kLen.getD k_t 0) ∧ (p1 <<< (p2 &&& 31)).toNatClampNeg + (Int32.ofNat (kLen.getD k_t 0)).toNatClampNeg ≤ n_q0 ∧ ∀ i, i < (Int32.ofNat (kLen.getD k_t 0)).toNatClampNeg → fits .byte (.int ((fun j => (kByt.getD k_t []).getD j 0) ((0 : Int32).toNatClampNeg + i))) = true) (
 bnd (va_cpy (fun j => (kByt.getD k_t []).getD j 0) f_q0 (0 : Int32).toNatClampNeg (p1 <<< (p2 &&& 31)).toNatClampNeg (Int32.ofNat (kLen.getD k_t 0)).toNatClampNeg) (fun f_q0_22 =>
 some f_q0_22))
else
 none))
set_option maxHeartbeats 4000000 in
set_option maxRecDepth 100000 in
theorem c_J0_getBytes_840e7 (l : Launch) (D : va_G) (cyJ cyB : ClassId) (adK adV : Nat → Nat) (sz : Nat) (a_q0 : Nat) (n_q0 : Nat) (f_q0 : Nat → Int32) (k_t : Nat) (hk_t : k_t < 2) (p1 : Int32) (p2 : Int32) (o_f_q0 : Nat → Int32) (hF : F_J0_getBytes_840e7 n_q0 f_q0 k_t p1 p2 = some o_f_q0) : Met l yJ0_getBytes_840e7 wsJ0_getBytes_840e7 rmJ0_getBytes_840e7 (va_Pc [.ref (adK k_t), .ref a_q0, .int p1, .int p2] (wPDT D [(cyJ, .long), (cyB, .byte)] [(a_q0, .inl (cyB, n_q0, .inl f_q0))] adK adV sz)) (va_Qv (fun (_ : Unit) => True) (fun _ t => wQA D [(a_q0, .inl (cyB, n_q0, .inl o_f_q0))] (va_A [(a_q0, .inl (cyB, n_q0, .inl f_q0))] sz) t) (va_A [(a_q0, .inl (cyB, n_q0, .inl f_q0))] sz)) 0 0 (va_A [(a_q0, .inl (cyB, n_q0, .inl f_q0))] sz) := by
  refine Met.ofW (cc := cJ0_getBytes_840e7) (maxL := 4) (ret := none) (by decide) rfl ?_
  intro p e s m args below meth c s₁ B hml hv
  obtain ⟨rfl, ⟨⟨hsz, hP, hK, hD0, hnw⟩, hT⟩⟩ := hv
  have hx := B.exec
  have hb := B.bytes
  have hr := B.returns
  have hts := atoms_spec (ws := wsJ0_getBytes_840e7) B.pre
  have hown : s.vm.findClass RJ0 = some m.cls := findClass_of_methodNamed B.named
  have hlocks := B.notSynchronized
  have hcf : CallFix _ _ _ _ _ _ _ _ _ := ⟨hx, hb, hml, hown, hts⟩
  subst hsz
  have hD := hD0.self (sz := s.heap.size)
  generalize hAe : va_A [(a_q0, .inl (cyB, n_q0, .inl f_q0))] s.heap.size = A at hD hT ⊢
  have hA : ∀ q : Nat, s.heap.size ≤ q → A q := fun q h => by rw [← hAe]; exact Or.inr h
  have hS : va_S A s.heap s.heap [] := va_S.rf
  have hP : va_P D vwCl [(a_q0, .inl (cyB, n_q0, .inl f_q0))] s.heap := hP
  have hK0 := hK
  have hcB : s.vm.findClass "[B" = some cyB := (hK.2 1 _ rfl).2
  have hl := lv_entry ([.ref (adK k_t), .ref a_q0, .int p1, .int p2]) (n := 4) (Nat.le_of_ble_eq_true rfl)
  rw [lg_entry_eq]
  generalize (lg_sl ([.ref (adK k_t), .ref a_q0, .int p1, .int p2]) ++ List.replicate (4 - (lg_sl ([.ref (adK k_t), .ref a_q0, .int p1, .int p2])).length) Slot.unset).toArray = ls at hl ⊢
  have hl : lv_has ls 4 [(0, .ref (adK k_t)), (1, .ref a_q0), (2, .int p1), (3, .int p2)] := hl
  have h := hF
  clear hF
  unfold F_J0_getBytes_840e7 at h
  refine lv_aload_n hx hb dJ0_getBytes_840e7_0 rfl (lv_at hl 0 rfl) ?_
  obtain ⟨r1, hc1, h⟩ := obn_h h
  have hPc : va_P D vwCl [] s.heap := fun k q h => by simp at h
  refine rg_callV (As := []) (rest := []) hcf (c_J0_coder_7d493 l D cyJ cyB adK adV k_t hk_t r1 hc1) (cwV 0 hts gJ0_getBytes_840e7_J0_coder_7d493 rfl rfl rfl ydJ0_coder_7d493 ⟨Nat.le_of_ble_eq_true rfl, Nat.le_of_ble_eq_true rfl⟩) ⟨bl_PKT, (vk_recv hT.2.2.2.1 hk_t hS), pr_PKT hPc hK0 hnw hT hS⟩ rfl hl.1 rfl (Nat.le_of_ble_eq_true rfl) dJ0_getBytes_840e7_1 ⟨Nat.le_of_ble_eq_true rfl, Nat.le_of_ble_eq_true rfl⟩ ?_
  refine lv_iload_n hx hb dJ0_getBytes_840e7_4 rfl (lv_at hl 3 rfl) ?_
  refine lv_icmp_ne (tgt := 28) hx hb dJ0_getBytes_840e7_5 (by decide) (fun c5 => ?_) (fun c5 => ?_)
  · have h := if_ c5 h
    cases h
  · have h := it_ c5 h
    refine lv_aload_n hx hb dJ0_getBytes_840e7_8 rfl (lv_at hl 0 rfl) ?_
    refine vk_getf (v := .ref (adV k_t)) hx hb (hT.2.2.2.1.1 _ hk_t).2.2.1 hS hown (hts (.fieldLink RJ0 9 "java/lang/String" "value" "[B") (by decide +kernel)) (fun _ h9 => h9) dJ0_getBytes_840e7_9 ?_
    refine lv_iconst (v := 0) hx hb dJ0_getBytes_840e7_12 (by decide) ?_
    refine lv_aload_n hx hb dJ0_getBytes_840e7_13 rfl (lv_at hl 1 rfl) ?_
    refine lv_iload_n hx hb dJ0_getBytes_840e7_14 rfl (lv_at hl 2 rfl) ?_
    refine lv_iload_n hx hb dJ0_getBytes_840e7_15 rfl (lv_at hl 3 rfl) ?_
    refine lv_ishl hx hb dJ0_getBytes_840e7_16 ?_
    refine lv_aload_n hx hb dJ0_getBytes_840e7_17 rfl (lv_at hl 0 rfl) ?_
    refine vk_getf (v := .ref (adV k_t)) hx hb (hT.2.2.2.1.1 _ hk_t).2.2.1 hS hown (hts (.fieldLink RJ0 9 "java/lang/String" "value" "[B") (by decide +kernel)) (fun _ h9 => h9) dJ0_getBytes_840e7_18 ?_
    refine va_tlen hx hb (hT.2.2.2.1.1 _ hk_t).2.2.2 hS (v := Int32.ofNat (kLen.getD k_t 0)) rfl dJ0_getBytes_840e7_21 ?_
    obtain ⟨hq22, h⟩ := chk_h h
    refine vk_copyt (f := (fun j => (kByt.getD k_t []).getD j 0)) hx hb (hml.trans hl.1.symm) hown (hts (.methodLink RJ0 212 arraycopyName) (by decide +kernel)) (hts (.native arraycopyName) (by decide +kernel)) (hts (.static arraycopyName) (by decide +kernel)) (hts (.initialized "java/lang/System") (by decide +kernel)) hK hP hD hS (hT.2.2.2.1.1 _ hk_t).2.2.2 0 1 rfl rfl hq22.1 hq22.2.1 hq22.2.2.1 hq22.2.2.2.1 hq22.2.2.2.2.1 hq22.2.2.2.2.2 (Nat.le_of_ble_eq_true rfl) (by decide +kernel) dJ0_getBytes_840e7_22 (fun H locs hP hD hS => ?_)
    obtain ⟨f_q0_22, e_f_q0_22⟩ : ∃ z, z = va_cpy (fun j => (kByt.getD k_t []).getD j 0) f_q0 (0 : Int32).toNatClampNeg (p1 <<< (p2 &&& 31)).toNatClampNeg (Int32.ofNat (kLen.getD k_t 0)).toNatClampNeg := ⟨_, rfl⟩
    have h := bnd_h e_f_q0_22 h
    have hP : va_P D vwCl [(a_q0, .inl (cyB, n_q0, .inl f_q0_22))] H := by rw [e_f_q0_22]; exact hP
    have hD : va_D A [(a_q0, .inl (cyB, n_q0, .inl f_q0_22))] := by rw [e_f_q0_22]; exact hD
    refine lv_goto (tgt := 43) hx hb dJ0_getBytes_840e7_25 (by decide) ?_
    have e1 := Option.some.inj h
    subst e1
    have hP9 : va_P D vwCl [(a_q0, .inl (cyB, n_q0, .inl f_q0_22))] H := hP.sub [0] rfl
    have hD9 : va_D A [(a_q0, .inl (cyB, n_q0, .inl f_q0_22))] := hD.sub [0] (by decide) rfl
    exact W.vret hx hb hr (fun t ht hW => ⟨⟨(), rfl, trivial, wQA_of ht hP9 hD9⟩, hS.F ht⟩) hS.2.2 dJ0_getBytes_840e7_43

noncomputable abbrev rmJ5_putStringAt_47b60 : Room := { frames := 2, cells := 0, slots := 0, locals := 103 }
theorem ydJ5_putStringAt_47b60 : yJ5_putStringAt_47b60.cls = RJ5 ∧ yJ5_putStringAt_47b60.cls ≠ "java/lang/invoke/MethodHandle" ∧ yJ5_putStringAt_47b60.cls ≠ "java/lang/invoke/VarHandle" ∧ (parseMethodDescriptor yJ5_putStringAt_47b60.desc).map (fun d => d.parameters.length) = some 2 := by decide +kernel
noncomputable def F_J5_putStringAt_47b60 (c_t_coder : Int32) (n_t_value : Nat) (f_t_value : Nat → Int32) (k_q1 : Nat) (p0 : Int32) : Option ((Nat → Int32)) :=
 obn (F_J5_inflateIfNeededFor_a7421 c_t_coder) (fun u2 =>
 obn (F_J0_getBytes_840e7 n_t_value f_t_value k_q1 p0 c_t_coder) (fun f_t_value_15 =>
 some f_t_value_15))
set_option maxHeartbeats 4000000 in
set_option maxRecDepth 100000 in
theorem c_J5_putStringAt_47b60 (l : Launch) (D : va_G) (cyJ cyB : ClassId) (adK adV : Nat → Nat) (sz : Nat) (a_t : Nat) (a_t_value : Nat) (c_t_coder : Int32) (c_t_maybeLatin1 : Int32) (c_t_count : Int32) (n_t_value : Nat) (f_t_value : Nat → Int32) (k_q1 : Nat) (hk_q1 : k_q1 < 2) (p0 : Int32) (o_f_t_value : Nat → Int32) (hF : F_J5_putStringAt_47b60 c_t_coder n_t_value f_t_value k_q1 p0 = some o_f_t_value) : Met l yJ5_putStringAt_47b60 wsJ5_putStringAt_47b60 rmJ5_putStringAt_47b60 (va_Pc [.ref a_t, .int p0, .ref (adK k_q1)] (wPDT D [(cyJ, .long), (cyB, .byte)] [(a_t, .inr (1, [.ref a_t_value, .int c_t_coder, .int c_t_maybeLatin1, .int c_t_count])), (a_t_value, .inl (cyB, n_t_value, .inl f_t_value))] adK adV sz)) (va_Qv (fun (_ : Unit) => True) (fun _ t => wQA D [(a_t, .inr (1, [.ref a_t_value, .int c_t_coder, .int c_t_maybeLatin1, .int c_t_count])), (a_t_value, .inl (cyB, n_t_value, .inl o_f_t_value))] (va_A [(a_t, .inr (1, [.ref a_t_value, .int c_t_coder, .int c_t_maybeLatin1, .int c_t_count])), (a_t_value, .inl (cyB, n_t_value, .inl f_t_value))] sz) t) (va_A [(a_t, .inr (1, [.ref a_t_value, .int c_t_coder, .int c_t_maybeLatin1, .int c_t_count])), (a_t_value, .inl (cyB, n_t_value, .inl f_t_value))] sz)) 0 0 (va_A [(a_t, .inr (1, [.ref a_t_value, .int c_t_coder, .int c_t_maybeLatin1, .int c_t_count])), (a_t_value, .inl (cyB, n_t_value, .inl f_t_value))] sz) := by
  refine Met.ofW (cc := cJ5_putStringAt_47b60) (maxL := 3) (ret := none) (by decide) rfl ?_
  intro p e s m args below meth c s₁ B hml hv
  obtain ⟨rfl, ⟨⟨hsz, hP, hK, hD0, hnw⟩, hT⟩⟩ := hv
  have hx := B.exec
  have hb := B.bytes
  have hr := B.returns
  have hts := atoms_spec (ws := wsJ5_putStringAt_47b60) B.pre
  have hown : s.vm.findClass RJ5 = some m.cls := findClass_of_methodNamed B.named
  have hlocks := B.notSynchronized
  have hcf : CallFix _ _ _ _ _ _ _ _ _ := ⟨hx, hb, hml, hown, hts⟩
  have hinJ4 : ∀ w ∈ u_ws RJ4 TJ4 4, w ∈ wsJ5_putStringAt_47b60 := by decide +kernel
  have hfl15 := hts (.fieldLink RJ5 15 "java/lang/AbstractStringBuilder" "value" "[B") (by decide +kernel)
  have hfl22 := hts (.fieldLink RJ5 22 "java/lang/AbstractStringBuilder" "coder" "B") (by decide +kernel)
  subst hsz
  have hD := hD0.self (sz := s.heap.size)
  generalize hAe : va_A [(a_t, .inr (1, [.ref a_t_value, .int c_t_coder, .int c_t_maybeLatin1, .int c_t_count])), (a_t_value, .inl (cyB, n_t_value, .inl f_t_value))] s.heap.size = A at hD hT ⊢
  have hA : ∀ q : Nat, s.heap.size ≤ q → A q := fun q h => by rw [← hAe]; exact Or.inr h
  have hS : va_S A s.heap s.heap [] := va_S.rf
  have hP : va_P D vwCl [(a_t, .inr (1, [.ref a_t_value, .int c_t_coder, .int c_t_maybeLatin1, .int c_t_count])), (a_t_value, .inl (cyB, n_t_value, .inl f_t_value))] s.heap := hP
  have hK0 := hK
  have hcB : s.vm.findClass "[B" = some cyB := (hK.2 1 _ rfl).2
  have hl := lv_entry ([.ref a_t, .int p0, .ref (adK k_q1)]) (n := 3) (Nat.le_of_ble_eq_true rfl)
  rw [lg_entry_eq]
  generalize (lg_sl ([.ref a_t, .int p0, .ref (adK k_q1)]) ++ List.replicate (3 - (lg_sl ([.ref a_t, .int p0, .ref (adK k_q1)])).length) Slot.unset).toArray = ls at hl ⊢
  have hl : lv_has ls 3 [(0, .ref a_t), (1, .int p0), (2, .ref (adK k_q1))] := hl
  have h := hF
  clear hF
  unfold F_J5_putStringAt_47b60 at h
  refine lv_aload_n hx hb dJ5_putStringAt_47b60_0 rfl (lv_at hl 0 rfl) ?_
  refine lv_aload_n hx hb dJ5_putStringAt_47b60_1 rfl (lv_at hl 2 rfl) ?_
  obtain ⟨u2, hc2, h⟩ := obn_h h
  have hPc := hP.sub (ws' := [(a_t, .inr (1, [.ref a_t_value, .int c_t_coder, .int c_t_maybeLatin1, .int c_t_count]))]) [0] rfl
  have hDc := hD.sub (ws' := [(a_t, .inr (1, [.ref a_t_value, .int c_t_coder, .int c_t_maybeLatin1, .int c_t_count]))]) [0] (by decide) rfl
  refine hp_v (w1 := [(a_t, .inr (1, [.ref a_t_value, .int c_t_coder, .int c_t_maybeLatin1, .int c_t_count]))]) (wr := [(a_t_value, .inl (cyB, n_t_value, .inl f_t_value))]) (va_runU (As := [.ref (adK k_q1)]) (rest := []) hcf (c_J5_inflateIfNeededFor_a7421 l D cyJ cyB adK adV s.heap.size a_t a_t_value c_t_coder c_t_maybeLatin1 c_t_count k_q1 hk_q1 hc2) (va_cwU 1 hts gJ5_putStringAt_47b60_J5_inflateIfNeededFor_a7421_u397J4 rfl rfl rfl rfl (by decide +kernel) ⟨Nat.le_of_ble_eq_true rfl, Nat.le_of_ble_eq_true rfl⟩) ⟨bl_PDT, (va_recv hK hP (ci := 1) (q0 := 0) rfl rfl), pr_PDT hPc hK0 hDc hnw hT hS (va_free hD hS hA [0] rfl)⟩ rfl rfl hl.1 rfl (lv_room (Nat.le_of_ble_eq_true rfl)) dJ5_putStringAt_47b60_2 ⟨Nat.le_of_ble_eq_true rfl, Nat.le_of_ble_eq_true rfl⟩) hP hD hS hA [0] [1] rfl rfl (by decide) (by decide) (fun H locs hP hD hS => ?_)
  have hP : va_P D vwCl [(a_t_value, .inl (cyB, n_t_value, .inl f_t_value)), (a_t, .inr (1, [.ref a_t_value, .int c_t_coder, .int c_t_maybeLatin1, .int c_t_count]))] H := hP
  have hD : va_D A [(a_t_value, .inl (cyB, n_t_value, .inl f_t_value)), (a_t, .inr (1, [.ref a_t_value, .int c_t_coder, .int c_t_maybeLatin1, .int c_t_count]))] := hD
  refine lv_aload_n hx hb dJ5_putStringAt_47b60_5 rfl (lv_at hl 2 rfl) ?_
  refine lv_aload_n hx hb dJ5_putStringAt_47b60_6 rfl (lv_at hl 0 rfl) ?_
  refine va_get (D := D) (ci := 1) (v := .ref a_t_value) (C := RJ4) (T := TJ4) (N := 4) hx hb hts hinJ4 hown hK hP 1 rfl rfl 0 (by decide) hfl15 (fun _ h9 => h9) rfl dJ5_putStringAt_47b60_7 ?_
  refine lv_iload_n hx hb dJ5_putStringAt_47b60_10 rfl (lv_at hl 1 rfl) ?_
  refine lv_aload_n hx hb dJ5_putStringAt_47b60_11 rfl (lv_at hl 0 rfl) ?_
  refine va_get (D := D) (ci := 1) (v := .int c_t_coder) (C := RJ4) (T := TJ4) (N := 4) hx hb hts hinJ4 hown hK hP 1 rfl rfl 1 (by decide) hfl22 (fun _ h9 => h9) rfl dJ5_putStringAt_47b60_12 ?_
  obtain ⟨f_t_value_15, hc15, h⟩ := obn_h h
  have hPc := hP.sub (ws' := [(a_t_value, .inl (cyB, n_t_value, .inl f_t_value))]) [0] rfl
  have hDc := hD.sub (ws' := [(a_t_value, .inl (cyB, n_t_value, .inl f_t_value))]) [0] (by decide) rfl
  refine hp_v (w1 := [(a_t_value, .inl (cyB, n_t_value, .inl f_t_value_15))]) (wr := [(a_t, .inr (1, [.ref a_t_value, .int c_t_coder, .int c_t_maybeLatin1, .int c_t_count]))]) (va_runV (As := [.ref a_t_value, .int p0, .int c_t_coder]) (rest := []) hcf (c_J0_getBytes_840e7 l D cyJ cyB adK adV H.size a_t_value n_t_value f_t_value k_q1 hk_q1 p0 c_t_coder f_t_value_15 hc15) (cwV 3 hts gJ5_putStringAt_47b60_J0_getBytes_840e7 rfl rfl rfl ydJ0_getBytes_840e7 ⟨Nat.le_of_ble_eq_true rfl, Nat.le_of_ble_eq_true rfl⟩) ⟨bl_PDT, (vk_recv hT.2.2.2.1 hk_q1 hS), pr_PDT hPc hK0 hDc hnw hT hS (va_free hD hS hA [0] rfl)⟩ rfl rfl hl.1 rfl (lv_room (Nat.le_of_ble_eq_true rfl)) dJ5_putStringAt_47b60_15 ⟨Nat.le_of_ble_eq_true rfl, Nat.le_of_ble_eq_true rfl⟩) hP hD hS hA [0] [1] rfl rfl (by decide) (by decide) (fun H locs hP hD hS => ?_)
  have hP : va_P D vwCl [(a_t, .inr (1, [.ref a_t_value, .int c_t_coder, .int c_t_maybeLatin1, .int c_t_count])), (a_t_value, .inl (cyB, n_t_value, .inl f_t_value_15))] H := hP
  have hD : va_D A [(a_t, .inr (1, [.ref a_t_value, .int c_t_coder, .int c_t_maybeLatin1, .int c_t_count])), (a_t_value, .inl (cyB, n_t_value, .inl f_t_value_15))] := hD
  have e1 := Option.some.inj h
  subst e1
  have hP9 : va_P D vwCl [(a_t, .inr (1, [.ref a_t_value, .int c_t_coder, .int c_t_maybeLatin1, .int c_t_count])), (a_t_value, .inl (cyB, n_t_value, .inl f_t_value_15))] H := hP.sub [0, 1] rfl
  have hD9 : va_D A [(a_t, .inr (1, [.ref a_t_value, .int c_t_coder, .int c_t_maybeLatin1, .int c_t_count])), (a_t_value, .inl (cyB, n_t_value, .inl f_t_value_15))] := hD.sub [0, 1] (by decide) rfl
  exact W.vret hx hb hr (fun t ht hW => ⟨⟨(), rfl, trivial, wQA_of ht hP9 hD9⟩, hS.F ht⟩) hS.2.2 dJ5_putStringAt_47b60_18

noncomputable abbrev rmJ5_append_cf1ce : Room := { frames := 4, cells := 1, slots := 300, locals := 125 }
theorem ydJ5_append_cf1ce : yJ5_append_cf1ce.cls = RJ5 ∧ yJ5_append_cf1ce.cls ≠ "java/lang/invoke/MethodHandle" ∧ yJ5_append_cf1ce.cls ≠ "java/lang/invoke/VarHandle" ∧ (parseMethodDescriptor yJ5_append_cf1ce.desc).map (fun d => d.parameters.length) = some 1 := by decide +kernel
noncomputable def F_J5_append_cf1ce (c_t_coder : Int32) (c_t_count : Int32) (n_t_value : Nat) (f_t_value : Nat → Int32) (k_q0 : Nat) : Option (Int32 × Nat × (Nat → Int32)) :=
 obn (F_J0_length_8abf5 k_q0) (fun r10 =>
 obn2 (F_J5_ensureCapacityInternal_d00df c_t_coder n_t_value f_t_value (c_t_count + r10)) (fun n_t_value_21 f_t_value_21 =>
 obn (F_J5_putStringAt_47b60 c_t_coder n_t_value_21 f_t_value_21 k_q0 c_t_count) (fun f_t_value_30 =>
 bnd (c_t_count + r10) (fun c_t_count_40 =>
 some (c_t_count_40, n_t_value_21, f_t_value_30)))))
set_option maxHeartbeats 4000000 in
set_option maxRecDepth 100000 in
theorem c_J5_append_cf1ce (l : Launch) (D : va_G) (cyJ cyB : ClassId) (adK adV : Nat → Nat) (sz : Nat) (a_t : Nat) (a_t_value : Nat) (c_t_coder : Int32) (c_t_maybeLatin1 : Int32) (c_t_count : Int32) (n_t_value : Nat) (f_t_value : Nat → Int32) (k_q0 : Nat) (hk_q0 : k_q0 < 2) (o_c_t_count : Int32) (o_n_t_value : Nat) (o_f_t_value : Nat → Int32) (hF : F_J5_append_cf1ce c_t_coder c_t_count n_t_value f_t_value k_q0 = some (o_c_t_count, o_n_t_value, o_f_t_value)) : Met l yJ5_append_cf1ce wsJ5_append_cf1ce rmJ5_append_cf1ce (va_Pc [.ref a_t, .ref (adK k_q0)] (wPDT D [(cyJ, .long), (cyB, .byte)] [(a_t, .inr (1, [.ref a_t_value, .int c_t_coder, .int c_t_maybeLatin1, .int c_t_count])), (a_t_value, .inl (cyB, n_t_value, .inl f_t_value))] adK adV sz)) (va_Qr (fun (_ : Nat) => True) (fun u r t => r = a_t ∧ wQA D [(a_t, .inr (1, [.ref u, .int c_t_coder, .int c_t_maybeLatin1, .int o_c_t_count])), (u, .inl (cyB, o_n_t_value, .inl o_f_t_value))] (va_A [(a_t, .inr (1, [.ref a_t_value, .int c_t_coder, .int c_t_maybeLatin1, .int c_t_count])), (a_t_value, .inl (cyB, n_t_value, .inl f_t_value))] sz) t) (va_A [(a_t, .inr (1, [.ref a_t_value, .int c_t_coder, .int c_t_maybeLatin1, .int c_t_count])), (a_t_value, .inl (cyB, n_t_value, .inl f_t_value))] sz)) 1 300 (va_A [(a_t, .inr (1, [.ref a_t_value, .int c_t_coder, .int c_t_maybeLatin1, .int c_t_count])), (a_t_value, .inl (cyB, n_t_value, .inl f_t_value))] sz) := by
  refine Met.ofW (cc := cJ5_append_cf1ce) (maxL := 3) (ret := (some (.object "java/lang/AbstractStringBuilder"))) (by decide) rfl ?_
  intro p e s m args below meth c s₁ B hml hv
  obtain ⟨rfl, ⟨⟨hsz, hP, hK, hD0, hnw⟩, hT⟩⟩ := hv
  have hx := B.exec
  have hb := B.bytes
  have hr := B.returns
  have hts := atoms_spec (ws := wsJ5_append_cf1ce) B.pre
  have hown : s.vm.findClass RJ5 = some m.cls := findClass_of_methodNamed B.named
  have hlocks := B.notSynchronized
  have hcf : CallFix _ _ _ _ _ _ _ _ _ := ⟨hx, hb, hml, hown, hts⟩
  have hinJ4 : ∀ w ∈ u_ws RJ4 TJ4 4, w ∈ wsJ5_append_cf1ce := by decide +kernel
  have hfl79 := hts (.fieldLink RJ5 79 "java/lang/AbstractStringBuilder" "count" "I") (by decide +kernel)
  subst hsz
  have hD := hD0.self (sz := s.heap.size)
  generalize hAe : va_A [(a_t, .inr (1, [.ref a_t_value, .int c_t_coder, .int c_t_maybeLatin1, .int c_t_count])), (a_t_value, .inl (cyB, n_t_value, .inl f_t_value))] s.heap.size = A at hD hT ⊢
  have hA : ∀ q : Nat, s.heap.size ≤ q → A q := fun q h => by rw [← hAe]; exact Or.inr h
  have hS : va_S A s.heap s.heap [] := va_S.rf
  have hP : va_P D vwCl [(a_t, .inr (1, [.ref a_t_value, .int c_t_coder, .int c_t_maybeLatin1, .int c_t_count])), (a_t_value, .inl (cyB, n_t_value, .inl f_t_value))] s.heap := hP
  have hK0 := hK
  have hcB : s.vm.findClass "[B" = some cyB := (hK.2 1 _ rfl).2
  have hl := lv_entry ([.ref a_t, .ref (adK k_q0)]) (n := 3) (Nat.le_of_ble_eq_true rfl)
  rw [lg_entry_eq]
  generalize (lg_sl ([.ref a_t, .ref (adK k_q0)]) ++ List.replicate (3 - (lg_sl ([.ref a_t, .ref (adK k_q0)])).length) Slot.unset).toArray = ls at hl ⊢
  have hl : lv_has ls 3 [(0, .ref a_t), (1, .ref (adK k_q0))] := hl
  have h := hF
  clear hF
  unfold F_J5_append_cf1ce at h
  refine lv_aload_n hx hb dJ5_append_cf1ce_0 rfl (lv_at hl 1 rfl) ?_
  refine lv_ifnonnull (tgt := 9) hx hb dJ5_append_cf1ce_1 (by decide) ?_
  refine lv_aload_n hx hb dJ5_append_cf1ce_9 rfl (lv_at hl 1 rfl) ?_
  obtain ⟨r10, hc10, h⟩ := obn_h h
  have hPc : va_P D vwCl [] s.heap := fun k q h => by simp at h
  refine rg_callV (As := []) (rest := []) hcf (c_J0_length_8abf5 l D cyJ cyB adK adV k_q0 hk_q0 r10 hc10) (cwV 0 hts gJ5_append_cf1ce_J0_length_8abf5 rfl rfl rfl ydJ0_length_8abf5 ⟨Nat.le_of_ble_eq_true rfl, Nat.le_of_ble_eq_true rfl⟩) ⟨bl_PKT, (vk_recv hT.2.2.2.1 hk_q0 hS), pr_PKT hPc hK0 hnw hT hS⟩ rfl hl.1 rfl (Nat.le_of_ble_eq_true rfl) dJ5_append_cf1ce_10 ⟨Nat.le_of_ble_eq_true rfl, Nat.le_of_ble_eq_true rfl⟩ ?_
  refine lv_istore_n (lv' := [(2, .int r10), (0, .ref a_t), (1, .ref (adK k_q0))]) hx hb dJ5_append_cf1ce_13 rfl hl (by decide) rfl (fun ls hl => ?_)
  refine lv_aload_n hx hb dJ5_append_cf1ce_14 rfl (lv_at hl 1 rfl) ?_
  refine lv_aload_n hx hb dJ5_append_cf1ce_15 rfl (lv_at hl 1 rfl) ?_
  refine va_get (D := D) (ci := 1) (v := .int c_t_count) (C := RJ4) (T := TJ4) (N := 4) hx hb hts hinJ4 hown hK hP 0 rfl rfl 3 (by decide) hfl79 (fun _ h9 => h9) rfl dJ5_append_cf1ce_16 ?_
  refine lv_iload_n hx hb dJ5_append_cf1ce_19 rfl (lv_at hl 0 rfl) ?_
  refine lv_iadd hx hb dJ5_append_cf1ce_20 ?_
  obtain ⟨n_t_value_21, f_t_value_21, hc21, h⟩ := obn2_h h
  have hPc := hP.sub (ws' := [(a_t, .inr (1, [.ref a_t_value, .int c_t_coder, .int c_t_maybeLatin1, .int c_t_count])), (a_t_value, .inl (cyB, n_t_value, .inl f_t_value))]) [0, 1] rfl
  have hDc := hD.sub (ws' := [(a_t, .inr (1, [.ref a_t_value, .int c_t_coder, .int c_t_maybeLatin1, .int c_t_count])), (a_t_value, .inl (cyB, n_t_value, .inl f_t_value))]) [0, 1] (by decide) rfl
  refine hp_n (wr := []) (va_runU (As := [.int (c_t_count + r10)]) (rest := []) hcf (c_J5_ensureCapacityInternal_d00df l D cyJ cyB s.heap.size a_t a_t_value c_t_coder c_t_maybeLatin1 c_t_count n_t_value f_t_value (c_t_count + r10) n_t_value_21 f_t_value_21 hc21) (va_cwU 1 hts gJ5_append_cf1ce_J5_ensureCapacityInternal_d00df_u100J4 rfl rfl rfl rfl (by decide +kernel) ⟨Nat.le_of_ble_eq_true rfl, Nat.le_of_ble_eq_true rfl⟩) ⟨bl_PD, (va_recv hK hP (ci := 1) (q0 := 0) rfl rfl), pr_PD hPc hK0 hDc hnw ⟩ rfl rfl hl.1 rfl (lv_room (Nat.le_of_ble_eq_true rfl)) dJ5_append_cf1ce_21 ⟨Nat.le_of_ble_eq_true rfl, Nat.le_of_ble_eq_true rfl⟩) hP hD hS hA [0, 1] [] rfl rfl (by decide) (by decide) (fun u21 H locs hP hD hS => ?_)
  obtain ⟨b_t_value_21, rfl⟩ : ∃ z : Nat, z = u21 := ⟨_, rfl⟩
  have hP : va_P D vwCl [(a_t, .inr (1, [.ref b_t_value_21, .int c_t_coder, .int c_t_maybeLatin1, .int c_t_count])), (b_t_value_21, .inl (cyB, n_t_value_21, .inl f_t_value_21))] H := hP
  have hD : va_D A [(a_t, .inr (1, [.ref b_t_value_21, .int c_t_coder, .int c_t_maybeLatin1, .int c_t_count])), (b_t_value_21, .inl (cyB, n_t_value_21, .inl f_t_value_21))] := hD
  refine lv_aload_n hx hb dJ5_append_cf1ce_24 rfl (lv_at hl 1 rfl) ?_
  refine lv_aload_n hx hb dJ5_append_cf1ce_25 rfl (lv_at hl 1 rfl) ?_
  refine va_get (D := D) (ci := 1) (v := .int c_t_count) (C := RJ4) (T := TJ4) (N := 4) hx hb hts hinJ4 hown hK hP 0 rfl rfl 3 (by decide) hfl79 (fun _ h9 => h9) rfl dJ5_append_cf1ce_26 ?_
  refine lv_aload_n hx hb dJ5_append_cf1ce_29 rfl (lv_at hl 2 rfl) ?_
  obtain ⟨f_t_value_30, hc30, h⟩ := obn_h h
  have hPc := hP.sub (ws' := [(a_t, .inr (1, [.ref b_t_value_21, .int c_t_coder, .int c_t_maybeLatin1, .int c_t_count])), (b_t_value_21, .inl (cyB, n_t_value_21, .inl f_t_value_21))]) [0, 1] rfl
  have hDc := hD.sub (ws' := [(a_t, .inr (1, [.ref b_t_value_21, .int c_t_coder, .int c_t_maybeLatin1, .int c_t_count])), (b_t_value_21, .inl (cyB, n_t_value_21, .inl f_t_value_21))]) [0, 1] (by decide) rfl
  refine hp_v (w1 := [(a_t, .inr (1, [.ref b_t_value_21, .int c_t_coder, .int c_t_maybeLatin1, .int c_t_count])), (b_t_value_21, .inl (cyB, n_t_value_21, .inl f_t_value_30))]) (wr := []) (va_runU (As := [.int c_t_count, .ref (adK k_q0)]) (rest := []) hcf (c_J5_putStringAt_47b60 l D cyJ cyB adK adV H.size a_t b_t_value_21 c_t_coder c_t_maybeLatin1 c_t_count n_t_value_21 f_t_value_21 k_q0 hk_q0 c_t_count f_t_value_30 hc30) (va_cwU 2 hts gJ5_append_cf1ce_J5_putStringAt_47b60_u208J4 rfl rfl rfl rfl (by decide +kernel) ⟨Nat.le_of_ble_eq_true rfl, Nat.le_of_ble_eq_true rfl⟩) ⟨bl_PDT, (va_recv hK hP (ci := 1) (q0 := 0) rfl rfl), pr_PDT hPc hK0 hDc hnw hT hS (va_free hD hS hA [0, 1] rfl)⟩ rfl rfl hl.1 rfl (lv_room (Nat.le_of_ble_eq_true rfl)) dJ5_append_cf1ce_30 ⟨Nat.le_of_ble_eq_true rfl, Nat.le_of_ble_eq_true rfl⟩) hP hD hS hA [0, 1] [] rfl rfl (by decide) (by decide) (fun H locs hP hD hS => ?_)
  have hP : va_P D vwCl [(a_t, .inr (1, [.ref b_t_value_21, .int c_t_coder, .int c_t_maybeLatin1, .int c_t_count])), (b_t_value_21, .inl (cyB, n_t_value_21, .inl f_t_value_30))] H := hP
  have hD : va_D A [(a_t, .inr (1, [.ref b_t_value_21, .int c_t_coder, .int c_t_maybeLatin1, .int c_t_count])), (b_t_value_21, .inl (cyB, n_t_value_21, .inl f_t_value_30))] := hD
  refine lv_aload_n hx hb dJ5_append_cf1ce_33 rfl (lv_at hl 1 rfl) ?_
  refine lv_dup hx hb dJ5_append_cf1ce_34 rfl ?_
  refine va_get (D := D) (ci := 1) (v := .int c_t_count) (C := RJ4) (T := TJ4) (N := 4) hx hb hts hinJ4 hown hK hP 0 rfl rfl 3 (by decide) hfl79 (fun _ h9 => h9) rfl dJ5_append_cf1ce_35 ?_
  refine lv_iload_n hx hb dJ5_append_cf1ce_38 rfl (lv_at hl 0 rfl) ?_
  refine lv_iadd hx hb dJ5_append_cf1ce_39 ?_
  refine lv_topi (fun c_t_count_40 e_c_t_count_40 => ?_)
  have h := bnd_h e_c_t_count_40 h
  refine va_put (D := D) (ci := 1) (v := .int c_t_count_40) (ty := tyJ4 3) (C := RJ4) (T := TJ4) (N := 4) hx hb hts hinJ4 tyJ4 tyJ4_ok nmJ4 hown hK hP hD hS 0 rfl rfl 3 (by decide) hfl79 (fun _ h9 => h9) rfl (by decide +kernel) rfl rfl (Nat.le_of_ble_eq_true rfl) dJ5_append_cf1ce_40 (fun H locs hP hD hS => ?_)
  have hP : va_P D vwCl [(a_t, .inr (1, [.ref b_t_value_21, .int c_t_coder, .int c_t_maybeLatin1, .int c_t_count_40])), (b_t_value_21, .inl (cyB, n_t_value_21, .inl f_t_value_30))] H := hP
  have hD : va_D A [(a_t, .inr (1, [.ref b_t_value_21, .int c_t_coder, .int c_t_maybeLatin1, .int c_t_count_40])), (b_t_value_21, .inl (cyB, n_t_value_21, .inl f_t_value_30))] := hD
  refine lv_aload_n hx hb dJ5_append_cf1ce_43 rfl (lv_at hl 1 rfl) ?_
  obtain ⟨e0, e1, e2⟩ := tup3 h
  subst e0
  subst e1
  subst e2
  have hP9 : va_P D vwCl [(a_t, .inr (1, [.ref b_t_value_21, .int c_t_coder, .int c_t_maybeLatin1, .int c_t_count_40])), (b_t_value_21, .inl (cyB, n_t_value_21, .inl f_t_value_30))] H := hP.sub [0, 1] rfl
  have hD9 : va_D A [(a_t, .inr (1, [.ref b_t_value_21, .int c_t_coder, .int c_t_maybeLatin1, .int c_t_count_40])), (b_t_value_21, .inl (cyB, n_t_value_21, .inl f_t_value_30))] := hD.sub [0, 1] (by decide) rfl
  exact W.aret (v := .ref a_t) hx hb hr (Or.inl ⟨_, rfl⟩) (Or.inr ⟨_, rfl⟩) (fun t ht hW => ⟨⟨b_t_value_21, a_t, rfl, trivial, ⟨rfl, wQA_of ht hP9 hD9⟩⟩, hS.F ht⟩) hS.2.2 dJ5_append_cf1ce_44

noncomputable abbrev rmJ4_append_15ec4 : Room := { frames := 5, cells := 1, slots := 300, locals := 147 }
theorem ydJ4_append_15ec4 : yJ4_append_15ec4.cls = RJ4 ∧ yJ4_append_15ec4.cls ≠ "java/lang/invoke/MethodHandle" ∧ yJ4_append_15ec4.cls ≠ "java/lang/invoke/VarHandle" ∧ (parseMethodDescriptor yJ4_append_15ec4.desc).map (fun d => d.parameters.length) = some 1 := by decide +kernel
noncomputable def F_J4_append_15ec4 (c_t_coder : Int32) (c_t_count : Int32) (n_t_value : Nat) (f_t_value : Nat → Int32) (k_q0 : Nat) : Option (Int32 × Nat × (Nat → Int32)) :=
 obn3 (F_J5_append_cf1ce c_t_coder c_t_count n_t_value f_t_value k_q0) (fun c_t_count_2 n_t_value_2 f_t_value_2 =>
 some (c_t_count_2, n_t_value_2, f_t_value_2))
set_option maxHeartbeats 4000000 in
set_option maxRecDepth 100000 in
theorem c_J4_append_15ec4 (l : Launch) (D : va_G) (cyJ cyB : ClassId) (adK adV : Nat → Nat) (sz : Nat) (a_t : Nat) (a_t_value : Nat) (c_t_coder : Int32) (c_t_maybeLatin1 : Int32) (c_t_count : Int32) (n_t_value : Nat) (f_t_value : Nat → Int32) (k_q0 : Nat) (hk_q0 : k_q0 < 2) (o_c_t_count : Int32) (o_n_t_value : Nat) (o_f_t_value : Nat → Int32) (hF : F_J4_append_15ec4 c_t_coder c_t_count n_t_value f_t_value k_q0 = some (o_c_t_count, o_n_t_value, o_f_t_value)) : Met l yJ4_append_15ec4 wsJ4_append_15ec4 rmJ4_append_15ec4 (va_Pc [.ref a_t, .ref (adK k_q0)] (wPDT D [(cyJ, .long), (cyB, .byte)] [(a_t, .inr (1, [.ref a_t_value, .int c_t_coder, .int c_t_maybeLatin1, .int c_t_count])), (a_t_value, .inl (cyB, n_t_value, .inl f_t_value))] adK adV sz)) (va_Qr (fun (_ : Nat) => True) (fun u r t => r = a_t ∧ wQA D [(a_t, .inr (1, [.ref u, .int c_t_coder, .int c_t_maybeLatin1, .int o_c_t_count])), (u, .inl (cyB, o_n_t_value, .inl o_f_t_value))] (va_A [(a_t, .inr (1, [.ref a_t_value, .int c_t_coder, .int c_t_maybeLatin1, .int c_t_count])), (a_t_value, .inl (cyB, n_t_value, .inl f_t_value))] sz) t) (va_A [(a_t, .inr (1, [.ref a_t_value, .int c_t_coder, .int c_t_maybeLatin1, .int c_t_count])), (a_t_value, .inl (cyB, n_t_value, .inl f_t_value))] sz)) 1 300 (va_A [(a_t, .inr (1, [.ref a_t_value, .int c_t_coder, .int c_t_maybeLatin1, .int c_t_count])), (a_t_value, .inl (cyB, n_t_value, .inl f_t_value))] sz) := by
  refine Met.ofW (cc := cJ4_append_15ec4) (maxL := 2) (ret := (some (.object "java/lang/StringBuilder"))) (by decide) rfl ?_
  intro p e s m args below meth c s₁ B hml hv
  obtain ⟨rfl, ⟨⟨hsz, hP, hK, hD0, hnw⟩, hT⟩⟩ := hv
  have hx := B.exec
  have hb := B.bytes
  have hr := B.returns
  have hts := atoms_spec (ws := wsJ4_append_15ec4) B.pre
  have hown : s.vm.findClass RJ4 = some m.cls := findClass_of_methodNamed B.named
  have hlocks := B.notSynchronized
  have hcf : CallFix _ _ _ _ _ _ _ _ _ := ⟨hx, hb, hml, hown, hts⟩
  subst hsz
  have hD := hD0.self (sz := s.heap.size)
  generalize hAe : va_A [(a_t, .inr (1, [.ref a_t_value, .int c_t_coder, .int c_t_maybeLatin1, .int c_t_count])), (a_t_value, .inl (cyB, n_t_value, .inl f_t_value))] s.heap.size = A at hD hT ⊢
  have hA : ∀ q : Nat, s.heap.size ≤ q → A q := fun q h => by rw [← hAe]; exact Or.inr h
  have hS : va_S A s.heap s.heap [] := va_S.rf
  have hP : va_P D vwCl [(a_t, .inr (1, [.ref a_t_value, .int c_t_coder, .int c_t_maybeLatin1, .int c_t_count])), (a_t_value, .inl (cyB, n_t_value, .inl f_t_value))] s.heap := hP
  have hK0 := hK
  have hcB : s.vm.findClass "[B" = some cyB := (hK.2 1 _ rfl).2
  have hl := lv_entry ([.ref a_t, .ref (adK k_q0)]) (n := 2) (Nat.le_of_ble_eq_true rfl)
  rw [lg_entry_eq]
  generalize (lg_sl ([.ref a_t, .ref (adK k_q0)]) ++ List.replicate (2 - (lg_sl ([.ref a_t, .ref (adK k_q0)])).length) Slot.unset).toArray = ls at hl ⊢
  have hl : lv_has ls 2 [(0, .ref a_t), (1, .ref (adK k_q0))] := hl
  have h := hF
  clear hF
  unfold F_J4_append_15ec4 at h
  refine lv_aload_n hx hb dJ4_append_15ec4_0 rfl (lv_at hl 0 rfl) ?_
  refine lv_aload_n hx hb dJ4_append_15ec4_1 rfl (lv_at hl 1 rfl) ?_
  obtain ⟨c_t_count_2, n_t_value_2, f_t_value_2, hc2, h⟩ := obn3_h h
  have hPc := hP.sub (ws' := [(a_t, .inr (1, [.ref a_t_value, .int c_t_coder, .int c_t_maybeLatin1, .int c_t_count])), (a_t_value, .inl (cyB, n_t_value, .inl f_t_value))]) [0, 1] rfl
  have hDc := hD.sub (ws' := [(a_t, .inr (1, [.ref a_t_value, .int c_t_coder, .int c_t_maybeLatin1, .int c_t_count])), (a_t_value, .inl (cyB, n_t_value, .inl f_t_value))]) [0, 1] (by decide) rfl
  refine hp_t (wr := []) (va_runSU (hK.1 1 _ rfl).2 (As := [.ref (adK k_q0)]) (rest := []) hcf (c_J5_append_cf1ce l D cyJ cyB adK adV s.heap.size a_t a_t_value c_t_coder c_t_maybeLatin1 c_t_count n_t_value f_t_value k_q0 hk_q0 c_t_count_2 n_t_value_2 f_t_value_2 hc2) (va_cwSU 1 hts gJ4_append_15ec4_J5_append_cf1ce_s29 rfl rfl rfl (by decide +kernel) ⟨Nat.le_of_ble_eq_true rfl, Nat.le_of_ble_eq_true rfl⟩) ⟨bl_PDT, (va_recv hK hP (ci := 1) (q0 := 0) rfl rfl), pr_PDT hPc hK0 hDc hnw hT hS (va_free hD hS hA [0, 1] rfl)⟩ rfl rfl hl.1 rfl (lv_room (Nat.le_of_ble_eq_true rfl)) dJ4_append_15ec4_2 ⟨Nat.le_of_ble_eq_true rfl, Nat.le_of_ble_eq_true rfl⟩) hP hD hS hA [0, 1] [] rfl rfl (by decide) (by decide) (fun u2 H locs hP hD hS => ?_)
  obtain ⟨b_t_value_2, rfl⟩ : ∃ z : Nat, z = u2 := ⟨_, rfl⟩
  have hP : va_P D vwCl [(a_t, .inr (1, [.ref b_t_value_2, .int c_t_coder, .int c_t_maybeLatin1, .int c_t_count_2])), (b_t_value_2, .inl (cyB, n_t_value_2, .inl f_t_value_2))] H := hP
  have hD : va_D A [(a_t, .inr (1, [.ref b_t_value_2, .int c_t_coder, .int c_t_maybeLatin1, .int c_t_count_2])), (b_t_value_2, .inl (cyB, n_t_value_2, .inl f_t_value_2))] := hD
  refine lv_pop hx hb dJ4_append_15ec4_5 rfl ?_
  refine lv_aload_n hx hb dJ4_append_15ec4_6 rfl (lv_at hl 0 rfl) ?_
  obtain ⟨e0, e1, e2⟩ := tup3 h
  subst e0
  subst e1
  subst e2
  have hP9 : va_P D vwCl [(a_t, .inr (1, [.ref b_t_value_2, .int c_t_coder, .int c_t_maybeLatin1, .int c_t_count_2])), (b_t_value_2, .inl (cyB, n_t_value_2, .inl f_t_value_2))] H := hP.sub [0, 1] rfl
  have hD9 : va_D A [(a_t, .inr (1, [.ref b_t_value_2, .int c_t_coder, .int c_t_maybeLatin1, .int c_t_count_2])), (b_t_value_2, .inl (cyB, n_t_value_2, .inl f_t_value_2))] := hD.sub [0, 1] (by decide) rfl
  exact W.aret (v := .ref a_t) hx hb hr (Or.inl ⟨_, rfl⟩) (Or.inr ⟨_, rfl⟩) (fun t ht hW => ⟨⟨b_t_value_2, a_t, rfl, trivial, ⟨rfl, wQA_of ht hP9 hD9⟩⟩, hS.F ht⟩) hS.2.2 dJ4_append_15ec4_7

noncomputable abbrev rmX9_textOf : Room := { frames := 6, cells := 136, slots := 40208, locals := 191 }
theorem ydX9_textOf : yX9_textOf.cls ≠ "java/lang/invoke/MethodHandle" ∧ yX9_textOf.cls ≠ "java/lang/invoke/VarHandle" ∧ (parseMethodDescriptor yX9_textOf.desc).map (fun d => d.parameters.length) = some 1 := by decide +kernel
noncomputable def S_X9_textOf_11 (z0_11 : Int64) (c_n0_coder_z11 : Int32) (k54 : Int32 → Nat → (Nat → Int32) → Option (Unit)) (ih11 : Int32 → Int32 → Nat → (Nat → Int32) → Option (Unit)) (y3_11 : Int32) (c_n0_count_11 : Int32) (n_n0_value_11 : Nat) (f_n0_value_11 : Nat → Int32) : Option (Unit) :=
 (if y3_11 < 0 then
 k54 c_n0_count_11 n_n0_value_11 f_n0_value_11
else
 (if ((z0_11 >>> (y3_11.toInt64 &&& 63)) &&& (1 : Int64)) = (1 : Int64) then
 obn (F_J4_length_8abf5 c_n0_count_11) (fun r27 =>
 (if r27 = 0 then
 obn3 (F_J4_append_15ec4 c_n0_coder_z11 c_n0_count_11 n_n0_value_11 f_n0_value_11 0) (fun c_n0_count_40 n_n0_value_40 f_n0_value_40 =>
 obn3 (F_J4_append_bf812 c_n0_coder_z11 c_n0_count_40 n_n0_value_40 f_n0_value_40 y3_11) (fun c_n0_count_44 n_n0_value_44 f_n0_value_44 =>
 bnd (y3_11 + (-1)) (fun x3_48 =>
 ih11 x3_48 c_n0_count_44 n_n0_value_44 f_n0_value_44)))
else
 obn3 (F_J4_append_15ec4 c_n0_coder_z11 c_n0_count_11 n_n0_value_11 f_n0_value_11 1) (fun c_n0_count_40 n_n0_value_40 f_n0_value_40 =>
 obn3 (F_J4_append_bf812 c_n0_coder_z11 c_n0_count_40 n_n0_value_40 f_n0_value_40 y3_11) (fun c_n0_count_44 n_n0_value_44 f_n0_value_44 =>
 bnd (y3_11 + (-1)) (fun x3_48 =>
 ih11 x3_48 c_n0_count_44 n_n0_value_44 f_n0_value_44)))))
else
 bnd (y3_11 + (-1)) (fun x3_48 =>
 ih11 x3_48 c_n0_count_11 n_n0_value_11 f_n0_value_11)))
noncomputable def F_X9_textOf (p0 : Int64) : Option (Unit) :=
 obn3 (F_J4_init_da8c8 ) (fun c_n0_coder_4 n_n0_value_4 f_n0_value_4 =>
 LQ4 (S_X9_textOf_11 p0 c_n0_coder_4 (fun c_n0_count_11_54 n_n0_value_11_54 f_n0_value_11_54 =>
 obn (F_J4_toString_0e30d c_n0_coder_4 c_n0_count_11_54 n_n0_value_11_54 f_n0_value_11_54) (fun u55 =>
 some ()))) 66 (39 : Int32) 0 n_n0_value_4 f_n0_value_4)
set_option maxHeartbeats 4000000 in
set_option maxRecDepth 100000 in
theorem c_X9_textOf (l : Launch) (D : va_G) (cyJ cyB : ClassId) (adK adV : Nat → Nat) (sz : Nat) (p0 : Int64) (hF : F_X9_textOf p0 = some ()) : Met l yX9_textOf wsX9_textOf rmX9_textOf (va_Pc [.long p0] (wPDT D [(cyJ, .long), (cyB, .byte)] [] adK adV sz)) (va_Qr (fun (_ : Unit) => True) (fun u r t => wQA D [] (va_A [] sz) t) (va_A [] sz)) 136 40208 (va_A [] sz) := by
  refine Met.ofW (cc := cX9_textOf) (maxL := 4) (ret := (some (.object "java/lang/String"))) (by decide) rfl ?_
  intro p e s m args below meth c s₁ B hml hv
  obtain ⟨rfl, ⟨⟨hsz, hP, hK, hD0, hnw⟩, hT⟩⟩ := hv
  have hx := B.exec
  have hb := B.bytes
  have hr := B.returns
  have hts := atoms_spec (ws := wsX9_textOf) B.pre
  have hown : s.vm.findClass RX9 = some m.cls := findClass_of_methodNamed B.named
  have hlocks := B.notSynchronized
  have hcf : CallFix _ _ _ _ _ _ _ _ _ := ⟨hx, hb, hml, hown, hts⟩
  subst hsz
  have hD := hD0.self (sz := s.heap.size)
  generalize hAe : va_A [] s.heap.size = A at hD hT ⊢
  have hA : ∀ q : Nat, s.heap.size ≤ q → A q := fun q h => by rw [← hAe]; exact Or.inr h
  have hS : va_S A s.heap s.heap [] := va_S.rf
  have hP : va_P D vwCl [] s.heap := hP
  have hK0 := hK
  have hcB : s.vm.findClass "[B" = some cyB := (hK.2 1 _ rfl).2
  have hl := lv_entry ([.long p0]) (n := 4) (Nat.le_of_ble_eq_true rfl)
  rw [lg_entry_eq]
  generalize (lg_sl ([.long p0]) ++ List.replicate (4 - (lg_sl ([.long p0])).length) Slot.unset).toArray = ls at hl ⊢
  have hl : lv_has ls 4 [(0, .long p0)] := hl
  have h := hF
  clear hF
  unfold F_X9_textOf at h
  refine va_new (ci := 1) (fs := [.null, .int 0, .int 0, .int 0]) (C := RJ4) (T := TJ4) (N := 4) hx hb hts (by decide +kernel) tyJ4 tyJ4_ok hown (hts (.classLink RX9 138 RJ4) (by decide +kernel)) (hts (.instantiable RJ4 4) (by decide +kernel)) (hts (.initialized RJ4) (by decide +kernel)) hK hP hD hS hA rfl (fun j hj => by rcases (show j = 0 ∨ j = 1 ∨ j = 2 ∨ j = 3 by omega) with rfl | rfl | rfl | rfl <;> rfl) (Nat.le_of_ble_eq_true rfl) (Nat.le_of_ble_eq_true rfl) dX9_textOf_0 (fun a_n0 H hP hD hS => ?_)
  have hP : va_P D vwCl [(a_n0, .inr (1, [.null, .int 0, .int 0, .int 0]))] H := hP
  have hD : va_D A [(a_n0, .inr (1, [.null, .int 0, .int 0, .int 0]))] := hD
  refine lv_dup hx hb dX9_textOf_3 rfl ?_
  obtain ⟨c_n0_coder_4, n_n0_value_4, f_n0_value_4, hc4, h⟩ := obn3_h h
  have hPc := hP.sub (ws' := [(a_n0, .inr (1, [.null, .int 0, .int 0, .int 0]))]) [0] rfl
  have hDc := hD.sub (ws' := [(a_n0, .inr (1, [.null, .int 0, .int 0, .int 0]))]) [0] (by decide) rfl
  refine hp_n (wr := []) (va_runI (As := []) (rest := [.ref a_n0]) hcf (c_J4_init_da8c8 l D cyJ cyB adK adV H.size a_n0 0 0 0 c_n0_coder_4 n_n0_value_4 f_n0_value_4 hc4) (cwI 0 hts gX9_textOf_J4_init_da8c8 rfl rfl rfl (hts (.initialized RJ4) (by decide +kernel)) (hts (.methodLink RX9 140 yJ4_init_da8c8) (by decide +kernel)) (hts (.instanceMethod yJ4_init_da8c8) (by decide +kernel)) rfl (by decide +kernel) ⟨Nat.le_of_ble_eq_true rfl, Nat.le_of_ble_eq_true rfl⟩) ⟨bl_PDT, pr_PDT hPc hK0 hDc hnw hT hS (va_free hD hS hA [0] rfl)⟩ rfl rfl hl.1 rfl (lv_room (Nat.le_of_ble_eq_true rfl)) dX9_textOf_4 ⟨Nat.le_of_ble_eq_true rfl, Nat.le_of_ble_eq_true rfl⟩) hP hD hS hA [0] [] rfl rfl (by decide) (by decide) (fun u4 H locs hP hD hS => ?_)
  obtain ⟨b_n0_value_4, rfl⟩ : ∃ z : Nat, z = u4 := ⟨_, rfl⟩
  have hP : va_P D vwCl [(a_n0, .inr (1, [.ref b_n0_value_4, .int c_n0_coder_4, .int 0, .int 0])), (b_n0_value_4, .inl (cyB, n_n0_value_4, .inl f_n0_value_4))] H := hP
  have hD : va_D A [(a_n0, .inr (1, [.ref b_n0_value_4, .int c_n0_coder_4, .int 0, .int 0])), (b_n0_value_4, .inl (cyB, n_n0_value_4, .inl f_n0_value_4))] := hD
  refine lv_astore_n (lv' := [(2, .ref a_n0), (0, .long p0)]) hx hb dX9_textOf_7 rfl hl (by decide) rfl (fun ls hl => ?_)
  refine lv_bipush (v := 39) hx hb dX9_textOf_8 (by decide) ?_
  refine lv_istore_n (lv' := [(3, .int (39 : Int32)), (2, .ref a_n0), (0, .long p0)]) hx hb dX9_textOf_10 rfl hl (by decide) rfl (fun ls hl => ?_)
  refine LQ4_f1 (M := fun nf11 (y3_11 : Int32) (c_n0_count_11 : Int32) (n_n0_value_11 : Nat) (f_n0_value_11 : Nat → Int32) => ∀ (cn11 sn11 : Nat), cn11 + 2 * nf11 ≤ 134 → sn11 + 600 * nf11 ≤ 39904 → ∀ (q_n0_value_11 : Nat) (H : Heap) (locs : List Loc), va_P D vwCl [(a_n0, .inr (1, [.ref q_n0_value_11, .int c_n0_coder_4, .int 0, .int c_n0_count_11])), (q_n0_value_11, .inl (cyB, n_n0_value_11, .inl f_n0_value_11))] H → va_D A [(a_n0, .inr (1, [.ref q_n0_value_11, .int c_n0_coder_4, .int 0, .int c_n0_count_11])), (q_n0_value_11, .inl (cyB, n_n0_value_11, .inl f_n0_value_11))] → va_S A s.heap H locs → ∀ (ls : Array Slot), lv_has ls 4 [(0, .long p0), (2, .ref a_n0), (3, .int y3_11)] → W p l e rmX9_textOf s m ([.long p0] : List Value).toArray below meth c H locs (cn11 + 0) (sn11 + 0) (MQ below (va_Qr (fun (_ : Unit) => True) (fun u r t => wQA D [] A t) A) ([.long p0] : List Value).toArray s 136 40208 A) (F0 m 11 ls [])) ?_ 66 _ _ _ _ h 2 304 (Nat.le_of_ble_eq_true rfl) (Nat.le_of_ble_eq_true rfl) _ _ _ hP hD hS ls (lv_sub hl [2, 1, 0] rfl)
  intro nf11 k54 hk54 ih11 hih11 y3_11 c_n0_count_11 n_n0_value_11 f_n0_value_11 h cn11 sn11 hcn11 hsn11 q_n0_value_11 H locs hP hD hS ls hl
  unfold S_X9_textOf_11 at h
  refine lv_iload_n hx hb dX9_textOf_11 rfl (lv_at hl 2 rfl) ?_
  refine lv_if_lt (tgt := 54) hx hb dX9_textOf_12 (by decide) (fun c12 => ?_) (fun c12 => ?_)
  · have h := it_ c12 h
    rw [hk54] at h
    refine W.widen (k := 134) (n := 39904) (by omega) (by omega) ?_
    refine lv_aload_n hx hb dX9_textOf_54 rfl (lv_at hl 1 rfl) ?_
    obtain ⟨u55, hc55, h⟩ := obn_h h
    have hPc := hP.sub (ws' := [(a_n0, .inr (1, [.ref q_n0_value_11, .int c_n0_coder_4, .int 0, .int c_n0_count_11])), (q_n0_value_11, .inl (cyB, n_n0_value_11, .inl f_n0_value_11))]) [0, 1] rfl
    have hDc := hD.sub (ws' := [(a_n0, .inr (1, [.ref q_n0_value_11, .int c_n0_coder_4, .int 0, .int c_n0_count_11])), (q_n0_value_11, .inl (cyB, n_n0_value_11, .inl f_n0_value_11))]) [0, 1] (by decide) rfl
    refine hp_r (wr := []) (va_runV (As := []) (rest := []) hcf (c_J4_toString_0e30d l D cyJ cyB adK adV H.size a_n0 q_n0_value_11 c_n0_coder_4 0 c_n0_count_11 n_n0_value_11 f_n0_value_11 hc55) (cwV 0 hts gX9_textOf_J4_toString_0e30d rfl rfl rfl ydJ4_toString_0e30d ⟨Nat.le_of_ble_eq_true rfl, Nat.le_of_ble_eq_true rfl⟩) ⟨bl_PDT, (va_recv hK hP (ci := 1) (q0 := 0) rfl rfl), pr_PDT hPc hK0 hDc hnw hT hS (va_free hD hS hA [0, 1] rfl)⟩ rfl rfl hl.1 rfl (lv_room (Nat.le_of_ble_eq_true rfl)) dX9_textOf_55 ⟨Nat.le_of_ble_eq_true rfl, Nat.le_of_ble_eq_true rfl⟩) hP hD hS hA [0, 1] [] rfl rfl (by decide) (by decide) (fun u55 b_ret55_55 H locs hP hD hS => ?_)
    have hP : va_P D vwCl [(a_n0, .inr (1, [.ref q_n0_value_11, .int c_n0_coder_4, .int 0, .int c_n0_count_11])), (q_n0_value_11, .inl (cyB, n_n0_value_11, .inl f_n0_value_11))] H := hP
    have hD : va_D A [(a_n0, .inr (1, [.ref q_n0_value_11, .int c_n0_coder_4, .int 0, .int c_n0_count_11])), (q_n0_value_11, .inl (cyB, n_n0_value_11, .inl f_n0_value_11))] := hD
    have hP9 : va_P D vwCl [] H := hP.sub [] rfl
    have hD9 : va_D A [] := hD.sub [] (by decide) rfl
    exact W.aret (v := .ref b_ret55_55) hx hb hr (Or.inl ⟨_, rfl⟩) (Or.inr ⟨_, rfl⟩) (fun t ht hW => ⟨⟨(), b_ret55_55, rfl, trivial, wQA_of ht hP9 hD9⟩, hS.F ht⟩) hS.2.2 dX9_textOf_58
  · have h := if_ c12 h
    refine lv_lload_n hx hb dX9_textOf_15 rfl (lv_at hl 0 rfl) ?_
    refine lv_iload_n hx hb dX9_textOf_16 rfl (lv_at hl 2 rfl) ?_
    refine lv_lshr (v := p0 >>> (y3_11.toInt64 &&& 63)) hx hb dX9_textOf_17 rfl ?_
    refine lv_lconst (v := 1) hx hb dX9_textOf_18 (by decide) ?_
    refine lv_land hx hb dX9_textOf_19 ?_
    refine lv_lconst (v := 1) hx hb dX9_textOf_20 (by decide) ?_
    refine W.lcmp hx hb dX9_textOf_21 ?_
    refine lv_if_ne (tgt := 48) hx hb dX9_textOf_22 (by decide) (fun c22 => ?_) (fun c22 => ?_)
    · have c22 := fun z => c22 ((lg_cmp_eq _ _).mpr z)
      have h := if_ c22 h
      obtain ⟨x3_48, e_x3_48⟩ : ∃ z : Int32, z = y3_11 + (-1) := ⟨_, rfl⟩
      have h := bnd_h e_x3_48 h
      refine lv_iinc (v := x3_48) (lv' := [(3, .int x3_48), (0, .long p0), (2, .ref a_n0)]) hx hb dX9_textOf_48 hl (k := 2) rfl (by rw [e_x3_48]; rfl) (by decide) rfl (fun ls hl => ?_)
      refine lv_goto (tgt := 11) hx hb dX9_textOf_51 (by decide) ?_
      exact hih11 x3_48 c_n0_count_11 n_n0_value_11 f_n0_value_11 h _ _ (by omega) (by omega) _ _ _ (hP.sub [0, 1] rfl) (hD.sub [0, 1] (by decide) rfl) hS ls (lv_sub hl [1, 2, 0] rfl)
    · have c22 := (lg_cmp_eq _ _).mp c22
      have h := it_ c22 h
      refine lv_aload_n hx hb dX9_textOf_25 rfl (lv_at hl 1 rfl) ?_
      refine lv_aload_n hx hb dX9_textOf_26 rfl (lv_at hl 1 rfl) ?_
      obtain ⟨r27, hc27, h⟩ := obn_h h
      have hPc : va_P D vwCl [(a_n0, .inr (1, [.ref q_n0_value_11, .int c_n0_coder_4, .int 0, .int c_n0_count_11]))] H := hP.sub [0] rfl
      refine rg_callV (As := []) (rest := [.ref a_n0]) hcf (c_J4_length_8abf5 l D cyJ cyB a_n0 q_n0_value_11 c_n0_coder_4 0 c_n0_count_11 r27 hc27) (cwV 0 hts gX9_textOf_J4_length_8abf5 rfl rfl rfl ydJ4_length_8abf5 ⟨Nat.le_of_ble_eq_true rfl, Nat.le_of_ble_eq_true rfl⟩) ⟨bl_PK, (va_recv hK hP (ci := 1) (q0 := 0) rfl rfl), pr_PK hPc hK0 hnw⟩ rfl hl.1 rfl (Nat.le_of_ble_eq_true rfl) dX9_textOf_27 ⟨Nat.le_trans (m := 134) (by omega) (Nat.le_of_ble_eq_true rfl), Nat.le_trans (m := 39904) (by omega) (Nat.le_of_ble_eq_true rfl)⟩ ?_
      refine lv_if_ne (tgt := 38) hx hb dX9_textOf_30 (by decide) (fun c30 => ?_) (fun c30 => ?_)
      · have h := if_ c30 h
        refine va_ldcS hx hb hown (hT.2.2.2.2.2) dX9_textOf_38 ?_
        obtain ⟨c_n0_count_40, n_n0_value_40, f_n0_value_40, hc40, h⟩ := obn3_h h
        have hPc := hP.sub (ws' := [(a_n0, .inr (1, [.ref q_n0_value_11, .int c_n0_coder_4, .int 0, .int c_n0_count_11])), (q_n0_value_11, .inl (cyB, n_n0_value_11, .inl f_n0_value_11))]) [0, 1] rfl
        have hDc := hD.sub (ws' := [(a_n0, .inr (1, [.ref q_n0_value_11, .int c_n0_coder_4, .int 0, .int c_n0_count_11])), (q_n0_value_11, .inl (cyB, n_n0_value_11, .inl f_n0_value_11))]) [0, 1] (by decide) rfl
        refine hp_t (wr := []) (va_runV (As := [.ref (adK 1)]) (rest := []) hcf (c_J4_append_15ec4 l D cyJ cyB adK adV H.size a_n0 q_n0_value_11 c_n0_coder_4 0 c_n0_count_11 n_n0_value_11 f_n0_value_11 1 (by decide) c_n0_count_40 n_n0_value_40 f_n0_value_40 hc40) (cwV 1 hts gX9_textOf_J4_append_15ec4 rfl rfl rfl ydJ4_append_15ec4 ⟨Nat.le_of_ble_eq_true rfl, Nat.le_of_ble_eq_true rfl⟩) ⟨bl_PDT, (va_recv hK hP (ci := 1) (q0 := 0) rfl rfl), pr_PDT hPc hK0 hDc hnw hT hS (va_free hD hS hA [0, 1] rfl)⟩ rfl rfl hl.1 rfl (lv_room (Nat.le_of_ble_eq_true rfl)) dX9_textOf_40 ⟨Nat.le_trans (m := 134) (by omega) (Nat.le_of_ble_eq_true rfl), Nat.le_trans (m := 39904) (by omega) (Nat.le_of_ble_eq_true rfl)⟩) hP hD hS hA [0, 1] [] rfl rfl (by decide) (by decide) (fun u40 H locs hP hD hS => ?_)
        obtain ⟨b_n0_value_40, rfl⟩ : ∃ z : Nat, z = u40 := ⟨_, rfl⟩
        have hP : va_P D vwCl [(a_n0, .inr (1, [.ref b_n0_value_40, .int c_n0_coder_4, .int 0, .int c_n0_count_40])), (b_n0_value_40, .inl (cyB, n_n0_value_40, .inl f_n0_value_40))] H := hP
        have hD : va_D A [(a_n0, .inr (1, [.ref b_n0_value_40, .int c_n0_coder_4, .int 0, .int c_n0_count_40])), (b_n0_value_40, .inl (cyB, n_n0_value_40, .inl f_n0_value_40))] := hD
        refine lv_iload_n hx hb dX9_textOf_43 rfl (lv_at hl 2 rfl) ?_
        obtain ⟨c_n0_count_44, n_n0_value_44, f_n0_value_44, hc44, h⟩ := obn3_h h
        have hPc := hP.sub (ws' := [(a_n0, .inr (1, [.ref b_n0_value_40, .int c_n0_coder_4, .int 0, .int c_n0_count_40])), (b_n0_value_40, .inl (cyB, n_n0_value_40, .inl f_n0_value_40))]) [0, 1] rfl
        have hDc := hD.sub (ws' := [(a_n0, .inr (1, [.ref b_n0_value_40, .int c_n0_coder_4, .int 0, .int c_n0_count_40])), (b_n0_value_40, .inl (cyB, n_n0_value_40, .inl f_n0_value_40))]) [0, 1] (by decide) rfl
        refine hp_t (wr := []) (va_runV (As := [.int y3_11]) (rest := []) hcf (c_J4_append_bf812 l D cyJ cyB adK adV H.size a_n0 b_n0_value_40 c_n0_coder_4 0 c_n0_count_40 n_n0_value_40 f_n0_value_40 y3_11 c_n0_count_44 n_n0_value_44 f_n0_value_44 hc44) (cwV 1 hts gX9_textOf_J4_append_bf812 rfl rfl rfl ydJ4_append_bf812 ⟨Nat.le_of_ble_eq_true rfl, Nat.le_of_ble_eq_true rfl⟩) ⟨bl_PDT, (va_recv hK hP (ci := 1) (q0 := 0) rfl rfl), pr_PDT hPc hK0 hDc hnw hT hS (va_free hD hS hA [0, 1] rfl)⟩ rfl rfl hl.1 rfl (lv_room (Nat.le_of_ble_eq_true rfl)) dX9_textOf_44 ⟨Nat.le_trans (m := 134) (by omega) (Nat.le_of_ble_eq_true rfl), Nat.le_trans (m := 39904) (by omega) (Nat.le_of_ble_eq_true rfl)⟩) hP hD hS hA [0, 1] [] rfl rfl (by decide) (by decide) (fun u44 H locs hP hD hS => ?_)
        obtain ⟨b_n0_value_44, rfl⟩ : ∃ z : Nat, z = u44 := ⟨_, rfl⟩
        have hP : va_P D vwCl [(a_n0, .inr (1, [.ref b_n0_value_44, .int c_n0_coder_4, .int 0, .int c_n0_count_44])), (b_n0_value_44, .inl (cyB, n_n0_value_44, .inl f_n0_value_44))] H := hP
        have hD : va_D A [(a_n0, .inr (1, [.ref b_n0_value_44, .int c_n0_coder_4, .int 0, .int c_n0_count_44])), (b_n0_value_44, .inl (cyB, n_n0_value_44, .inl f_n0_value_44))] := hD
        refine lv_pop hx hb dX9_textOf_47 rfl ?_
        obtain ⟨x3_48, e_x3_48⟩ : ∃ z : Int32, z = y3_11 + (-1) := ⟨_, rfl⟩
        have h := bnd_h e_x3_48 h
        refine lv_iinc (v := x3_48) (lv' := [(3, .int x3_48), (0, .long p0), (2, .ref a_n0)]) hx hb dX9_textOf_48 hl (k := 2) rfl (by rw [e_x3_48]; rfl) (by decide) rfl (fun ls hl => ?_)
        refine lv_goto (tgt := 11) hx hb dX9_textOf_51 (by decide) ?_
        exact hih11 x3_48 c_n0_count_44 n_n0_value_44 f_n0_value_44 h _ _ (by omega) (by omega) _ _ _ (hP.sub [0, 1] rfl) (hD.sub [0, 1] (by decide) rfl) hS ls (lv_sub hl [1, 2, 0] rfl)
      · have h := it_ c30 h
        refine va_ldcS hx hb hown (hT.2.2.2.2.1) dX9_textOf_33 ?_
        refine lv_goto (tgt := 40) hx hb dX9_textOf_35 (by decide) ?_
        obtain ⟨c_n0_count_40, n_n0_value_40, f_n0_value_40, hc40, h⟩ := obn3_h h
        have hPc := hP.sub (ws' := [(a_n0, .inr (1, [.ref q_n0_value_11, .int c_n0_coder_4, .int 0, .int c_n0_count_11])), (q_n0_value_11, .inl (cyB, n_n0_value_11, .inl f_n0_value_11))]) [0, 1] rfl
        have hDc := hD.sub (ws' := [(a_n0, .inr (1, [.ref q_n0_value_11, .int c_n0_coder_4, .int 0, .int c_n0_count_11])), (q_n0_value_11, .inl (cyB, n_n0_value_11, .inl f_n0_value_11))]) [0, 1] (by decide) rfl
        refine hp_t (wr := []) (va_runV (As := [.ref (adK 0)]) (rest := []) hcf (c_J4_append_15ec4 l D cyJ cyB adK adV H.size a_n0 q_n0_value_11 c_n0_coder_4 0 c_n0_count_11 n_n0_value_11 f_n0_value_11 0 (by decide) c_n0_count_40 n_n0_value_40 f_n0_value_40 hc40) (cwV 1 hts gX9_textOf_J4_append_15ec4 rfl rfl rfl ydJ4_append_15ec4 ⟨Nat.le_of_ble_eq_true rfl, Nat.le_of_ble_eq_true rfl⟩) ⟨bl_PDT, (va_recv hK hP (ci := 1) (q0 := 0) rfl rfl), pr_PDT hPc hK0 hDc hnw hT hS (va_free hD hS hA [0, 1] rfl)⟩ rfl rfl hl.1 rfl (lv_room (Nat.le_of_ble_eq_true rfl)) dX9_textOf_40 ⟨Nat.le_trans (m := 134) (by omega) (Nat.le_of_ble_eq_true rfl), Nat.le_trans (m := 39904) (by omega) (Nat.le_of_ble_eq_true rfl)⟩) hP hD hS hA [0, 1] [] rfl rfl (by decide) (by decide) (fun u40 H locs hP hD hS => ?_)
        obtain ⟨b_n0_value_40, rfl⟩ : ∃ z : Nat, z = u40 := ⟨_, rfl⟩
        have hP : va_P D vwCl [(a_n0, .inr (1, [.ref b_n0_value_40, .int c_n0_coder_4, .int 0, .int c_n0_count_40])), (b_n0_value_40, .inl (cyB, n_n0_value_40, .inl f_n0_value_40))] H := hP
        have hD : va_D A [(a_n0, .inr (1, [.ref b_n0_value_40, .int c_n0_coder_4, .int 0, .int c_n0_count_40])), (b_n0_value_40, .inl (cyB, n_n0_value_40, .inl f_n0_value_40))] := hD
        refine lv_iload_n hx hb dX9_textOf_43 rfl (lv_at hl 2 rfl) ?_
        obtain ⟨c_n0_count_44, n_n0_value_44, f_n0_value_44, hc44, h⟩ := obn3_h h
        have hPc := hP.sub (ws' := [(a_n0, .inr (1, [.ref b_n0_value_40, .int c_n0_coder_4, .int 0, .int c_n0_count_40])), (b_n0_value_40, .inl (cyB, n_n0_value_40, .inl f_n0_value_40))]) [0, 1] rfl
        have hDc := hD.sub (ws' := [(a_n0, .inr (1, [.ref b_n0_value_40, .int c_n0_coder_4, .int 0, .int c_n0_count_40])), (b_n0_value_40, .inl (cyB, n_n0_value_40, .inl f_n0_value_40))]) [0, 1] (by decide) rfl
        refine hp_t (wr := []) (va_runV (As := [.int y3_11]) (rest := []) hcf (c_J4_append_bf812 l D cyJ cyB adK adV H.size a_n0 b_n0_value_40 c_n0_coder_4 0 c_n0_count_40 n_n0_value_40 f_n0_value_40 y3_11 c_n0_count_44 n_n0_value_44 f_n0_value_44 hc44) (cwV 1 hts gX9_textOf_J4_append_bf812 rfl rfl rfl ydJ4_append_bf812 ⟨Nat.le_of_ble_eq_true rfl, Nat.le_of_ble_eq_true rfl⟩) ⟨bl_PDT, (va_recv hK hP (ci := 1) (q0 := 0) rfl rfl), pr_PDT hPc hK0 hDc hnw hT hS (va_free hD hS hA [0, 1] rfl)⟩ rfl rfl hl.1 rfl (lv_room (Nat.le_of_ble_eq_true rfl)) dX9_textOf_44 ⟨Nat.le_trans (m := 134) (by omega) (Nat.le_of_ble_eq_true rfl), Nat.le_trans (m := 39904) (by omega) (Nat.le_of_ble_eq_true rfl)⟩) hP hD hS hA [0, 1] [] rfl rfl (by decide) (by decide) (fun u44 H locs hP hD hS => ?_)
        obtain ⟨b_n0_value_44, rfl⟩ : ∃ z : Nat, z = u44 := ⟨_, rfl⟩
        have hP : va_P D vwCl [(a_n0, .inr (1, [.ref b_n0_value_44, .int c_n0_coder_4, .int 0, .int c_n0_count_44])), (b_n0_value_44, .inl (cyB, n_n0_value_44, .inl f_n0_value_44))] H := hP
        have hD : va_D A [(a_n0, .inr (1, [.ref b_n0_value_44, .int c_n0_coder_4, .int 0, .int c_n0_count_44])), (b_n0_value_44, .inl (cyB, n_n0_value_44, .inl f_n0_value_44))] := hD
        refine lv_pop hx hb dX9_textOf_47 rfl ?_
        obtain ⟨x3_48, e_x3_48⟩ : ∃ z : Int32, z = y3_11 + (-1) := ⟨_, rfl⟩
        have h := bnd_h e_x3_48 h
        refine lv_iinc (v := x3_48) (lv' := [(3, .int x3_48), (0, .long p0), (2, .ref a_n0)]) hx hb dX9_textOf_48 hl (k := 2) rfl (by rw [e_x3_48]; rfl) (by decide) rfl (fun ls hl => ?_)
        refine lv_goto (tgt := 11) hx hb dX9_textOf_51 (by decide) ?_
        exact hih11 x3_48 c_n0_count_44 n_n0_value_44 f_n0_value_44 h _ _ (by omega) (by omega) _ _ _ (hP.sub [0, 1] rfl) (hD.sub [0, 1] (by decide) rfl) hS ls (lv_sub hl [1, 2, 0] rfl)

noncomputable abbrev rmX9_text : Room := { frames := 7, cells := 136, slots := 40208, locals := 214 }
theorem ydX9_text : yX9_text.cls = RX9 ∧ yX9_text.cls ≠ "java/lang/invoke/MethodHandle" ∧ yX9_text.cls ≠ "java/lang/invoke/VarHandle" ∧ (parseMethodDescriptor yX9_text.desc).map (fun d => d.parameters.length) = some 1 := by decide +kernel
noncomputable def F_X9_text (f_t_forms : Nat → Int64) (p0 : Int32) : Option (Int32) :=
 obn (F_X9_isForm p0) (fun r2 =>
 (if r2 = 0 then
 obn2 (F_X9_isThrown_ (1 : Int32)) (fun r13 c_t_thrown_13 =>
 (if r13 = 0 then
 chk (¬ (p0 < 0 ∨ 6 ≤ p0.toNatClampNeg)) (
 obn (F_X9_textOf (f_t_forms p0.toNatClampNeg)) (fun u30 =>
 some c_t_thrown_13))
else
 some c_t_thrown_13))
else
 obn2 (F_X9_isThrown_ (0 : Int32)) (fun r13 c_t_thrown_13 =>
 (if r13 = 0 then
 chk (¬ (p0 < 0 ∨ 6 ≤ p0.toNatClampNeg)) (
 obn (F_X9_textOf (f_t_forms p0.toNatClampNeg)) (fun u30 =>
 some c_t_thrown_13))
else
 some c_t_thrown_13))))
set_option maxHeartbeats 4000000 in
set_option maxRecDepth 100000 in
theorem c_X9_text (l : Launch) (D : va_G) (cyJ cyB : ClassId) (adK adV : Nat → Nat) (sz : Nat) (a_t : Nat) (a_t_forms : Nat) (a_t_roll : Nat) (c_t_many : Int32) (c_t_taps : Int64) (c_t_cells : Int32) (c_t_acts : Int32) (c_t_refused : Int32) (c_t_knocks : Int32) (c_t_thrown : Int32) (f_t_forms : Nat → Int64) (p0 : Int32) (o_c_t_thrown : Int32) (hF : F_X9_text f_t_forms p0 = some o_c_t_thrown) : Met l yX9_text wsX9_text rmX9_text (va_Pc [.ref a_t, .int p0] (wPDT D [(cyJ, .long), (cyB, .byte)] [(a_t, .inr (8, [.ref a_t_forms, .ref a_t_roll, .int c_t_many, .long c_t_taps, .int c_t_cells, .int c_t_acts, .int c_t_refused, .int c_t_knocks, .int c_t_thrown])), (a_t_forms, .inl (cyJ, 6, .inr (.inl f_t_forms)))] adK adV sz)) (va_Qr (fun (_ : Unit) => True) (fun u r t => wQA D [(a_t, .inr (8, [.ref a_t_forms, .ref a_t_roll, .int c_t_many, .long c_t_taps, .int c_t_cells, .int c_t_acts, .int c_t_refused, .int c_t_knocks, .int o_c_t_thrown])), (a_t_forms, .inl (cyJ, 6, .inr (.inl f_t_forms)))] (va_A [(a_t, .inr (8, [.ref a_t_forms, .ref a_t_roll, .int c_t_many, .long c_t_taps, .int c_t_cells, .int c_t_acts, .int c_t_refused, .int c_t_knocks, .int c_t_thrown])), (a_t_forms, .inl (cyJ, 6, .inr (.inl f_t_forms)))] sz) t) (va_A [(a_t, .inr (8, [.ref a_t_forms, .ref a_t_roll, .int c_t_many, .long c_t_taps, .int c_t_cells, .int c_t_acts, .int c_t_refused, .int c_t_knocks, .int c_t_thrown])), (a_t_forms, .inl (cyJ, 6, .inr (.inl f_t_forms)))] sz)) 136 40208 (va_A [(a_t, .inr (8, [.ref a_t_forms, .ref a_t_roll, .int c_t_many, .long c_t_taps, .int c_t_cells, .int c_t_acts, .int c_t_refused, .int c_t_knocks, .int c_t_thrown])), (a_t_forms, .inl (cyJ, 6, .inr (.inl f_t_forms)))] sz) := by
  refine Met.ofW (cc := cX9_text) (maxL := 2) (ret := (some (.object "java/lang/String"))) (by decide) rfl ?_
  intro p e s m args below meth c s₁ B hml hv
  obtain ⟨rfl, ⟨⟨hsz, hP, hK, hD0, hnw⟩, hT⟩⟩ := hv
  have hx := B.exec
  have hb := B.bytes
  have hr := B.returns
  have hts := atoms_spec (ws := wsX9_text) B.pre
  have hown : s.vm.findClass RX9 = some m.cls := findClass_of_methodNamed B.named
  have hlocks := B.notSynchronized
  have hcf : CallFix _ _ _ _ _ _ _ _ _ := ⟨hx, hb, hml, hown, hts⟩
  have hinX9 : ∀ w ∈ u_ws RX9 TX9 9, w ∈ wsX9_text := by decide +kernel
  have hfl9 := hts (.fieldLink RX9 9 "FormwheelModel" "forms" "[J") (by decide +kernel)
  subst hsz
  have hD := hD0.self (sz := s.heap.size)
  generalize hAe : va_A [(a_t, .inr (8, [.ref a_t_forms, .ref a_t_roll, .int c_t_many, .long c_t_taps, .int c_t_cells, .int c_t_acts, .int c_t_refused, .int c_t_knocks, .int c_t_thrown])), (a_t_forms, .inl (cyJ, 6, .inr (.inl f_t_forms)))] s.heap.size = A at hD hT ⊢
  have hA : ∀ q : Nat, s.heap.size ≤ q → A q := fun q h => by rw [← hAe]; exact Or.inr h
  have hS : va_S A s.heap s.heap [] := va_S.rf
  have hP : va_P D vwCl [(a_t, .inr (8, [.ref a_t_forms, .ref a_t_roll, .int c_t_many, .long c_t_taps, .int c_t_cells, .int c_t_acts, .int c_t_refused, .int c_t_knocks, .int c_t_thrown])), (a_t_forms, .inl (cyJ, 6, .inr (.inl f_t_forms)))] s.heap := hP
  have hK0 := hK
  have hcB : s.vm.findClass "[B" = some cyB := (hK.2 1 _ rfl).2
  have hl := lv_entry ([.ref a_t, .int p0]) (n := 2) (Nat.le_of_ble_eq_true rfl)
  rw [lg_entry_eq]
  generalize (lg_sl ([.ref a_t, .int p0]) ++ List.replicate (2 - (lg_sl ([.ref a_t, .int p0])).length) Slot.unset).toArray = ls at hl ⊢
  have hl : lv_has ls 2 [(0, .ref a_t), (1, .int p0)] := hl
  have h := hF
  clear hF
  unfold F_X9_text at h
  refine lv_aload_n hx hb dX9_text_0 rfl (lv_at hl 0 rfl) ?_
  refine lv_iload_n hx hb dX9_text_1 rfl (lv_at hl 1 rfl) ?_
  obtain ⟨r2, hc2, h⟩ := obn_h h
  refine pz_callS (As := [.int p0]) (rest := [.ref a_t]) hcf (c_X9_isForm l p0 r2 hc2) (va_cwS 1 hts gX9_text_X9_isForm rfl rfl rfl ydX9_isForm ⟨Nat.le_of_ble_eq_true rfl, Nat.le_of_ble_eq_true rfl⟩) hnw rfl hl.1 rfl (Nat.le_of_ble_eq_true rfl) dX9_text_2 ⟨Nat.le_of_ble_eq_true rfl, Nat.le_of_ble_eq_true rfl⟩ ?_
  refine lv_if_ne (tgt := 12) hx hb dX9_text_5 (by decide) (fun c5 => ?_) (fun c5 => ?_)
  · have h := if_ c5 h
    refine lv_iconst (v := 0) hx hb dX9_text_12 (by decide) ?_
    obtain ⟨r13, c_t_thrown_13, hc13, h⟩ := obn2_h h
    have hPc := hP.sub (ws' := [(a_t, .inr (8, [.ref a_t_forms, .ref a_t_roll, .int c_t_many, .long c_t_taps, .int c_t_cells, .int c_t_acts, .int c_t_refused, .int c_t_knocks, .int c_t_thrown]))]) [0] rfl
    have hDc := hD.sub (ws' := [(a_t, .inr (8, [.ref a_t_forms, .ref a_t_roll, .int c_t_many, .long c_t_taps, .int c_t_cells, .int c_t_acts, .int c_t_refused, .int c_t_knocks, .int c_t_thrown]))]) [0] (by decide) rfl
    refine hp_i (w1 := [(a_t, .inr (8, [.ref a_t_forms, .ref a_t_roll, .int c_t_many, .long c_t_taps, .int c_t_cells, .int c_t_acts, .int c_t_refused, .int c_t_knocks, .int c_t_thrown_13]))]) (wr := [(a_t_forms, .inl (cyJ, 6, .inr (.inl f_t_forms)))]) (va_runV (As := [.int (0 : Int32)]) (rest := []) hcf (c_X9_isThrown_ l D cyJ s.heap.size a_t a_t_forms a_t_roll c_t_many c_t_taps c_t_cells c_t_acts c_t_refused c_t_knocks c_t_thrown (0 : Int32) r13 c_t_thrown_13 hc13) (cwV 1 hts gX9_text_X9_isThrown_ rfl rfl rfl ydX9_isThrown_ ⟨Nat.le_of_ble_eq_true rfl, Nat.le_of_ble_eq_true rfl⟩) ⟨bl_PD, va_recv hK hP (ci := 8) (q0 := 0) rfl rfl, pr_PD hPc (hK0.sub [0] rfl) hDc hnw⟩ rfl rfl hl.1 rfl (lv_room (Nat.le_of_ble_eq_true rfl)) dX9_text_13 ⟨Nat.le_of_ble_eq_true rfl, Nat.le_of_ble_eq_true rfl⟩) hP hD hS hA [0] [1] rfl rfl (by decide) (by decide) (fun H locs hP hD hS => ?_)
    have hP : va_P D vwCl [(a_t_forms, .inl (cyJ, 6, .inr (.inl f_t_forms))), (a_t, .inr (8, [.ref a_t_forms, .ref a_t_roll, .int c_t_many, .long c_t_taps, .int c_t_cells, .int c_t_acts, .int c_t_refused, .int c_t_knocks, .int c_t_thrown_13]))] H := hP
    have hD : va_D A [(a_t_forms, .inl (cyJ, 6, .inr (.inl f_t_forms))), (a_t, .inr (8, [.ref a_t_forms, .ref a_t_roll, .int c_t_many, .long c_t_taps, .int c_t_cells, .int c_t_acts, .int c_t_refused, .int c_t_knocks, .int c_t_thrown_13]))] := hD
    refine lv_if_eq (tgt := 24) hx hb dX9_text_16 (by decide) (fun c16 => ?_) (fun c16 => ?_)
    · have h := it_ c16 h
      refine lv_aload_n hx hb dX9_text_24 rfl (lv_at hl 0 rfl) ?_
      refine va_get (D := D) (ci := 8) (v := .ref a_t_forms) (C := RX9) (T := TX9) (N := 9) hx hb hts hinX9 hown hK hP 1 rfl rfl 0 (by decide) hfl9 (fun _ h9 => h9) rfl dX9_text_25 ?_
      refine lv_iload_n hx hb dX9_text_28 rfl (lv_at hl 1 rfl) ?_
      obtain ⟨hq29, h⟩ := chk_h h
      refine va_lald hx hb hK hP 0 0 rfl rfl hq29 dX9_text_29 ?_
      obtain ⟨u30, hc30, h⟩ := obn_h h
      have hPc := hP.sub (ws' := []) [] rfl
      have hDc := hD.sub (ws' := []) [] (by decide) rfl
      refine hp_r (wr := [(a_t_forms, .inl (cyJ, 6, .inr (.inl f_t_forms))), (a_t, .inr (8, [.ref a_t_forms, .ref a_t_roll, .int c_t_many, .long c_t_taps, .int c_t_cells, .int c_t_acts, .int c_t_refused, .int c_t_knocks, .int c_t_thrown_13]))]) (va_runS (As := [.long (f_t_forms p0.toNatClampNeg)]) (rest := []) hcf (c_X9_textOf l D cyJ cyB adK adV H.size (f_t_forms p0.toNatClampNeg) hc30) (va_cwS 1 hts gX9_text_X9_textOf rfl rfl rfl ydX9_textOf ⟨Nat.le_of_ble_eq_true rfl, Nat.le_of_ble_eq_true rfl⟩) ⟨bl_PDT, pr_PDT hPc hK0 hDc hnw hT hS (va_free hD hS hA [] rfl)⟩ rfl rfl hl.1 rfl (lv_room (Nat.le_of_ble_eq_true rfl)) dX9_text_30 ⟨Nat.le_of_ble_eq_true rfl, Nat.le_of_ble_eq_true rfl⟩) hP hD hS hA [] [0, 1] rfl rfl (by decide) (by decide) (fun u30 b_ret30_30 H locs hP hD hS => ?_)
      have hP : va_P D vwCl [(a_t_forms, .inl (cyJ, 6, .inr (.inl f_t_forms))), (a_t, .inr (8, [.ref a_t_forms, .ref a_t_roll, .int c_t_many, .long c_t_taps, .int c_t_cells, .int c_t_acts, .int c_t_refused, .int c_t_knocks, .int c_t_thrown_13]))] H := hP
      have hD : va_D A [(a_t_forms, .inl (cyJ, 6, .inr (.inl f_t_forms))), (a_t, .inr (8, [.ref a_t_forms, .ref a_t_roll, .int c_t_many, .long c_t_taps, .int c_t_cells, .int c_t_acts, .int c_t_refused, .int c_t_knocks, .int c_t_thrown_13]))] := hD
      have e1 := Option.some.inj h
      subst e1
      have hP9 : va_P D vwCl [(a_t, .inr (8, [.ref a_t_forms, .ref a_t_roll, .int c_t_many, .long c_t_taps, .int c_t_cells, .int c_t_acts, .int c_t_refused, .int c_t_knocks, .int c_t_thrown_13])), (a_t_forms, .inl (cyJ, 6, .inr (.inl f_t_forms)))] H := hP.sub [1, 0] rfl
      have hD9 : va_D A [(a_t, .inr (8, [.ref a_t_forms, .ref a_t_roll, .int c_t_many, .long c_t_taps, .int c_t_cells, .int c_t_acts, .int c_t_refused, .int c_t_knocks, .int c_t_thrown_13])), (a_t_forms, .inl (cyJ, 6, .inr (.inl f_t_forms)))] := hD.sub [1, 0] (by decide) rfl
      exact W.aret (v := .ref b_ret30_30) hx hb hr (Or.inl ⟨_, rfl⟩) (Or.inr ⟨_, rfl⟩) (fun t ht hW => ⟨⟨(), b_ret30_30, rfl, trivial, wQA_of ht hP9 hD9⟩, hS.F ht⟩) hS.2.2 dX9_text_33
    · have h := if_ c16 h
      refine va_ldcS hx hb hown (hT.2.2.2.2.1) dX9_text_19 ?_
      refine lv_goto (tgt := 33) hx hb dX9_text_21 (by decide) ?_
      have e1 := Option.some.inj h
      subst e1
      have hP9 : va_P D vwCl [(a_t, .inr (8, [.ref a_t_forms, .ref a_t_roll, .int c_t_many, .long c_t_taps, .int c_t_cells, .int c_t_acts, .int c_t_refused, .int c_t_knocks, .int c_t_thrown_13])), (a_t_forms, .inl (cyJ, 6, .inr (.inl f_t_forms)))] H := hP.sub [1, 0] rfl
      have hD9 : va_D A [(a_t, .inr (8, [.ref a_t_forms, .ref a_t_roll, .int c_t_many, .long c_t_taps, .int c_t_cells, .int c_t_acts, .int c_t_refused, .int c_t_knocks, .int c_t_thrown_13])), (a_t_forms, .inl (cyJ, 6, .inr (.inl f_t_forms)))] := hD.sub [1, 0] (by decide) rfl
      refine W.widen (k := 136) (n := 40208) (Nat.le_of_ble_eq_true rfl) (Nat.le_of_ble_eq_true rfl) ?_
      exact W.aret (v := .ref (adK 0)) hx hb hr (Or.inl ⟨_, rfl⟩) (Or.inr ⟨_, rfl⟩) (fun t ht hW => ⟨⟨(), (adK 0), rfl, trivial, wQA_of ht hP9 hD9⟩, hS.F ht⟩) hS.2.2 dX9_text_33
  · have h := it_ c5 h
    refine lv_iconst (v := 1) hx hb dX9_text_8 (by decide) ?_
    refine lv_goto (tgt := 13) hx hb dX9_text_9 (by decide) ?_
    obtain ⟨r13, c_t_thrown_13, hc13, h⟩ := obn2_h h
    have hPc := hP.sub (ws' := [(a_t, .inr (8, [.ref a_t_forms, .ref a_t_roll, .int c_t_many, .long c_t_taps, .int c_t_cells, .int c_t_acts, .int c_t_refused, .int c_t_knocks, .int c_t_thrown]))]) [0] rfl
    have hDc := hD.sub (ws' := [(a_t, .inr (8, [.ref a_t_forms, .ref a_t_roll, .int c_t_many, .long c_t_taps, .int c_t_cells, .int c_t_acts, .int c_t_refused, .int c_t_knocks, .int c_t_thrown]))]) [0] (by decide) rfl
    refine hp_i (w1 := [(a_t, .inr (8, [.ref a_t_forms, .ref a_t_roll, .int c_t_many, .long c_t_taps, .int c_t_cells, .int c_t_acts, .int c_t_refused, .int c_t_knocks, .int c_t_thrown_13]))]) (wr := [(a_t_forms, .inl (cyJ, 6, .inr (.inl f_t_forms)))]) (va_runV (As := [.int (1 : Int32)]) (rest := []) hcf (c_X9_isThrown_ l D cyJ s.heap.size a_t a_t_forms a_t_roll c_t_many c_t_taps c_t_cells c_t_acts c_t_refused c_t_knocks c_t_thrown (1 : Int32) r13 c_t_thrown_13 hc13) (cwV 1 hts gX9_text_X9_isThrown_ rfl rfl rfl ydX9_isThrown_ ⟨Nat.le_of_ble_eq_true rfl, Nat.le_of_ble_eq_true rfl⟩) ⟨bl_PD, va_recv hK hP (ci := 8) (q0 := 0) rfl rfl, pr_PD hPc (hK0.sub [0] rfl) hDc hnw⟩ rfl rfl hl.1 rfl (lv_room (Nat.le_of_ble_eq_true rfl)) dX9_text_13 ⟨Nat.le_of_ble_eq_true rfl, Nat.le_of_ble_eq_true rfl⟩) hP hD hS hA [0] [1] rfl rfl (by decide) (by decide) (fun H locs hP hD hS => ?_)
    have hP : va_P D vwCl [(a_t_forms, .inl (cyJ, 6, .inr (.inl f_t_forms))), (a_t, .inr (8, [.ref a_t_forms, .ref a_t_roll, .int c_t_many, .long c_t_taps, .int c_t_cells, .int c_t_acts, .int c_t_refused, .int c_t_knocks, .int c_t_thrown_13]))] H := hP
    have hD : va_D A [(a_t_forms, .inl (cyJ, 6, .inr (.inl f_t_forms))), (a_t, .inr (8, [.ref a_t_forms, .ref a_t_roll, .int c_t_many, .long c_t_taps, .int c_t_cells, .int c_t_acts, .int c_t_refused, .int c_t_knocks, .int c_t_thrown_13]))] := hD
    refine lv_if_eq (tgt := 24) hx hb dX9_text_16 (by decide) (fun c16 => ?_) (fun c16 => ?_)
    · have h := it_ c16 h
      refine lv_aload_n hx hb dX9_text_24 rfl (lv_at hl 0 rfl) ?_
      refine va_get (D := D) (ci := 8) (v := .ref a_t_forms) (C := RX9) (T := TX9) (N := 9) hx hb hts hinX9 hown hK hP 1 rfl rfl 0 (by decide) hfl9 (fun _ h9 => h9) rfl dX9_text_25 ?_
      refine lv_iload_n hx hb dX9_text_28 rfl (lv_at hl 1 rfl) ?_
      obtain ⟨hq29, h⟩ := chk_h h
      refine va_lald hx hb hK hP 0 0 rfl rfl hq29 dX9_text_29 ?_
      obtain ⟨u30, hc30, h⟩ := obn_h h
      have hPc := hP.sub (ws' := []) [] rfl
      have hDc := hD.sub (ws' := []) [] (by decide) rfl
      refine hp_r (wr := [(a_t_forms, .inl (cyJ, 6, .inr (.inl f_t_forms))), (a_t, .inr (8, [.ref a_t_forms, .ref a_t_roll, .int c_t_many, .long c_t_taps, .int c_t_cells, .int c_t_acts, .int c_t_refused, .int c_t_knocks, .int c_t_thrown_13]))]) (va_runS (As := [.long (f_t_forms p0.toNatClampNeg)]) (rest := []) hcf (c_X9_textOf l D cyJ cyB adK adV H.size (f_t_forms p0.toNatClampNeg) hc30) (va_cwS 1 hts gX9_text_X9_textOf rfl rfl rfl ydX9_textOf ⟨Nat.le_of_ble_eq_true rfl, Nat.le_of_ble_eq_true rfl⟩) ⟨bl_PDT, pr_PDT hPc hK0 hDc hnw hT hS (va_free hD hS hA [] rfl)⟩ rfl rfl hl.1 rfl (lv_room (Nat.le_of_ble_eq_true rfl)) dX9_text_30 ⟨Nat.le_of_ble_eq_true rfl, Nat.le_of_ble_eq_true rfl⟩) hP hD hS hA [] [0, 1] rfl rfl (by decide) (by decide) (fun u30 b_ret30_30 H locs hP hD hS => ?_)
      have hP : va_P D vwCl [(a_t_forms, .inl (cyJ, 6, .inr (.inl f_t_forms))), (a_t, .inr (8, [.ref a_t_forms, .ref a_t_roll, .int c_t_many, .long c_t_taps, .int c_t_cells, .int c_t_acts, .int c_t_refused, .int c_t_knocks, .int c_t_thrown_13]))] H := hP
      have hD : va_D A [(a_t_forms, .inl (cyJ, 6, .inr (.inl f_t_forms))), (a_t, .inr (8, [.ref a_t_forms, .ref a_t_roll, .int c_t_many, .long c_t_taps, .int c_t_cells, .int c_t_acts, .int c_t_refused, .int c_t_knocks, .int c_t_thrown_13]))] := hD
      have e1 := Option.some.inj h
      subst e1
      have hP9 : va_P D vwCl [(a_t, .inr (8, [.ref a_t_forms, .ref a_t_roll, .int c_t_many, .long c_t_taps, .int c_t_cells, .int c_t_acts, .int c_t_refused, .int c_t_knocks, .int c_t_thrown_13])), (a_t_forms, .inl (cyJ, 6, .inr (.inl f_t_forms)))] H := hP.sub [1, 0] rfl
      have hD9 : va_D A [(a_t, .inr (8, [.ref a_t_forms, .ref a_t_roll, .int c_t_many, .long c_t_taps, .int c_t_cells, .int c_t_acts, .int c_t_refused, .int c_t_knocks, .int c_t_thrown_13])), (a_t_forms, .inl (cyJ, 6, .inr (.inl f_t_forms)))] := hD.sub [1, 0] (by decide) rfl
      exact W.aret (v := .ref b_ret30_30) hx hb hr (Or.inl ⟨_, rfl⟩) (Or.inr ⟨_, rfl⟩) (fun t ht hW => ⟨⟨(), b_ret30_30, rfl, trivial, wQA_of ht hP9 hD9⟩, hS.F ht⟩) hS.2.2 dX9_text_33
    · have h := if_ c16 h
      refine va_ldcS hx hb hown (hT.2.2.2.2.1) dX9_text_19 ?_
      refine lv_goto (tgt := 33) hx hb dX9_text_21 (by decide) ?_
      have e1 := Option.some.inj h
      subst e1
      have hP9 : va_P D vwCl [(a_t, .inr (8, [.ref a_t_forms, .ref a_t_roll, .int c_t_many, .long c_t_taps, .int c_t_cells, .int c_t_acts, .int c_t_refused, .int c_t_knocks, .int c_t_thrown_13])), (a_t_forms, .inl (cyJ, 6, .inr (.inl f_t_forms)))] H := hP.sub [1, 0] rfl
      have hD9 : va_D A [(a_t, .inr (8, [.ref a_t_forms, .ref a_t_roll, .int c_t_many, .long c_t_taps, .int c_t_cells, .int c_t_acts, .int c_t_refused, .int c_t_knocks, .int c_t_thrown_13])), (a_t_forms, .inl (cyJ, 6, .inr (.inl f_t_forms)))] := hD.sub [1, 0] (by decide) rfl
      refine W.widen (k := 136) (n := 40208) (Nat.le_of_ble_eq_true rfl) (Nat.le_of_ble_eq_true rfl) ?_
      exact W.aret (v := .ref (adK 0)) hx hb hr (Or.inl ⟨_, rfl⟩) (Or.inr ⟨_, rfl⟩) (fun t ht hW => ⟨⟨(), (adK 0), rfl, trivial, wQA_of ht hP9 hD9⟩, hS.F ht⟩) hS.2.2 dX9_text_33
