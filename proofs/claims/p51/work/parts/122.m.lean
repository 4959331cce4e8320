noncomputable abbrev rmX9_order : Room := { frames := 2, cells := 0, slots := 0, locals := 43 }
theorem ydX9_order : yX9_order.cls = RX9 ∧ yX9_order.cls ≠ "java/lang/invoke/MethodHandle" ∧ yX9_order.cls ≠ "java/lang/invoke/VarHandle" ∧ (parseMethodDescriptor yX9_order.desc).map (fun d => d.parameters.length) = some 2 := by decide +kernel
noncomputable def F_X9_order (f_t_forms : Nat → Int64) (p0 : Int32) (p1 : Int32) : Option (Int32 × Int32) :=
 obn (F_X9_isForm p0) (fun r2 =>
 (if r2 = 0 then
 obn2 (F_X9_isThrown_ (1 : Int32)) (fun r20 c_t_thrown_20 =>
 (if r20 = 0 then
 chk (¬ (p0 < 0 ∨ 6 ≤ p0.toNatClampNeg)) (
 chk (¬ (p1 < 0 ∨ 6 ≤ p1.toNatClampNeg)) (
 (if (f_t_forms p1.toNatClampNeg) ≤ (f_t_forms p0.toNatClampNeg) then
 chk (¬ (p0 < 0 ∨ 6 ≤ p0.toNatClampNeg)) (
 chk (¬ (p1 < 0 ∨ 6 ≤ p1.toNatClampNeg)) (
 (if (f_t_forms p0.toNatClampNeg) ≤ (f_t_forms p1.toNatClampNeg) then
 some ((0 : Int32), c_t_thrown_20)
else
 some ((1 : Int32), c_t_thrown_20))))
else
 some ((-1 : Int32), c_t_thrown_20))))
else
 some ((0 : Int32), c_t_thrown_20)))
else
 obn (F_X9_isForm p1) (fun r9 =>
 (if r9 = 0 then
 obn2 (F_X9_isThrown_ (1 : Int32)) (fun r20 c_t_thrown_20 =>
 (if r20 = 0 then
 chk (¬ (p0 < 0 ∨ 6 ≤ p0.toNatClampNeg)) (
 chk (¬ (p1 < 0 ∨ 6 ≤ p1.toNatClampNeg)) (
 (if (f_t_forms p1.toNatClampNeg) ≤ (f_t_forms p0.toNatClampNeg) then
 chk (¬ (p0 < 0 ∨ 6 ≤ p0.toNatClampNeg)) (
 chk (¬ (p1 < 0 ∨ 6 ≤ p1.toNatClampNeg)) (
 (if (f_t_forms p0.toNatClampNeg) ≤ (f_t_forms p1.toNatClampNeg) then
 some ((0 : Int32), c_t_thrown_20)
else
 some ((1 : Int32), c_t_thrown_20))))
else
 some ((-1 : Int32), c_t_thrown_20))))
else
 some ((0 : Int32), c_t_thrown_20)))
else
 obn2 (F_X9_isThrown_ (0 : Int32)) (fun r20 c_t_thrown_20 =>
 (if r20 = 0 then
 chk (¬ (p0 < 0 ∨ 6 ≤ p0.toNatClampNeg)) (
 chk (¬ (p1 < 0 ∨ 6 ≤ p1.toNatClampNeg)) (
 (if (f_t_forms p1.toNatClampNeg) ≤ (f_t_forms p0.toNatClampNeg) then
 chk (¬ (p0 < 0 ∨ 6 ≤ p0.toNatClampNeg)) (
 chk (¬ (p1 < 0 ∨ 6 ≤ p1.toNatClampNeg)) (
 (if (f_t_forms p0.toNatClampNeg) ≤ (f_t_forms p1.toNatClampNeg) then
 some ((0 : Int32), c_t_thrown_20)
else
 some ((1 : Int32), c_t_thrown_20))))
else
 some ((-1 : Int32), c_t_thrown_20))))
else
 some ((0 : Int32), c_t_thrown_20)))))))
set_option maxHeartbeats 4000000 in
set_option maxRecDepth 100000 in
theorem c_X9_order (l : Launch) (D : va_G) (cyJ : ClassId) (sz : Nat) (a_t : Nat) (a_t_forms : Nat) (a_t_roll : Nat) (c_t_many : Int32) (c_t_taps : Int64) (c_t_cells : Int32) (c_t_acts : Int32) (c_t_refused : Int32) (c_t_knocks : Int32) (c_t_thrown : Int32) (f_t_forms : Nat → Int64) (p0 : Int32) (p1 : Int32) (r0 : Int32) (o_c_t_thrown : Int32) (hF : F_X9_order f_t_forms p0 p1 = some (r0, o_c_t_thrown)) : Met l yX9_order wsX9_order rmX9_order (va_Pc [.ref a_t, .int p0, .int p1] (wPD D [(cyJ, .long)] [(a_t, .inr (8, [.ref a_t_forms, .ref a_t_roll, .int c_t_many, .long c_t_taps, .int c_t_cells, .int c_t_acts, .int c_t_refused, .int c_t_knocks, .int c_t_thrown])), (a_t_forms, .inl (cyJ, 6, .inr (.inl f_t_forms)))] sz)) (va_Qi (fun (r : Int32) (_ : Unit) => r = r0) (fun _ t => wQA D [(a_t, .inr (8, [.ref a_t_forms, .ref a_t_roll, .int c_t_many, .long c_t_taps, .int c_t_cells, .int c_t_acts, .int c_t_refused, .int c_t_knocks, .int o_c_t_thrown])), (a_t_forms, .inl (cyJ, 6, .inr (.inl f_t_forms)))] (va_A [(a_t, .inr (8, [.ref a_t_forms, .ref a_t_roll, .int c_t_many, .long c_t_taps, .int c_t_cells, .int c_t_acts, .int c_t_refused, .int c_t_knocks, .int c_t_thrown])), (a_t_forms, .inl (cyJ, 6, .inr (.inl f_t_forms)))] sz) t) (va_A [(a_t, .inr (8, [.ref a_t_forms, .ref a_t_roll, .int c_t_many, .long c_t_taps, .int c_t_cells, .int c_t_acts, .int c_t_refused, .int c_t_knocks, .int c_t_thrown])), (a_t_forms, .inl (cyJ, 6, .inr (.inl f_t_forms)))] sz)) 0 0 (va_A [(a_t, .inr (8, [.ref a_t_forms, .ref a_t_roll, .int c_t_many, .long c_t_taps, .int c_t_cells, .int c_t_acts, .int c_t_refused, .int c_t_knocks, .int c_t_thrown])), (a_t_forms, .inl (cyJ, 6, .inr (.inl f_t_forms)))] sz) := by
  refine Met.ofW (cc := cX9_order) (maxL := 3) (ret := (some .int)) (by decide) rfl ?_
  intro p e s m args below meth c s₁ B hml hv
  obtain ⟨rfl, hsz, hP, hK, hD0, hnw⟩ := hv
  have hx := B.exec
  have hb := B.bytes
  have hr := B.returns
  have hts := atoms_spec (ws := wsX9_order) B.pre
  have hown : s.vm.findClass RX9 = some m.cls := findClass_of_methodNamed B.named
  have hlocks := B.notSynchronized
  have hcf : CallFix _ _ _ _ _ _ _ _ _ := ⟨hx, hb, hml, hown, hts⟩
  have hinX9 : ∀ w ∈ u_ws RX9 TX9 9, w ∈ wsX9_order := by decide +kernel
  have hfl9 := hts (.fieldLink RX9 9 "FormwheelModel" "forms" "[J") (by decide +kernel)
  subst hsz
  have hD := hD0.self (sz := s.heap.size)
  generalize hAe : va_A [(a_t, .inr (8, [.ref a_t_forms, .ref a_t_roll, .int c_t_many, .long c_t_taps, .int c_t_cells, .int c_t_acts, .int c_t_refused, .int c_t_knocks, .int c_t_thrown])), (a_t_forms, .inl (cyJ, 6, .inr (.inl f_t_forms)))] s.heap.size = A at hD ⊢
  have hA : ∀ q : Nat, s.heap.size ≤ q → A q := fun q h => by rw [← hAe]; exact Or.inr h
  have hS : va_S A s.heap s.heap [] := va_S.rf
  have hP : va_P D vwCl [(a_t, .inr (8, [.ref a_t_forms, .ref a_t_roll, .int c_t_many, .long c_t_taps, .int c_t_cells, .int c_t_acts, .int c_t_refused, .int c_t_knocks, .int c_t_thrown])), (a_t_forms, .inl (cyJ, 6, .inr (.inl f_t_forms)))] s.heap := hP
  have hK0 := hK
  have hl := lv_entry ([.ref a_t, .int p0, .int p1]) (n := 3) (Nat.le_of_ble_eq_true rfl)
  rw [lg_entry_eq]
  generalize (lg_sl ([.ref a_t, .int p0, .int p1]) ++ List.replicate (3 - (lg_sl ([.ref a_t, .int p0, .int p1])).length) Slot.unset).toArray = ls at hl ⊢
  have hl : lv_has ls 3 [(0, .ref a_t), (1, .int p0), (2, .int p1)] := hl
  have h := hF
  clear hF
  unfold F_X9_order at h
  refine lv_aload_n hx hb dX9_order_0 rfl (lv_at hl 0 rfl) ?_
  refine lv_iload_n hx hb dX9_order_1 rfl (lv_at hl 1 rfl) ?_
  obtain ⟨r2, hc2, h⟩ := obn_h h
  refine pz_callS (As := [.int p0]) (rest := [.ref a_t]) hcf (c_X9_isForm l p0 r2 hc2) (va_cwS 1 hts gX9_order_X9_isForm rfl rfl rfl ydX9_isForm ⟨Nat.le_of_ble_eq_true rfl, Nat.le_of_ble_eq_true rfl⟩) hnw rfl hl.1 rfl (Nat.le_of_ble_eq_true rfl) dX9_order_2 ⟨Nat.le_of_ble_eq_true rfl, Nat.le_of_ble_eq_true rfl⟩ ?_
  refine lv_if_eq (tgt := 15) hx hb dX9_order_5 (by decide) (fun c5 => ?_) (fun c5 => ?_)
  · have h := it_ c5 h
    refine lv_iconst (v := 1) hx hb dX9_order_15 (by decide) ?_
    refine lv_goto (tgt := 20) hx hb dX9_order_16 (by decide) ?_
    obtain ⟨r20, c_t_thrown_20, hc20, h⟩ := obn2_h h
    have hPc := hP.sub (ws' := [(a_t, .inr (8, [.ref a_t_forms, .ref a_t_roll, .int c_t_many, .long c_t_taps, .int c_t_cells, .int c_t_acts, .int c_t_refused, .int c_t_knocks, .int c_t_thrown]))]) [0] rfl
    have hDc := hD.sub (ws' := [(a_t, .inr (8, [.ref a_t_forms, .ref a_t_roll, .int c_t_many, .long c_t_taps, .int c_t_cells, .int c_t_acts, .int c_t_refused, .int c_t_knocks, .int c_t_thrown]))]) [0] (by decide) rfl
    refine hp_i (w1 := [(a_t, .inr (8, [.ref a_t_forms, .ref a_t_roll, .int c_t_many, .long c_t_taps, .int c_t_cells, .int c_t_acts, .int c_t_refused, .int c_t_knocks, .int c_t_thrown_20]))]) (wr := [(a_t_forms, .inl (cyJ, 6, .inr (.inl f_t_forms)))]) (va_runV (As := [.int (1 : Int32)]) (rest := []) hcf (c_X9_isThrown_ l D cyJ s.heap.size a_t a_t_forms a_t_roll c_t_many c_t_taps c_t_cells c_t_acts c_t_refused c_t_knocks c_t_thrown (1 : Int32) r20 c_t_thrown_20 hc20) (cwV 1 hts gX9_order_X9_isThrown_ rfl rfl rfl ydX9_isThrown_ ⟨Nat.le_of_ble_eq_true rfl, Nat.le_of_ble_eq_true rfl⟩) ⟨bl_PD, va_recv hK hP (ci := 8) (q0 := 0) rfl rfl, pr_PD hPc hK0 hDc hnw⟩ rfl rfl hl.1 rfl (lv_room (Nat.le_of_ble_eq_true rfl)) dX9_order_20 ⟨Nat.le_of_ble_eq_true rfl, Nat.le_of_ble_eq_true rfl⟩) hP hD hS hA [0] [1] rfl rfl (by decide) (by decide) (fun H locs hP hD hS => ?_)
    have hP : va_P D vwCl [(a_t_forms, .inl (cyJ, 6, .inr (.inl f_t_forms))), (a_t, .inr (8, [.ref a_t_forms, .ref a_t_roll, .int c_t_many, .long c_t_taps, .int c_t_cells, .int c_t_acts, .int c_t_refused, .int c_t_knocks, .int c_t_thrown_20]))] H := hP
    have hD : va_D A [(a_t_forms, .inl (cyJ, 6, .inr (.inl f_t_forms))), (a_t, .inr (8, [.ref a_t_forms, .ref a_t_roll, .int c_t_many, .long c_t_taps, .int c_t_cells, .int c_t_acts, .int c_t_refused, .int c_t_knocks, .int c_t_thrown_20]))] := hD
    refine lv_if_eq (tgt := 30) hx hb dX9_order_23 (by decide) (fun c23 => ?_) (fun c23 => ?_)
    · have h := it_ c23 h
      refine lv_aload_n hx hb dX9_order_30 rfl (lv_at hl 0 rfl) ?_
      refine va_get (D := D) (ci := 8) (v := .ref a_t_forms) (C := RX9) (T := TX9) (N := 9) hx hb hts hinX9 hown hK hP 1 rfl rfl 0 (by decide) hfl9 (fun _ h9 => h9) rfl dX9_order_31 ?_
      refine lv_iload_n hx hb dX9_order_34 rfl (lv_at hl 1 rfl) ?_
      obtain ⟨hq35, h⟩ := chk_h h
      refine va_lald hx hb hK hP 0 0 rfl rfl hq35 dX9_order_35 ?_
      refine lv_aload_n hx hb dX9_order_36 rfl (lv_at hl 0 rfl) ?_
      refine va_get (D := D) (ci := 8) (v := .ref a_t_forms) (C := RX9) (T := TX9) (N := 9) hx hb hts hinX9 hown hK hP 1 rfl rfl 0 (by decide) hfl9 (fun _ h9 => h9) rfl dX9_order_37 ?_
      refine lv_iload_n hx hb dX9_order_40 rfl (lv_at hl 2 rfl) ?_
      obtain ⟨hq41, h⟩ := chk_h h
      refine va_lald hx hb hK hP 0 0 rfl rfl hq41 dX9_order_41 ?_
      refine W.lcmp hx hb dX9_order_42 ?_
      refine lv_if_ge (tgt := 50) hx hb dX9_order_43 (by decide) (fun c43 => ?_) (fun c43 => ?_)
      · have c43 := (lg_cmp_ge _ _).mp c43
        have h := it_ c43 h
        refine lv_aload_n hx hb dX9_order_50 rfl (lv_at hl 0 rfl) ?_
        refine va_get (D := D) (ci := 8) (v := .ref a_t_forms) (C := RX9) (T := TX9) (N := 9) hx hb hts hinX9 hown hK hP 1 rfl rfl 0 (by decide) hfl9 (fun _ h9 => h9) rfl dX9_order_51 ?_
        refine lv_iload_n hx hb dX9_order_54 rfl (lv_at hl 1 rfl) ?_
        obtain ⟨hq55, h⟩ := chk_h h
        refine va_lald hx hb hK hP 0 0 rfl rfl hq55 dX9_order_55 ?_
        refine lv_aload_n hx hb dX9_order_56 rfl (lv_at hl 0 rfl) ?_
        refine va_get (D := D) (ci := 8) (v := .ref a_t_forms) (C := RX9) (T := TX9) (N := 9) hx hb hts hinX9 hown hK hP 1 rfl rfl 0 (by decide) hfl9 (fun _ h9 => h9) rfl dX9_order_57 ?_
        refine lv_iload_n hx hb dX9_order_60 rfl (lv_at hl 2 rfl) ?_
        obtain ⟨hq61, h⟩ := chk_h h
        refine va_lald hx hb hK hP 0 0 rfl rfl hq61 dX9_order_61 ?_
        refine W.lcmp hx hb dX9_order_62 ?_
        refine lv_if_le (tgt := 70) hx hb dX9_order_63 (by decide) (fun c63 => ?_) (fun c63 => ?_)
        · have c63 := (lg_cmp_le _ _).mp c63
          have h := it_ c63 h
          refine lv_iconst (v := 0) hx hb dX9_order_70 (by decide) ?_
          obtain ⟨e0, e1⟩ := tup2 h
          subst e0
          subst e1
          have hP9 : va_P D vwCl [(a_t, .inr (8, [.ref a_t_forms, .ref a_t_roll, .int c_t_many, .long c_t_taps, .int c_t_cells, .int c_t_acts, .int c_t_refused, .int c_t_knocks, .int c_t_thrown_20])), (a_t_forms, .inl (cyJ, 6, .inr (.inl f_t_forms)))] H := hP.sub [1, 0] rfl
          have hD9 : va_D A [(a_t, .inr (8, [.ref a_t_forms, .ref a_t_roll, .int c_t_many, .long c_t_taps, .int c_t_cells, .int c_t_acts, .int c_t_refused, .int c_t_knocks, .int c_t_thrown_20])), (a_t_forms, .inl (cyJ, 6, .inr (.inl f_t_forms)))] := hD.sub [1, 0] (by decide) rfl
          exact W.iret hx hb hr (fun t ht hW => ⟨⟨_, (), rfl, rfl, wQA_of ht hP9 hD9⟩, hS.F ht⟩) hS.2.2 dX9_order_71
        · have c63 := fun z => c63 ((lg_cmp_le _ _).mpr z)
          have h := if_ c63 h
          refine lv_iconst (v := 1) hx hb dX9_order_66 (by decide) ?_
          refine lv_goto (tgt := 71) hx hb dX9_order_67 (by decide) ?_
          obtain ⟨e0, e1⟩ := tup2 h
          subst e0
          subst e1
          have hP9 : va_P D vwCl [(a_t, .inr (8, [.ref a_t_forms, .ref a_t_roll, .int c_t_many, .long c_t_taps, .int c_t_cells, .int c_t_acts, .int c_t_refused, .int c_t_knocks, .int c_t_thrown_20])), (a_t_forms, .inl (cyJ, 6, .inr (.inl f_t_forms)))] H := hP.sub [1, 0] rfl
          have hD9 : va_D A [(a_t, .inr (8, [.ref a_t_forms, .ref a_t_roll, .int c_t_many, .long c_t_taps, .int c_t_cells, .int c_t_acts, .int c_t_refused, .int c_t_knocks, .int c_t_thrown_20])), (a_t_forms, .inl (cyJ, 6, .inr (.inl f_t_forms)))] := hD.sub [1, 0] (by decide) rfl
          exact W.iret hx hb hr (fun t ht hW => ⟨⟨_, (), rfl, rfl, wQA_of ht hP9 hD9⟩, hS.F ht⟩) hS.2.2 dX9_order_71
      · have c43 := fun z => c43 ((lg_cmp_ge _ _).mpr z)
        have h := if_ c43 h
        refine lv_iconst (v := -1) hx hb dX9_order_46 (by decide) ?_
        refine lv_goto (tgt := 71) hx hb dX9_order_47 (by decide) ?_
        obtain ⟨e0, e1⟩ := tup2 h
        subst e0
        subst e1
        have hP9 : va_P D vwCl [(a_t, .inr (8, [.ref a_t_forms, .ref a_t_roll, .int c_t_many, .long c_t_taps, .int c_t_cells, .int c_t_acts, .int c_t_refused, .int c_t_knocks, .int c_t_thrown_20])), (a_t_forms, .inl (cyJ, 6, .inr (.inl f_t_forms)))] H := hP.sub [1, 0] rfl
        have hD9 : va_D A [(a_t, .inr (8, [.ref a_t_forms, .ref a_t_roll, .int c_t_many, .long c_t_taps, .int c_t_cells, .int c_t_acts, .int c_t_refused, .int c_t_knocks, .int c_t_thrown_20])), (a_t_forms, .inl (cyJ, 6, .inr (.inl f_t_forms)))] := hD.sub [1, 0] (by decide) rfl
        exact W.iret hx hb hr (fun t ht hW => ⟨⟨_, (), rfl, rfl, wQA_of ht hP9 hD9⟩, hS.F ht⟩) hS.2.2 dX9_order_71
    · have h := if_ c23 h
      refine lv_iconst (v := 0) hx hb dX9_order_26 (by decide) ?_
      refine lv_goto (tgt := 71) hx hb dX9_order_27 (by decide) ?_
      obtain ⟨e0, e1⟩ := tup2 h
      subst e0
      subst e1
      have hP9 : va_P D vwCl [(a_t, .inr (8, [.ref a_t_forms, .ref a_t_roll, .int c_t_many, .long c_t_taps, .int c_t_cells, .int c_t_acts, .int c_t_refused, .int c_t_knocks, .int c_t_thrown_20])), (a_t_forms, .inl (cyJ, 6, .inr (.inl f_t_forms)))] H := hP.sub [1, 0] rfl
      have hD9 : va_D A [(a_t, .inr (8, [.ref a_t_forms, .ref a_t_roll, .int c_t_many, .long c_t_taps, .int c_t_cells, .int c_t_acts, .int c_t_refused, .int c_t_knocks, .int c_t_thrown_20])), (a_t_forms, .inl (cyJ, 6, .inr (.inl f_t_forms)))] := hD.sub [1, 0] (by decide) rfl
      exact W.iret hx hb hr (fun t ht hW => ⟨⟨_, (), rfl, rfl, wQA_of ht hP9 hD9⟩, hS.F ht⟩) hS.2.2 dX9_order_71
  · have h := if_ c5 h
    refine lv_iload_n hx hb dX9_order_8 rfl (lv_at hl 2 rfl) ?_
    obtain ⟨r9, hc9, h⟩ := obn_h h
    refine pz_callS (As := [.int p1]) (rest := [.ref a_t]) hcf (c_X9_isForm l p1 r9 hc9) (va_cwS 1 hts gX9_order_X9_isForm rfl rfl rfl ydX9_isForm ⟨Nat.le_of_ble_eq_true rfl, Nat.le_of_ble_eq_true rfl⟩) hnw rfl hl.1 rfl (Nat.le_of_ble_eq_true rfl) dX9_order_9 ⟨Nat.le_of_ble_eq_true rfl, Nat.le_of_ble_eq_true rfl⟩ ?_
    refine lv_if_ne (tgt := 19) hx hb dX9_order_12 (by decide) (fun c12 => ?_) (fun c12 => ?_)
    · have h := if_ c12 h
      refine lv_iconst (v := 0) hx hb dX9_order_19 (by decide) ?_
      obtain ⟨r20, c_t_thrown_20, hc20, h⟩ := obn2_h h
      have hPc := hP.sub (ws' := [(a_t, .inr (8, [.ref a_t_forms, .ref a_t_roll, .int c_t_many, .long c_t_taps, .int c_t_cells, .int c_t_acts, .int c_t_refused, .int c_t_knocks, .int c_t_thrown]))]) [0] rfl
      have hDc := hD.sub (ws' := [(a_t, .inr (8, [.ref a_t_forms, .ref a_t_roll, .int c_t_many, .long c_t_taps, .int c_t_cells, .int c_t_acts, .int c_t_refused, .int c_t_knocks, .int c_t_thrown]))]) [0] (by decide) rfl
      refine hp_i (w1 := [(a_t, .inr (8, [.ref a_t_forms, .ref a_t_roll, .int c_t_many, .long c_t_taps, .int c_t_cells, .int c_t_acts, .int c_t_refused, .int c_t_knocks, .int c_t_thrown_20]))]) (wr := [(a_t_forms, .inl (cyJ, 6, .inr (.inl f_t_forms)))]) (va_runV (As := [.int (0 : Int32)]) (rest := []) hcf (c_X9_isThrown_ l D cyJ s.heap.size a_t a_t_forms a_t_roll c_t_many c_t_taps c_t_cells c_t_acts c_t_refused c_t_knocks c_t_thrown (0 : Int32) r20 c_t_thrown_20 hc20) (cwV 1 hts gX9_order_X9_isThrown_ rfl rfl rfl ydX9_isThrown_ ⟨Nat.le_of_ble_eq_true rfl, Nat.le_of_ble_eq_true rfl⟩) ⟨bl_PD, va_recv hK hP (ci := 8) (q0 := 0) rfl rfl, pr_PD hPc hK0 hDc hnw⟩ rfl rfl hl.1 rfl (lv_room (Nat.le_of_ble_eq_true rfl)) dX9_order_20 ⟨Nat.le_of_ble_eq_true rfl, Nat.le_of_ble_eq_true rfl⟩) hP hD hS hA [0] [1] rfl rfl (by decide) (by decide) (fun H locs hP hD hS => ?_)
      have hP : va_P D vwCl [(a_t_forms, .inl (cyJ, 6, .inr (.inl f_t_forms))), (a_t, .inr (8, [.ref a_t_forms, .ref a_t_roll, .int c_t_many, .long c_t_taps, .int c_t_cells, .int c_t_acts, .int c_t_refused, .int c_t_knocks, .int c_t_thrown_20]))] H := hP
      have hD : va_D A [(a_t_forms, .inl (cyJ, 6, .inr (.inl f_t_forms))), (a_t, .inr (8, [.ref a_t_forms, .ref a_t_roll, .int c_t_many, .long c_t_taps, .int c_t_cells, .int c_t_acts, .int c_t_refused, .int c_t_knocks, .int c_t_thrown_20]))] := hD
      refine lv_if_eq (tgt := 30) hx hb dX9_order_23 (by decide) (fun c23 => ?_) (fun c23 => ?_)
      · have h := it_ c23 h
        refine lv_aload_n hx hb dX9_order_30 rfl (lv_at hl 0 rfl) ?_
        refine va_get (D := D) (ci := 8) (v := .ref a_t_forms) (C := RX9) (T := TX9) (N := 9) hx hb hts hinX9 hown hK hP 1 rfl rfl 0 (by decide) hfl9 (fun _ h9 => h9) rfl dX9_order_31 ?_
        refine lv_iload_n hx hb dX9_order_34 rfl (lv_at hl 1 rfl) ?_
        obtain ⟨hq35, h⟩ := chk_h h
        refine va_lald hx hb hK hP 0 0 rfl rfl hq35 dX9_order_35 ?_
        refine lv_aload_n hx hb dX9_order_36 rfl (lv_at hl 0 rfl) ?_
        refine va_get (D := D) (ci := 8) (v := .ref a_t_forms) (C := RX9) (T := TX9) (N := 9) hx hb hts hinX9 hown hK hP 1 rfl rfl 0 (by decide) hfl9 (fun _ h9 => h9) rfl dX9_order_37 ?_
        refine lv_iload_n hx hb dX9_order_40 rfl (lv_at hl 2 rfl) ?_
        obtain ⟨hq41, h⟩ := chk_h h
        refine va_lald hx hb hK hP 0 0 rfl rfl hq41 dX9_order_41 ?_
        refine W.lcmp hx hb dX9_order_42 ?_
        refine lv_if_ge (tgt := 50) hx hb dX9_order_43 (by decide) (fun c43 => ?_) (fun c43 => ?_)
        · have c43 := (lg_cmp_ge _ _).mp c43
          have h := it_ c43 h
          refine lv_aload_n hx hb dX9_order_50 rfl (lv_at hl 0 rfl) ?_
          refine va_get (D := D) (ci := 8) (v := .ref a_t_forms) (C := RX9) (T := TX9) (N := 9) hx hb hts hinX9 hown hK hP 1 rfl rfl 0 (by decide) hfl9 (fun _ h9 => h9) rfl dX9_order_51 ?_
          refine lv_iload_n hx hb dX9_order_54 rfl (lv_at hl 1 rfl) ?_
          obtain ⟨hq55, h⟩ := chk_h h
          refine va_lald hx hb hK hP 0 0 rfl rfl hq55 dX9_order_55 ?_
          refine lv_aload_n hx hb dX9_order_56 rfl (lv_at hl 0 rfl) ?_
          refine va_get (D := D) (ci := 8) (v := .ref a_t_forms) (C := RX9) (T := TX9) (N := 9) hx hb hts hinX9 hown hK hP 1 rfl rfl 0 (by decide) hfl9 (fun _ h9 => h9) rfl dX9_order_57 ?_
          refine lv_iload_n hx hb dX9_order_60 rfl (lv_at hl 2 rfl) ?_
          obtain ⟨hq61, h⟩ := chk_h h
          refine va_lald hx hb hK hP 0 0 rfl rfl hq61 dX9_order_61 ?_
          refine W.lcmp hx hb dX9_order_62 ?_
          refine lv_if_le (tgt := 70) hx hb dX9_order_63 (by decide) (fun c63 => ?_) (fun c63 => ?_)
          · have c63 := (lg_cmp_le _ _).mp c63
            have h := it_ c63 h
            refine lv_iconst (v := 0) hx hb dX9_order_70 (by decide) ?_
            obtain ⟨e0, e1⟩ := tup2 h
            subst e0
            subst e1
            have hP9 : va_P D vwCl [(a_t, .inr (8, [.ref a_t_forms, .ref a_t_roll, .int c_t_many, .long c_t_taps, .int c_t_cells, .int c_t_acts, .int c_t_refused, .int c_t_knocks, .int c_t_thrown_20])), (a_t_forms, .inl (cyJ, 6, .inr (.inl f_t_forms)))] H := hP.sub [1, 0] rfl
            have hD9 : va_D A [(a_t, .inr (8, [.ref a_t_forms, .ref a_t_roll, .int c_t_many, .long c_t_taps, .int c_t_cells, .int c_t_acts, .int c_t_refused, .int c_t_knocks, .int c_t_thrown_20])), (a_t_forms, .inl (cyJ, 6, .inr (.inl f_t_forms)))] := hD.sub [1, 0] (by decide) rfl
            exact W.iret hx hb hr (fun t ht hW => ⟨⟨_, (), rfl, rfl, wQA_of ht hP9 hD9⟩, hS.F ht⟩) hS.2.2 dX9_order_71
          · have c63 := fun z => c63 ((lg_cmp_le _ _).mpr z)
            have h := if_ c63 h
            refine lv_iconst (v := 1) hx hb dX9_order_66 (by decide) ?_
            refine lv_goto (tgt := 71) hx hb dX9_order_67 (by decide) ?_
            obtain ⟨e0, e1⟩ := tup2 h
            subst e0
            subst e1
            have hP9 : va_P D vwCl [(a_t, .inr (8, [.ref a_t_forms, .ref a_t_roll, .int c_t_many, .long c_t_taps, .int c_t_cells, .int c_t_acts, .int c_t_refused, .int c_t_knocks, .int c_t_thrown_20])), (a_t_forms, .inl (cyJ, 6, .inr (.inl f_t_forms)))] H := hP.sub [1, 0] rfl
            have hD9 : va_D A [(a_t, .inr (8, [.ref a_t_forms, .ref a_t_roll, .int c_t_many, .long c_t_taps, .int c_t_cells, .int c_t_acts, .int c_t_refused, .int c_t_knocks, .int c_t_thrown_20])), (a_t_forms, .inl (cyJ, 6, .inr (.inl f_t_forms)))] := hD.sub [1, 0] (by decide) rfl
            exact W.iret hx hb hr (fun t ht hW => ⟨⟨_, (), rfl, rfl, wQA_of ht hP9 hD9⟩, hS.F ht⟩) hS.2.2 dX9_order_71
        · have c43 := fun z => c43 ((lg_cmp_ge _ _).mpr z)
          have h := if_ c43 h
          refine lv_iconst (v := -1) hx hb dX9_order_46 (by decide) ?_
          refine lv_goto (tgt := 71) hx hb dX9_order_47 (by decide) ?_
          obtain ⟨e0, e1⟩ := tup2 h
          subst e0
          subst e1
          have hP9 : va_P D vwCl [(a_t, .inr (8, [.ref a_t_forms, .ref a_t_roll, .int c_t_many, .long c_t_taps, .int c_t_cells, .int c_t_acts, .int c_t_refused, .int c_t_knocks, .int c_t_thrown_20])), (a_t_forms, .inl (cyJ, 6, .inr (.inl f_t_forms)))] H := hP.sub [1, 0] rfl
          have hD9 : va_D A [(a_t, .inr (8, [.ref a_t_forms, .ref a_t_roll, .int c_t_many, .long c_t_taps, .int c_t_cells, .int c_t_acts, .int c_t_refused, .int c_t_knocks, .int c_t_thrown_20])), (a_t_forms, .inl (cyJ, 6, .inr (.inl f_t_forms)))] := hD.sub [1, 0] (by decide) rfl
          exact W.iret hx hb hr (fun t ht hW => ⟨⟨_, (), rfl, rfl, wQA_of ht hP9 hD9⟩, hS.F ht⟩) hS.2.2 dX9_order_71
      · have h := if_ c23 h
        refine lv_iconst (v := 0) hx hb dX9_order_26 (by decide) ?_
        refine lv_goto (tgt := 71) hx hb dX9_order_27 (by decide) ?_
        obtain ⟨e0, e1⟩ := tup2 h
        subst e0
        subst e1
        have hP9 : va_P D vwCl [(a_t, .inr (8, [.ref a_t_forms, .ref a_t_roll, .int c_t_many, .long c_t_taps, .int c_t_cells, .int c_t_acts, .int c_t_refused, .int c_t_knocks, .int c_t_thrown_20])), (a_t_forms, .inl (cyJ, 6, .inr (.inl f_t_forms)))] H := hP.sub [1, 0] rfl
        have hD9 : va_D A [(a_t, .inr (8, [.ref a_t_forms, .ref a_t_roll, .int c_t_many, .long c_t_taps, .int c_t_cells, .int c_t_acts, .int c_t_refused, .int c_t_knocks, .int c_t_thrown_20])), (a_t_forms, .inl (cyJ, 6, .inr (.inl f_t_forms)))] := hD.sub [1, 0] (by decide) rfl
        exact W.iret hx hb hr (fun t ht hW => ⟨⟨_, (), rfl, rfl, wQA_of ht hP9 hD9⟩, hS.F ht⟩) hS.2.2 dX9_order_71
    · have h := it_ c12 h
      refine lv_iconst (v := 1) hx hb dX9_order_15 (by decide) ?_
      refine lv_goto (tgt := 20) hx hb dX9_order_16 (by decide) ?_
      obtain ⟨r20, c_t_thrown_20, hc20, h⟩ := obn2_h h
      have hPc := hP.sub (ws' := [(a_t, .inr (8, [.ref a_t_forms, .ref a_t_roll, .int c_t_many, .long c_t_taps, .int c_t_cells, .int c_t_acts, .int c_t_refused, .int c_t_knocks, .int c_t_thrown]))]) [0] rfl
      have hDc := hD.sub (ws' := [(a_t, .inr (8, [.ref a_t_forms, .ref a_t_roll, .int c_t_many, .long c_t_taps, .int c_t_cells, .int c_t_acts, .int c_t_refused, .int c_t_knocks, .int c_t_thrown]))]) [0] (by decide) rfl
      refine hp_i (w1 := [(a_t, .inr (8, [.ref a_t_forms, .ref a_t_roll, .int c_t_many, .long c_t_taps, .int c_t_cells, .int c_t_acts, .int c_t_refused, .int c_t_knocks, .int c_t_thrown_20]))]) (wr := [(a_t_forms, .inl (cyJ, 6, .inr (.inl f_t_forms)))]) (va_runV (As := [.int (1 : Int32)]) (rest := []) hcf (c_X9_isThrown_ l D cyJ s.heap.size a_t a_t_forms a_t_roll c_t_many c_t_taps c_t_cells c_t_acts c_t_refused c_t_knocks c_t_thrown (1 : Int32) r20 c_t_thrown_20 hc20) (cwV 1 hts gX9_order_X9_isThrown_ rfl rfl rfl ydX9_isThrown_ ⟨Nat.le_of_ble_eq_true rfl, Nat.le_of_ble_eq_true rfl⟩) ⟨bl_PD, va_recv hK hP (ci := 8) (q0 := 0) rfl rfl, pr_PD hPc hK0 hDc hnw⟩ rfl rfl hl.1 rfl (lv_room (Nat.le_of_ble_eq_true rfl)) dX9_order_20 ⟨Nat.le_of_ble_eq_true rfl, Nat.le_of_ble_eq_true rfl⟩) hP hD hS hA [0] [1] rfl rfl (by decide) (by decide) (fun H locs hP hD hS => ?_)
      have hP : va_P D vwCl [(a_t_forms, .inl (cyJ, 6, .inr (.inl f_t_forms))), (a_t, .inr (8, [.ref a_t_forms, .ref a_t_roll, .int c_t_many, .long c_t_taps, .int c_t_cells, .int c_t_acts, .int c_t_refused, .int c_t_knocks, .int c_t_thrown_20]))] H := hP
      have hD : va_D A [(a_t_forms, .inl (cyJ, 6, .inr (.inl f_t_forms))), (a_t, .inr (8, [.ref a_t_forms, .ref a_t_roll, .int c_t_many, .long c_t_taps, .int c_t_cells, .int c_t_acts, .int c_t_refused, .int c_t_knocks, .int c_t_thrown_20]))] := hD
      refine lv_if_eq (tgt := 30) hx hb dX9_order_23 (by decide) (fun c23 => ?_) (fun c23 => ?_)
      · have h := it_ c23 h
        refine lv_aload_n hx hb dX9_order_30 rfl (lv_at hl 0 rfl) ?_
        refine va_get (D := D) (ci := 8) (v := .ref a_t_forms) (C := RX9) (T := TX9) (N := 9) hx hb hts hinX9 hown hK hP 1 rfl rfl 0 (by decide) hfl9 (fun _ h9 => h9) rfl dX9_order_31 ?_
        refine lv_iload_n hx hb dX9_order_34 rfl (lv_at hl 1 rfl) ?_
        obtain ⟨hq35, h⟩ := chk_h h
        refine va_lald hx hb hK hP 0 0 rfl rfl hq35 dX9_order_35 ?_
        refine lv_aload_n hx hb dX9_order_36 rfl (lv_at hl 0 rfl) ?_
        refine va_get (D := D) (ci := 8) (v := .ref a_t_forms) (C := RX9) (T := TX9) (N := 9) hx hb hts hinX9 hown hK hP 1 rfl rfl 0 (by decide) hfl9 (fun _ h9 => h9) rfl dX9_order_37 ?_
        refine lv_iload_n hx hb dX9_order_40 rfl (lv_at hl 2 rfl) ?_
        obtain ⟨hq41, h⟩ := chk_h h
        refine va_lald hx hb hK hP 0 0 rfl rfl hq41 dX9_order_41 ?_
        refine W.lcmp hx hb dX9_order_42 ?_
        refine lv_if_ge (tgt := 50) hx hb dX9_order_43 (by decide) (fun c43 => ?_) (fun c43 => ?_)
        · have c43 := (lg_cmp_ge _ _).mp c43
          have h := it_ c43 h
          refine lv_aload_n hx hb dX9_order_50 rfl (lv_at hl 0 rfl) ?_
          refine va_get (D := D) (ci := 8) (v := .ref a_t_forms) (C := RX9) (T := TX9) (N := 9) hx hb hts hinX9 hown hK hP 1 rfl rfl 0 (by decide) hfl9 (fun _ h9 => h9) rfl dX9_order_51 ?_
          refine lv_iload_n hx hb dX9_order_54 rfl (lv_at hl 1 rfl) ?_
          obtain ⟨hq55, h⟩ := chk_h h
          refine va_lald hx hb hK hP 0 0 rfl rfl hq55 dX9_order_55 ?_
          refine lv_aload_n hx hb dX9_order_56 rfl (lv_at hl 0 rfl) ?_
          refine va_get (D := D) (ci := 8) (v := .ref a_t_forms) (C := RX9) (T := TX9) (N := 9) hx hb hts hinX9 hown hK hP 1 rfl rfl 0 (by decide) hfl9 (fun _ h9 => h9) rfl dX9_order_57 ?_
          refine lv_iload_n hx hb dX9_order_60 rfl (lv_at hl 2 rfl) ?_
          obtain ⟨hq61, h⟩ := chk_h h
          refine va_lald hx hb hK hP 0 0 rfl rfl hq61 dX9_order_61 ?_
          refine W.lcmp hx hb dX9_order_62 ?_
          refine lv_if_le (tgt := 70) hx hb dX9_order_63 (by decide) (fun c63 => ?_) (fun c63 => ?_)
          · have c63 := (lg_cmp_le _ _).mp c63
            have h := it_ c63 h
            refine lv_iconst (v := 0) hx hb dX9_order_70 (by decide) ?_
            obtain ⟨e0, e1⟩ := tup2 h
            subst e0
            subst e1
            have hP9 : va_P D vwCl [(a_t, .inr (8, [.ref a_t_forms, .ref a_t_roll, .int c_t_many, .long c_t_taps, .int c_t_cells, .int c_t_acts, .int c_t_refused, .int c_t_knocks, .int c_t_thrown_20])), (a_t_forms, .inl (cyJ, 6, .inr (.inl f_t_forms)))] H := hP.sub [1, 0] rfl
            have hD9 : va_D A [(a_t, .inr (8, [.ref a_t_forms, .ref a_t_roll, .int c_t_many, .long c_t_taps, .int c_t_cells, .int c_t_acts, .int c_t_refused, .int c_t_knocks, .int c_t_thrown_20])), (a_t_forms, .inl (cyJ, 6, .inr (.inl f_t_forms)))] := hD.sub [1, 0] (by decide) rfl
            exact W.iret hx hb hr (fun t ht hW => ⟨⟨_, (), rfl, rfl, wQA_of ht hP9 hD9⟩, hS.F ht⟩) hS.2.2 dX9_order_71
          · have c63 := fun z => c63 ((lg_cmp_le _ _).mpr z)
            have h := if_ c63 h
            refine lv_iconst (v := 1) hx hb dX9_order_66 (by decide) ?_
            refine lv_goto (tgt := 71) hx hb dX9_order_67 (by decide) ?_
            obtain ⟨e0, e1⟩ := tup2 h
            subst e0
            subst e1
            have hP9 : va_P D vwCl [(a_t, .inr (8, [.ref a_t_forms, .ref a_t_roll, .int c_t_many, .long c_t_taps, .int c_t_cells, .int c_t_acts, .int c_t_refused, .int c_t_knocks, .int c_t_thrown_20])), (a_t_forms, .inl (cyJ, 6, .inr (.inl f_t_forms)))] H := hP.sub [1, 0] rfl
            have hD9 : va_D A [(a_t, .inr (8, [.ref a_t_forms, .ref a_t_roll, .int c_t_many, .long c_t_taps, .int c_t_cells, .int c_t_acts, .int c_t_refused, .int c_t_knocks, .int c_t_thrown_20])), (a_t_forms, .inl (cyJ, 6, .inr (.inl f_t_forms)))] := hD.sub [1, 0] (by decide) rfl
            exact W.iret hx hb hr (fun t ht hW => ⟨⟨_, (), rfl, rfl, wQA_of ht hP9 hD9⟩, hS.F ht⟩) hS.2.2 dX9_order_71
        · have c43 := fun z => c43 ((lg_cmp_ge _ _).mpr z)
          have h := if_ c43 h
          refine lv_iconst (v := -1) hx hb dX9_order_46 (by decide) ?_
          refine lv_goto (tgt := 71) hx hb dX9_order_47 (by decide) ?_
          obtain ⟨e0, e1⟩ := tup2 h
          subst e0
          subst e1
          have hP9 : va_P D vwCl [(a_t, .inr (8, [.ref a_t_forms, .ref a_t_roll, .int c_t_many, .long c_t_taps, .int c_t_cells, .int c_t_acts, .int c_t_refused, .int c_t_knocks, .int c_t_thrown_20])), (a_t_forms, .inl (cyJ, 6, .inr (.inl f_t_forms)))] H := hP.sub [1, 0] rfl
          have hD9 : va_D A [(a_t, .inr (8, [.ref a_t_forms, .ref a_t_roll, .int c_t_many, .long c_t_taps, .int c_t_cells, .int c_t_acts, .int c_t_refused, .int c_t_knocks, .int c_t_thrown_20])), (a_t_forms, .inl (cyJ, 6, .inr (.inl f_t_forms)))] := hD.sub [1, 0] (by decide) rfl
          exact W.iret hx hb hr (fun t ht hW => ⟨⟨_, (), rfl, rfl, wQA_of ht hP9 hD9⟩, hS.F ht⟩) hS.2.2 dX9_order_71
      · have h := if_ c23 h
        refine lv_iconst (v := 0) hx hb dX9_order_26 (by decide) ?_
        refine lv_goto (tgt := 71) hx hb dX9_order_27 (by decide) ?_
        obtain ⟨e0, e1⟩ := tup2 h
        subst e0
        subst e1
        have hP9 : va_P D vwCl [(a_t, .inr (8, [.ref a_t_forms, .ref a_t_roll, .int c_t_many, .long c_t_taps, .int c_t_cells, .int c_t_acts, .int c_t_refused, .int c_t_knocks, .int c_t_thrown_20])), (a_t_forms, .inl (cyJ, 6, .inr (.inl f_t_forms)))] H := hP.sub [1, 0] rfl
        have hD9 : va_D A [(a_t, .inr (8, [.ref a_t_forms, .ref a_t_roll, .int c_t_many, .long c_t_taps, .int c_t_cells, .int c_t_acts, .int c_t_refused, .int c_t_knocks, .int c_t_thrown_20])), (a_t_forms, .inl (cyJ, 6, .inr (.inl f_t_forms)))] := hD.sub [1, 0] (by decide) rfl
        exact W.iret hx hb hr (fun t ht hW => ⟨⟨_, (), rfl, rfl, wQA_of ht hP9 hD9⟩, hS.F ht⟩) hS.2.2 dX9_order_71

noncomputable abbrev rmX9_divides : Room := { frames := 6, cells := 0, slots := 0, locals := 139 }
theorem ydX9_divides : yX9_divides.cls = RX9 ∧ yX9_divides.cls ≠ "java/lang/invoke/MethodHandle" ∧ yX9_divides.cls ≠ "java/lang/invoke/VarHandle" ∧ (parseMethodDescriptor yX9_divides.desc).map (fun d => d.parameters.length) = some 2 := by decide +kernel
noncomputable def F_X9_divides (f_t_forms : Nat → Int64) (p0 : Int32) (p1 : Int32) : Option (Int32 × Int32) :=
 obn (F_X9_isForm p0) (fun r2 =>
 (if r2 = 0 then
 obn2 (F_X9_isThrown_ (1 : Int32)) (fun r20 c_t_thrown_20 =>
 (if r20 = 0 then
 chk (¬ (p1 < 0 ∨ 6 ≤ p1.toNatClampNeg)) (
 chk (¬ (p0 < 0 ∨ 6 ≤ p0.toNatClampNeg)) (
 obn (F_X9_isDivided (f_t_forms p1.toNatClampNeg) (f_t_forms p0.toNatClampNeg)) (fun r38 =>
 (if r38 = 0 then
 some ((0 : Int32), c_t_thrown_20)
else
 some ((1 : Int32), c_t_thrown_20)))))
else
 some ((0 : Int32), c_t_thrown_20)))
else
 obn (F_X9_isForm p1) (fun r9 =>
 (if r9 = 0 then
 obn2 (F_X9_isThrown_ (1 : Int32)) (fun r20 c_t_thrown_20 =>
 (if r20 = 0 then
 chk (¬ (p1 < 0 ∨ 6 ≤ p1.toNatClampNeg)) (
 chk (¬ (p0 < 0 ∨ 6 ≤ p0.toNatClampNeg)) (
 obn (F_X9_isDivided (f_t_forms p1.toNatClampNeg) (f_t_forms p0.toNatClampNeg)) (fun r38 =>
 (if r38 = 0 then
 some ((0 : Int32), c_t_thrown_20)
else
 some ((1 : Int32), c_t_thrown_20)))))
else
 some ((0 : Int32), c_t_thrown_20)))
else
 obn2 (F_X9_isThrown_ (0 : Int32)) (fun r20 c_t_thrown_20 =>
 (if r20 = 0 then
 chk (¬ (p1 < 0 ∨ 6 ≤ p1.toNatClampNeg)) (
 chk (¬ (p0 < 0 ∨ 6 ≤ p0.toNatClampNeg)) (
 obn (F_X9_isDivided (f_t_forms p1.toNatClampNeg) (f_t_forms p0.toNatClampNeg)) (fun r38 =>
 (if r38 = 0 then
 some ((0 : Int32), c_t_thrown_20)
else
 some ((1 : Int32), c_t_thrown_20)))))
else
 some ((0 : Int32), c_t_thrown_20)))))))
set_option maxHeartbeats 4000000 in
set_option maxRecDepth 100000 in
theorem c_X9_divides (l : Launch) (D : va_G) (cyJ : ClassId) (sz : Nat) (a_t : Nat) (a_t_forms : Nat) (a_t_roll : Nat) (c_t_many : Int32) (c_t_taps : Int64) (c_t_cells : Int32) (c_t_acts : Int32) (c_t_refused : Int32) (c_t_knocks : Int32) (c_t_thrown : Int32) (f_t_forms : Nat → Int64) (p0 : Int32) (p1 : Int32) (r0 : Int32) (o_c_t_thrown : Int32) (hF : F_X9_divides f_t_forms p0 p1 = some (r0, o_c_t_thrown)) : Met l yX9_divides wsX9_divides rmX9_divides (va_Pc [.ref a_t, .int p0, .int p1] (wPD D [(cyJ, .long)] [(a_t, .inr (8, [.ref a_t_forms, .ref a_t_roll, .int c_t_many, .long c_t_taps, .int c_t_cells, .int c_t_acts, .int c_t_refused, .int c_t_knocks, .int c_t_thrown])), (a_t_forms, .inl (cyJ, 6, .inr (.inl f_t_forms)))] sz)) (va_Qi (fun (r : Int32) (_ : Unit) => r = r0) (fun _ t => wQA D [(a_t, .inr (8, [.ref a_t_forms, .ref a_t_roll, .int c_t_many, .long c_t_taps, .int c_t_cells, .int c_t_acts, .int c_t_refused, .int c_t_knocks, .int o_c_t_thrown])), (a_t_forms, .inl (cyJ, 6, .inr (.inl f_t_forms)))] (va_A [(a_t, .inr (8, [.ref a_t_forms, .ref a_t_roll, .int c_t_many, .long c_t_taps, .int c_t_cells, .int c_t_acts, .int c_t_refused, .int c_t_knocks, .int c_t_thrown])), (a_t_forms, .inl (cyJ, 6, .inr (.inl f_t_forms)))] sz) t) (va_A [(a_t, .inr (8, [.ref a_t_forms, .ref a_t_roll, .int c_t_many, .long c_t_taps, .int c_t_cells, .int c_t_acts, .int c_t_refused, .int c_t_knocks, .int c_t_thrown])), (a_t_forms, .inl (cyJ, 6, .inr (.inl f_t_forms)))] sz)) 0 0 (va_A [(a_t, .inr (8, [.ref a_t_forms, .ref a_t_roll, .int c_t_many, .long c_t_taps, .int c_t_cells, .int c_t_acts, .int c_t_refused, .int c_t_knocks, .int c_t_thrown])), (a_t_forms, .inl (cyJ, 6, .inr (.inl f_t_forms)))] sz) := by
  refine Met.ofW (cc := cX9_divides) (maxL := 3) (ret := (some .boolean)) (by decide) rfl ?_
  intro p e s m args below meth c s₁ B hml hv
  obtain ⟨rfl, hsz, hP, hK, hD0, hnw⟩ := hv
  have hx := B.exec
  have hb := B.bytes
  have hr := B.returns
  have hts := atoms_spec (ws := wsX9_divides) B.pre
  have hown : s.vm.findClass RX9 = some m.cls := findClass_of_methodNamed B.named
  have hlocks := B.notSynchronized
  have hcf : CallFix _ _ _ _ _ _ _ _ _ := ⟨hx, hb, hml, hown, hts⟩
  have hinX9 : ∀ w ∈ u_ws RX9 TX9 9, w ∈ wsX9_divides := by decide +kernel
  have hfl9 := hts (.fieldLink RX9 9 "FormwheelModel" "forms" "[J") (by decide +kernel)
  subst hsz
  have hD := hD0.self (sz := s.heap.size)
  generalize hAe : va_A [(a_t, .inr (8, [.ref a_t_forms, .ref a_t_roll, .int c_t_many, .long c_t_taps, .int c_t_cells, .int c_t_acts, .int c_t_refused, .int c_t_knocks, .int c_t_thrown])), (a_t_forms, .inl (cyJ, 6, .inr (.inl f_t_forms)))] s.heap.size = A at hD ⊢
  have hA : ∀ q : Nat, s.heap.size ≤ q → A q := fun q h => by rw [← hAe]; exact Or.inr h
  have hS : va_S A s.heap s.heap [] := va_S.rf
  have hP : va_P D vwCl [(a_t, .inr (8, [.ref a_t_forms, .ref a_t_roll, .int c_t_many, .long c_t_taps, .int c_t_cells, .int c_t_acts, .int c_t_refused, .int c_t_knocks, .int c_t_thrown])), (a_t_forms, .inl (cyJ, 6, .inr (.inl f_t_forms)))] s.heap := hP
  have hK0 := hK
  have hl := lv_entry ([.ref a_t, .int p0, .int p1]) (n := 3) (Nat.le_of_ble_eq_true rfl)
  rw [lg_entry_eq]
  generalize (lg_sl ([.ref a_t, .int p0, .int p1]) ++ List.replicate (3 - (lg_sl ([.ref a_t, .int p0, .int p1])).length) Slot.unset).toArray = ls at hl ⊢
  have hl : lv_has ls 3 [(0, .ref a_t), (1, .int p0), (2, .int p1)] := hl
  have h := hF
  clear hF
  unfold F_X9_divides at h
  refine lv_aload_n hx hb dX9_divides_0 rfl (lv_at hl 0 rfl) ?_
  refine lv_iload_n hx hb dX9_divides_1 rfl (lv_at hl 1 rfl) ?_
  obtain ⟨r2, hc2, h⟩ := obn_h h
  refine pz_callS (As := [.int p0]) (rest := [.ref a_t]) hcf (c_X9_isForm l p0 r2 hc2) (va_cwS 1 hts gX9_divides_X9_isForm rfl rfl rfl ydX9_isForm ⟨Nat.le_of_ble_eq_true rfl, Nat.le_of_ble_eq_true rfl⟩) hnw rfl hl.1 rfl (Nat.le_of_ble_eq_true rfl) dX9_divides_2 ⟨Nat.le_of_ble_eq_true rfl, Nat.le_of_ble_eq_true rfl⟩ ?_
  refine lv_if_eq (tgt := 15) hx hb dX9_divides_5 (by decide) (fun c5 => ?_) (fun c5 => ?_)
  · have h := it_ c5 h
    refine lv_iconst (v := 1) hx hb dX9_divides_15 (by decide) ?_
    refine lv_goto (tgt := 20) hx hb dX9_divides_16 (by decide) ?_
    obtain ⟨r20, c_t_thrown_20, hc20, h⟩ := obn2_h h
    have hPc := hP.sub (ws' := [(a_t, .inr (8, [.ref a_t_forms, .ref a_t_roll, .int c_t_many, .long c_t_taps, .int c_t_cells, .int c_t_acts, .int c_t_refused, .int c_t_knocks, .int c_t_thrown]))]) [0] rfl
    have hDc := hD.sub (ws' := [(a_t, .inr (8, [.ref a_t_forms, .ref a_t_roll, .int c_t_many, .long c_t_taps, .int c_t_cells, .int c_t_acts, .int c_t_refused, .int c_t_knocks, .int c_t_thrown]))]) [0] (by decide) rfl
    refine hp_i (w1 := [(a_t, .inr (8, [.ref a_t_forms, .ref a_t_roll, .int c_t_many, .long c_t_taps, .int c_t_cells, .int c_t_acts, .int c_t_refused, .int c_t_knocks, .int c_t_thrown_20]))]) (wr := [(a_t_forms, .inl (cyJ, 6, .inr (.inl f_t_forms)))]) (va_runV (As := [.int (1 : Int32)]) (rest := []) hcf (c_X9_isThrown_ l D cyJ s.heap.size a_t a_t_forms a_t_roll c_t_many c_t_taps c_t_cells c_t_acts c_t_refused c_t_knocks c_t_thrown (1 : Int32) r20 c_t_thrown_20 hc20) (cwV 1 hts gX9_divides_X9_isThrown_ rfl rfl rfl ydX9_isThrown_ ⟨Nat.le_of_ble_eq_true rfl, Nat.le_of_ble_eq_true rfl⟩) ⟨bl_PD, va_recv hK hP (ci := 8) (q0 := 0) rfl rfl, pr_PD hPc hK0 hDc hnw⟩ rfl rfl hl.1 rfl (lv_room (Nat.le_of_ble_eq_true rfl)) dX9_divides_20 ⟨Nat.le_of_ble_eq_true rfl, Nat.le_of_ble_eq_true rfl⟩) hP hD hS hA [0] [1] rfl rfl (by decide) (by decide) (fun H locs hP hD hS => ?_)
    have hP : va_P D vwCl [(a_t_forms, .inl (cyJ, 6, .inr (.inl f_t_forms))), (a_t, .inr (8, [.ref a_t_forms, .ref a_t_roll, .int c_t_many, .long c_t_taps, .int c_t_cells, .int c_t_acts, .int c_t_refused, .int c_t_knocks, .int c_t_thrown_20]))] H := hP
    have hD : va_D A [(a_t_forms, .inl (cyJ, 6, .inr (.inl f_t_forms))), (a_t, .inr (8, [.ref a_t_forms, .ref a_t_roll, .int c_t_many, .long c_t_taps, .int c_t_cells, .int c_t_acts, .int c_t_refused, .int c_t_knocks, .int c_t_thrown_20]))] := hD
    refine lv_if_ne (tgt := 48) hx hb dX9_divides_23 (by decide) (fun c23 => ?_) (fun c23 => ?_)
    · have h := if_ c23 h
      refine lv_iconst (v := 0) hx hb dX9_divides_48 (by decide) ?_
      obtain ⟨e0, e1⟩ := tup2 h
      subst e0
      subst e1
      have hP9 : va_P D vwCl [(a_t, .inr (8, [.ref a_t_forms, .ref a_t_roll, .int c_t_many, .long c_t_taps, .int c_t_cells, .int c_t_acts, .int c_t_refused, .int c_t_knocks, .int c_t_thrown_20])), (a_t_forms, .inl (cyJ, 6, .inr (.inl f_t_forms)))] H := hP.sub [1, 0] rfl
      have hD9 : va_D A [(a_t, .inr (8, [.ref a_t_forms, .ref a_t_roll, .int c_t_many, .long c_t_taps, .int c_t_cells, .int c_t_acts, .int c_t_refused, .int c_t_knocks, .int c_t_thrown_20])), (a_t_forms, .inl (cyJ, 6, .inr (.inl f_t_forms)))] := hD.sub [1, 0] (by decide) rfl
      exact W.zret hx hb hr narrow_b0 (fun t ht hW => ⟨⟨_, (), rfl, rfl, wQA_of ht hP9 hD9⟩, hS.F ht⟩) hS.2.2 dX9_divides_49
    · have h := it_ c23 h
      refine lv_aload_n hx hb dX9_divides_26 rfl (lv_at hl 0 rfl) ?_
      refine va_get (D := D) (ci := 8) (v := .ref a_t_forms) (C := RX9) (T := TX9) (N := 9) hx hb hts hinX9 hown hK hP 1 rfl rfl 0 (by decide) hfl9 (fun _ h9 => h9) rfl dX9_divides_27 ?_
      refine lv_iload_n hx hb dX9_divides_30 rfl (lv_at hl 2 rfl) ?_
      obtain ⟨hq31, h⟩ := chk_h h
      refine va_lald hx hb hK hP 0 0 rfl rfl hq31 dX9_divides_31 ?_
      refine lv_aload_n hx hb dX9_divides_32 rfl (lv_at hl 0 rfl) ?_
      refine va_get (D := D) (ci := 8) (v := .ref a_t_forms) (C := RX9) (T := TX9) (N := 9) hx hb hts hinX9 hown hK hP 1 rfl rfl 0 (by decide) hfl9 (fun _ h9 => h9) rfl dX9_divides_33 ?_
      refine lv_iload_n hx hb dX9_divides_36 rfl (lv_at hl 1 rfl) ?_
      obtain ⟨hq37, h⟩ := chk_h h
      refine va_lald hx hb hK hP 0 0 rfl rfl hq37 dX9_divides_37 ?_
      obtain ⟨r38, hc38, h⟩ := obn_h h
      refine pz_callS (As := [.long (f_t_forms p1.toNatClampNeg), .long (f_t_forms p0.toNatClampNeg)]) (rest := []) hcf (c_X9_isDivided l (f_t_forms p1.toNatClampNeg) (f_t_forms p0.toNatClampNeg) r38 hc38) (va_cwS 2 hts gX9_divides_X9_isDivided rfl rfl rfl ydX9_isDivided ⟨Nat.le_of_ble_eq_true rfl, Nat.le_of_ble_eq_true rfl⟩) hnw rfl hl.1 rfl (Nat.le_of_ble_eq_true rfl) dX9_divides_38 ⟨Nat.le_of_ble_eq_true rfl, Nat.le_of_ble_eq_true rfl⟩ ?_
      refine lv_if_eq (tgt := 48) hx hb dX9_divides_41 (by decide) (fun c41 => ?_) (fun c41 => ?_)
      · have h := it_ c41 h
        refine lv_iconst (v := 0) hx hb dX9_divides_48 (by decide) ?_
        obtain ⟨e0, e1⟩ := tup2 h
        subst e0
        subst e1
        have hP9 : va_P D vwCl [(a_t, .inr (8, [.ref a_t_forms, .ref a_t_roll, .int c_t_many, .long c_t_taps, .int c_t_cells, .int c_t_acts, .int c_t_refused, .int c_t_knocks, .int c_t_thrown_20])), (a_t_forms, .inl (cyJ, 6, .inr (.inl f_t_forms)))] H := hP.sub [1, 0] rfl
        have hD9 : va_D A [(a_t, .inr (8, [.ref a_t_forms, .ref a_t_roll, .int c_t_many, .long c_t_taps, .int c_t_cells, .int c_t_acts, .int c_t_refused, .int c_t_knocks, .int c_t_thrown_20])), (a_t_forms, .inl (cyJ, 6, .inr (.inl f_t_forms)))] := hD.sub [1, 0] (by decide) rfl
        exact W.zret hx hb hr narrow_b0 (fun t ht hW => ⟨⟨_, (), rfl, rfl, wQA_of ht hP9 hD9⟩, hS.F ht⟩) hS.2.2 dX9_divides_49
      · have h := if_ c41 h
        refine lv_iconst (v := 1) hx hb dX9_divides_44 (by decide) ?_
        refine lv_goto (tgt := 49) hx hb dX9_divides_45 (by decide) ?_
        obtain ⟨e0, e1⟩ := tup2 h
        subst e0
        subst e1
        have hP9 : va_P D vwCl [(a_t, .inr (8, [.ref a_t_forms, .ref a_t_roll, .int c_t_many, .long c_t_taps, .int c_t_cells, .int c_t_acts, .int c_t_refused, .int c_t_knocks, .int c_t_thrown_20])), (a_t_forms, .inl (cyJ, 6, .inr (.inl f_t_forms)))] H := hP.sub [1, 0] rfl
        have hD9 : va_D A [(a_t, .inr (8, [.ref a_t_forms, .ref a_t_roll, .int c_t_many, .long c_t_taps, .int c_t_cells, .int c_t_acts, .int c_t_refused, .int c_t_knocks, .int c_t_thrown_20])), (a_t_forms, .inl (cyJ, 6, .inr (.inl f_t_forms)))] := hD.sub [1, 0] (by decide) rfl
        exact W.zret hx hb hr narrow_b1 (fun t ht hW => ⟨⟨_, (), rfl, rfl, wQA_of ht hP9 hD9⟩, hS.F ht⟩) hS.2.2 dX9_divides_49
  · have h := if_ c5 h
    refine lv_iload_n hx hb dX9_divides_8 rfl (lv_at hl 2 rfl) ?_
    obtain ⟨r9, hc9, h⟩ := obn_h h
    refine pz_callS (As := [.int p1]) (rest := [.ref a_t]) hcf (c_X9_isForm l p1 r9 hc9) (va_cwS 1 hts gX9_divides_X9_isForm rfl rfl rfl ydX9_isForm ⟨Nat.le_of_ble_eq_true rfl, Nat.le_of_ble_eq_true rfl⟩) hnw rfl hl.1 rfl (Nat.le_of_ble_eq_true rfl) dX9_divides_9 ⟨Nat.le_of_ble_eq_true rfl, Nat.le_of_ble_eq_true rfl⟩ ?_
    refine lv_if_ne (tgt := 19) hx hb dX9_divides_12 (by decide) (fun c12 => ?_) (fun c12 => ?_)
    · have h := if_ c12 h
      refine lv_iconst (v := 0) hx hb dX9_divides_19 (by decide) ?_
      obtain ⟨r20, c_t_thrown_20, hc20, h⟩ := obn2_h h
      have hPc := hP.sub (ws' := [(a_t, .inr (8, [.ref a_t_forms, .ref a_t_roll, .int c_t_many, .long c_t_taps, .int c_t_cells, .int c_t_acts, .int c_t_refused, .int c_t_knocks, .int c_t_thrown]))]) [0] rfl
      have hDc := hD.sub (ws' := [(a_t, .inr (8, [.ref a_t_forms, .ref a_t_roll, .int c_t_many, .long c_t_taps, .int c_t_cells, .int c_t_acts, .int c_t_refused, .int c_t_knocks, .int c_t_thrown]))]) [0] (by decide) rfl
      refine hp_i (w1 := [(a_t, .inr (8, [.ref a_t_forms, .ref a_t_roll, .int c_t_many, .long c_t_taps, .int c_t_cells, .int c_t_acts, .int c_t_refused, .int c_t_knocks, .int c_t_thrown_20]))]) (wr := [(a_t_forms, .inl (cyJ, 6, .inr (.inl f_t_forms)))]) (va_runV (As := [.int (0 : Int32)]) (rest := []) hcf (c_X9_isThrown_ l D cyJ s.heap.size a_t a_t_forms a_t_roll c_t_many c_t_taps c_t_cells c_t_acts c_t_refused c_t_knocks c_t_thrown (0 : Int32) r20 c_t_thrown_20 hc20) (cwV 1 hts gX9_divides_X9_isThrown_ rfl rfl rfl ydX9_isThrown_ ⟨Nat.le_of_ble_eq_true rfl, Nat.le_of_ble_eq_true rfl⟩) ⟨bl_PD, va_recv hK hP (ci := 8) (q0 := 0) rfl rfl, pr_PD hPc hK0 hDc hnw⟩ rfl rfl hl.1 rfl (lv_room (Nat.le_of_ble_eq_true rfl)) dX9_divides_20 ⟨Nat.le_of_ble_eq_true rfl, Nat.le_of_ble_eq_true rfl⟩) hP hD hS hA [0] [1] rfl rfl (by decide) (by decide) (fun H locs hP hD hS => ?_)
      have hP : va_P D vwCl [(a_t_forms, .inl (cyJ, 6, .inr (.inl f_t_forms))), (a_t, .inr (8, [.ref a_t_forms, .ref a_t_roll, .int c_t_many, .long c_t_taps, .int c_t_cells, .int c_t_acts, .int c_t_refused, .int c_t_knocks, .int c_t_thrown_20]))] H := hP
      have hD : va_D A [(a_t_forms, .inl (cyJ, 6, .inr (.inl f_t_forms))), (a_t, .inr (8, [.ref a_t_forms, .ref a_t_roll, .int c_t_many, .long c_t_taps, .int c_t_cells, .int c_t_acts, .int c_t_refused, .int c_t_knocks, .int c_t_thrown_20]))] := hD
      refine lv_if_ne (tgt := 48) hx hb dX9_divides_23 (by decide) (fun c23 => ?_) (fun c23 => ?_)
      · have h := if_ c23 h
        refine lv_iconst (v := 0) hx hb dX9_divides_48 (by decide) ?_
        obtain ⟨e0, e1⟩ := tup2 h
        subst e0
        subst e1
        have hP9 : va_P D vwCl [(a_t, .inr (8, [.ref a_t_forms, .ref a_t_roll, .int c_t_many, .long c_t_taps, .int c_t_cells, .int c_t_acts, .int c_t_refused, .int c_t_knocks, .int c_t_thrown_20])), (a_t_forms, .inl (cyJ, 6, .inr (.inl f_t_forms)))] H := hP.sub [1, 0] rfl
        have hD9 : va_D A [(a_t, .inr (8, [.ref a_t_forms, .ref a_t_roll, .int c_t_many, .long c_t_taps, .int c_t_cells, .int c_t_acts, .int c_t_refused, .int c_t_knocks, .int c_t_thrown_20])), (a_t_forms, .inl (cyJ, 6, .inr (.inl f_t_forms)))] := hD.sub [1, 0] (by decide) rfl
        exact W.zret hx hb hr narrow_b0 (fun t ht hW => ⟨⟨_, (), rfl, rfl, wQA_of ht hP9 hD9⟩, hS.F ht⟩) hS.2.2 dX9_divides_49
      · have h := it_ c23 h
        refine lv_aload_n hx hb dX9_divides_26 rfl (lv_at hl 0 rfl) ?_
        refine va_get (D := D) (ci := 8) (v := .ref a_t_forms) (C := RX9) (T := TX9) (N := 9) hx hb hts hinX9 hown hK hP 1 rfl rfl 0 (by decide) hfl9 (fun _ h9 => h9) rfl dX9_divides_27 ?_
        refine lv_iload_n hx hb dX9_divides_30 rfl (lv_at hl 2 rfl) ?_
        obtain ⟨hq31, h⟩ := chk_h h
        refine va_lald hx hb hK hP 0 0 rfl rfl hq31 dX9_divides_31 ?_
        refine lv_aload_n hx hb dX9_divides_32 rfl (lv_at hl 0 rfl) ?_
        refine va_get (D := D) (ci := 8) (v := .ref a_t_forms) (C := RX9) (T := TX9) (N := 9) hx hb hts hinX9 hown hK hP 1 rfl rfl 0 (by decide) hfl9 (fun _ h9 => h9) rfl dX9_divides_33 ?_
        refine lv_iload_n hx hb dX9_divides_36 rfl (lv_at hl 1 rfl) ?_
        obtain ⟨hq37, h⟩ := chk_h h
        refine va_lald hx hb hK hP 0 0 rfl rfl hq37 dX9_divides_37 ?_
        obtain ⟨r38, hc38, h⟩ := obn_h h
        refine pz_callS (As := [.long (f_t_forms p1.toNatClampNeg), .long (f_t_forms p0.toNatClampNeg)]) (rest := []) hcf (c_X9_isDivided l (f_t_forms p1.toNatClampNeg) (f_t_forms p0.toNatClampNeg) r38 hc38) (va_cwS 2 hts gX9_divides_X9_isDivided rfl rfl rfl ydX9_isDivided ⟨Nat.le_of_ble_eq_true rfl, Nat.le_of_ble_eq_true rfl⟩) hnw rfl hl.1 rfl (Nat.le_of_ble_eq_true rfl) dX9_divides_38 ⟨Nat.le_of_ble_eq_true rfl, Nat.le_of_ble_eq_true rfl⟩ ?_
        refine lv_if_eq (tgt := 48) hx hb dX9_divides_41 (by decide) (fun c41 => ?_) (fun c41 => ?_)
        · have h := it_ c41 h
          refine lv_iconst (v := 0) hx hb dX9_divides_48 (by decide) ?_
          obtain ⟨e0, e1⟩ := tup2 h
          subst e0
          subst e1
          have hP9 : va_P D vwCl [(a_t, .inr (8, [.ref a_t_forms, .ref a_t_roll, .int c_t_many, .long c_t_taps, .int c_t_cells, .int c_t_acts, .int c_t_refused, .int c_t_knocks, .int c_t_thrown_20])), (a_t_forms, .inl (cyJ, 6, .inr (.inl f_t_forms)))] H := hP.sub [1, 0] rfl
          have hD9 : va_D A [(a_t, .inr (8, [.ref a_t_forms, .ref a_t_roll, .int c_t_many, .long c_t_taps, .int c_t_cells, .int c_t_acts, .int c_t_refused, .int c_t_knocks, .int c_t_thrown_20])), (a_t_forms, .inl (cyJ, 6, .inr (.inl f_t_forms)))] := hD.sub [1, 0] (by decide) rfl
          exact W.zret hx hb hr narrow_b0 (fun t ht hW => ⟨⟨_, (), rfl, rfl, wQA_of ht hP9 hD9⟩, hS.F ht⟩) hS.2.2 dX9_divides_49
        · have h := if_ c41 h
          refine lv_iconst (v := 1) hx hb dX9_divides_44 (by decide) ?_
          refine lv_goto (tgt := 49) hx hb dX9_divides_45 (by decide) ?_
          obtain ⟨e0, e1⟩ := tup2 h
          subst e0
          subst e1
          have hP9 : va_P D vwCl [(a_t, .inr (8, [.ref a_t_forms, .ref a_t_roll, .int c_t_many, .long c_t_taps, .int c_t_cells, .int c_t_acts, .int c_t_refused, .int c_t_knocks, .int c_t_thrown_20])), (a_t_forms, .inl (cyJ, 6, .inr (.inl f_t_forms)))] H := hP.sub [1, 0] rfl
          have hD9 : va_D A [(a_t, .inr (8, [.ref a_t_forms, .ref a_t_roll, .int c_t_many, .long c_t_taps, .int c_t_cells, .int c_t_acts, .int c_t_refused, .int c_t_knocks, .int c_t_thrown_20])), (a_t_forms, .inl (cyJ, 6, .inr (.inl f_t_forms)))] := hD.sub [1, 0] (by decide) rfl
          exact W.zret hx hb hr narrow_b1 (fun t ht hW => ⟨⟨_, (), rfl, rfl, wQA_of ht hP9 hD9⟩, hS.F ht⟩) hS.2.2 dX9_divides_49
    · have h := it_ c12 h
      refine lv_iconst (v := 1) hx hb dX9_divides_15 (by decide) ?_
      refine lv_goto (tgt := 20) hx hb dX9_divides_16 (by decide) ?_
      obtain ⟨r20, c_t_thrown_20, hc20, h⟩ := obn2_h h
      have hPc := hP.sub (ws' := [(a_t, .inr (8, [.ref a_t_forms, .ref a_t_roll, .int c_t_many, .long c_t_taps, .int c_t_cells, .int c_t_acts, .int c_t_refused, .int c_t_knocks, .int c_t_thrown]))]) [0] rfl
      have hDc := hD.sub (ws' := [(a_t, .inr (8, [.ref a_t_forms, .ref a_t_roll, .int c_t_many, .long c_t_taps, .int c_t_cells, .int c_t_acts, .int c_t_refused, .int c_t_knocks, .int c_t_thrown]))]) [0] (by decide) rfl
      refine hp_i (w1 := [(a_t, .inr (8, [.ref a_t_forms, .ref a_t_roll, .int c_t_many, .long c_t_taps, .int c_t_cells, .int c_t_acts, .int c_t_refused, .int c_t_knocks, .int c_t_thrown_20]))]) (wr := [(a_t_forms, .inl (cyJ, 6, .inr (.inl f_t_forms)))]) (va_runV (As := [.int (1 : Int32)]) (rest := []) hcf (c_X9_isThrown_ l D cyJ s.heap.size a_t a_t_forms a_t_roll c_t_many c_t_taps c_t_cells c_t_acts c_t_refused c_t_knocks c_t_thrown (1 : Int32) r20 c_t_thrown_20 hc20) (cwV 1 hts gX9_divides_X9_isThrown_ rfl rfl rfl ydX9_isThrown_ ⟨Nat.le_of_ble_eq_true rfl, Nat.le_of_ble_eq_true rfl⟩) ⟨bl_PD, va_recv hK hP (ci := 8) (q0 := 0) rfl rfl, pr_PD hPc hK0 hDc hnw⟩ rfl rfl hl.1 rfl (lv_room (Nat.le_of_ble_eq_true rfl)) dX9_divides_20 ⟨Nat.le_of_ble_eq_true rfl, Nat.le_of_ble_eq_true rfl⟩) hP hD hS hA [0] [1] rfl rfl (by decide) (by decide) (fun H locs hP hD hS => ?_)
      have hP : va_P D vwCl [(a_t_forms, .inl (cyJ, 6, .inr (.inl f_t_forms))), (a_t, .inr (8, [.ref a_t_forms, .ref a_t_roll, .int c_t_many, .long c_t_taps, .int c_t_cells, .int c_t_acts, .int c_t_refused, .int c_t_knocks, .int c_t_thrown_20]))] H := hP
      have hD : va_D A [(a_t_forms, .inl (cyJ, 6, .inr (.inl f_t_forms))), (a_t, .inr (8, [.ref a_t_forms, .ref a_t_roll, .int c_t_many, .long c_t_taps, .int c_t_cells, .int c_t_acts, .int c_t_refused, .int c_t_knocks, .int c_t_thrown_20]))] := hD
      refine lv_if_ne (tgt := 48) hx hb dX9_divides_23 (by decide) (fun c23 => ?_) (fun c23 => ?_)
      · have h := if_ c23 h
        refine lv_iconst (v := 0) hx hb dX9_divides_48 (by decide) ?_
        obtain ⟨e0, e1⟩ := tup2 h
        subst e0
        subst e1
        have hP9 : va_P D vwCl [(a_t, .inr (8, [.ref a_t_forms, .ref a_t_roll, .int c_t_many, .long c_t_taps, .int c_t_cells, .int c_t_acts, .int c_t_refused, .int c_t_knocks, .int c_t_thrown_20])), (a_t_forms, .inl (cyJ, 6, .inr (.inl f_t_forms)))] H := hP.sub [1, 0] rfl
        have hD9 : va_D A [(a_t, .inr (8, [.ref a_t_forms, .ref a_t_roll, .int c_t_many, .long c_t_taps, .int c_t_cells, .int c_t_acts, .int c_t_refused, .int c_t_knocks, .int c_t_thrown_20])), (a_t_forms, .inl (cyJ, 6, .inr (.inl f_t_forms)))] := hD.sub [1, 0] (by decide) rfl
        exact W.zret hx hb hr narrow_b0 (fun t ht hW => ⟨⟨_, (), rfl, rfl, wQA_of ht hP9 hD9⟩, hS.F ht⟩) hS.2.2 dX9_divides_49
      · have h := it_ c23 h
        refine lv_aload_n hx hb dX9_divides_26 rfl (lv_at hl 0 rfl) ?_
        refine va_get (D := D) (ci := 8) (v := .ref a_t_forms) (C := RX9) (T := TX9) (N := 9) hx hb hts hinX9 hown hK hP 1 rfl rfl 0 (by decide) hfl9 (fun _ h9 => h9) rfl dX9_divides_27 ?_
        refine lv_iload_n hx hb dX9_divides_30 rfl (lv_at hl 2 rfl) ?_
        obtain ⟨hq31, h⟩ := chk_h h
        refine va_lald hx hb hK hP 0 0 rfl rfl hq31 dX9_divides_31 ?_
        refine lv_aload_n hx hb dX9_divides_32 rfl (lv_at hl 0 rfl) ?_
        refine va_get (D := D) (ci := 8) (v := .ref a_t_forms) (C := RX9) (T := TX9) (N := 9) hx hb hts hinX9 hown hK hP 1 rfl rfl 0 (by decide) hfl9 (fun _ h9 => h9) rfl dX9_divides_33 ?_
        refine lv_iload_n hx hb dX9_divides_36 rfl (lv_at hl 1 rfl) ?_
        obtain ⟨hq37, h⟩ := chk_h h
        refine va_lald hx hb hK hP 0 0 rfl rfl hq37 dX9_divides_37 ?_
        obtain ⟨r38, hc38, h⟩ := obn_h h
        refine pz_callS (As := [.long (f_t_forms p1.toNatClampNeg), .long (f_t_forms p0.toNatClampNeg)]) (rest := []) hcf (c_X9_isDivided l (f_t_forms p1.toNatClampNeg) (f_t_forms p0.toNatClampNeg) r38 hc38) (va_cwS 2 hts gX9_divides_X9_isDivided rfl rfl rfl ydX9_isDivided ⟨Nat.le_of_ble_eq_true rfl, Nat.le_of_ble_eq_true rfl⟩) hnw rfl hl.1 rfl (Nat.le_of_ble_eq_true rfl) dX9_divides_38 ⟨Nat.le_of_ble_eq_true rfl, Nat.le_of_ble_eq_true rfl⟩ ?_
        refine lv_if_eq (tgt := 48) hx hb dX9_divides_41 (by decide) (fun c41 => ?_) (fun c41 => ?_)
        · have h := it_ c41 h
          refine lv_iconst (v := 0) hx hb dX9_divides_48 (by decide) ?_
          obtain ⟨e0, e1⟩ := tup2 h
          subst e0
          subst e1
          have hP9 : va_P D vwCl [(a_t, .inr (8, [.ref a_t_forms, .ref a_t_roll, .int c_t_many, .long c_t_taps, .int c_t_cells, .int c_t_acts, .int c_t_refused, .int c_t_knocks, .int c_t_thrown_20])), (a_t_forms, .inl (cyJ, 6, .inr (.inl f_t_forms)))] H := hP.sub [1, 0] rfl
          have hD9 : va_D A [(a_t, .inr (8, [.ref a_t_forms, .ref a_t_roll, .int c_t_many, .long c_t_taps, .int c_t_cells, .int c_t_acts, .int c_t_refused, .int c_t_knocks, .int c_t_thrown_20])), (a_t_forms, .inl (cyJ, 6, .inr (.inl f_t_forms)))] := hD.sub [1, 0] (by decide) rfl
          exact W.zret hx hb hr narrow_b0 (fun t ht hW => ⟨⟨_, (), rfl, rfl, wQA_of ht hP9 hD9⟩, hS.F ht⟩) hS.2.2 dX9_divides_49
        · have h := if_ c41 h
          refine lv_iconst (v := 1) hx hb dX9_divides_44 (by decide) ?_
          refine lv_goto (tgt := 49) hx hb dX9_divides_45 (by decide) ?_
          obtain ⟨e0, e1⟩ := tup2 h
          subst e0
          subst e1
          have hP9 : va_P D vwCl [(a_t, .inr (8, [.ref a_t_forms, .ref a_t_roll, .int c_t_many, .long c_t_taps, .int c_t_cells, .int c_t_acts, .int c_t_refused, .int c_t_knocks, .int c_t_thrown_20])), (a_t_forms, .inl (cyJ, 6, .inr (.inl f_t_forms)))] H := hP.sub [1, 0] rfl
          have hD9 : va_D A [(a_t, .inr (8, [.ref a_t_forms, .ref a_t_roll, .int c_t_many, .long c_t_taps, .int c_t_cells, .int c_t_acts, .int c_t_refused, .int c_t_knocks, .int c_t_thrown_20])), (a_t_forms, .inl (cyJ, 6, .inr (.inl f_t_forms)))] := hD.sub [1, 0] (by decide) rfl
          exact W.zret hx hb hr narrow_b1 (fun t ht hW => ⟨⟨_, (), rfl, rfl, wQA_of ht hP9 hD9⟩, hS.F ht⟩) hS.2.2 dX9_divides_49

noncomputable abbrev rmX9_check : Room := { frames := 6, cells := 0, slots := 0, locals := 139 }
theorem ydX9_check : yX9_check.cls = RX9 ∧ yX9_check.cls ≠ "java/lang/invoke/MethodHandle" ∧ yX9_check.cls ≠ "java/lang/invoke/VarHandle" ∧ (parseMethodDescriptor yX9_check.desc).map (fun d => d.parameters.length) = some 2 := by decide +kernel
noncomputable def J_X9_check_20 (jl1_20 : Int32) (jl2_20 : Int32) (f_t_forms_jz20 : Nat → Int64) (js1_20 : Int32) (c_t_thrown_j20 : Int32) : Option (Int32 × Int32) :=
 obn2 (F_X9_isThrown_ js1_20) (fun r20 c_t_thrown_20 =>
 (if r20 = 0 then
 chk (¬ (jl1_20 < 0 ∨ 6 ≤ jl1_20.toNatClampNeg)) (
 chk (¬ (jl2_20 < 0 ∨ 6 ≤ jl2_20.toNatClampNeg)) (
 obn (F_X9_isNoSeal (f_t_forms_jz20 jl1_20.toNatClampNeg) (f_t_forms_jz20 jl2_20.toNatClampNeg) (31 : Int32)) (fun r42 =>
 (if r42 = 0 then
 chk (¬ (jl1_20 < 0 ∨ 6 ≤ jl1_20.toNatClampNeg)) (
 chk (¬ (jl2_20 < 0 ∨ 6 ≤ jl2_20.toNatClampNeg)) (
 obn (F_X9_checkOf (f_t_forms_jz20 jl1_20.toNatClampNeg) (f_t_forms_jz20 jl2_20.toNatClampNeg)) (fun r65 =>
 some (r65.toInt32, c_t_thrown_20))))
else
 some ((-9 : Int32), c_t_thrown_20)))))
else
 some ((0 : Int32), c_t_thrown_20)))
noncomputable def J_X9_check_15 (jl1_15 : Int32) (jl2_15 : Int32) (f_t_forms_jz15 : Nat → Int64) (c_t_thrown_j15 : Int32) : Option (Int32 × Int32) :=
 J_X9_check_20 jl1_15 jl2_15 f_t_forms_jz15 (1 : Int32) c_t_thrown_j15
noncomputable def F_X9_check (c_t_thrown : Int32) (f_t_forms : Nat → Int64) (p0 : Int32) (p1 : Int32) : Option (Int32 × Int32) :=
 obn (F_X9_isForm p0) (fun r2 =>
 (if r2 = 0 then
 J_X9_check_15 p0 p1 f_t_forms c_t_thrown
else
 obn (F_X9_isForm p1) (fun r9 =>
 (if r9 = 0 then
 J_X9_check_15 p0 p1 f_t_forms c_t_thrown
else
 J_X9_check_20 p0 p1 f_t_forms (0 : Int32) c_t_thrown))))
set_option maxHeartbeats 4000000 in
set_option maxRecDepth 100000 in
theorem c_X9_check (l : Launch) (D : va_G) (cyJ : ClassId) (sz : Nat) (a_t : Nat) (a_t_forms : Nat) (a_t_roll : Nat) (c_t_many : Int32) (c_t_taps : Int64) (c_t_cells : Int32) (c_t_acts : Int32) (c_t_refused : Int32) (c_t_knocks : Int32) (c_t_thrown : Int32) (f_t_forms : Nat → Int64) (p0 : Int32) (p1 : Int32) (r0 : Int32) (o_c_t_thrown : Int32) (hF : F_X9_check c_t_thrown f_t_forms p0 p1 = some (r0, o_c_t_thrown)) : Met l yX9_check wsX9_check rmX9_check (va_Pc [.ref a_t, .int p0, .int p1] (wPD D [(cyJ, .long)] [(a_t, .inr (8, [.ref a_t_forms, .ref a_t_roll, .int c_t_many, .long c_t_taps, .int c_t_cells, .int c_t_acts, .int c_t_refused, .int c_t_knocks, .int c_t_thrown])), (a_t_forms, .inl (cyJ, 6, .inr (.inl f_t_forms)))] sz)) (va_Qi (fun (r : Int32) (_ : Unit) => r = r0) (fun _ t => wQA D [(a_t, .inr (8, [.ref a_t_forms, .ref a_t_roll, .int c_t_many, .long c_t_taps, .int c_t_cells, .int c_t_acts, .int c_t_refused, .int c_t_knocks, .int o_c_t_thrown])), (a_t_forms, .inl (cyJ, 6, .inr (.inl f_t_forms)))] (va_A [(a_t, .inr (8, [.ref a_t_forms, .ref a_t_roll, .int c_t_many, .long c_t_taps, .int c_t_cells, .int c_t_acts, .int c_t_refused, .int c_t_knocks, .int c_t_thrown])), (a_t_forms, .inl (cyJ, 6, .inr (.inl f_t_forms)))] sz) t) (va_A [(a_t, .inr (8, [.ref a_t_forms, .ref a_t_roll, .int c_t_many, .long c_t_taps, .int c_t_cells, .int c_t_acts, .int c_t_refused, .int c_t_knocks, .int c_t_thrown])), (a_t_forms, .inl (cyJ, 6, .inr (.inl f_t_forms)))] sz)) 0 0 (va_A [(a_t, .inr (8, [.ref a_t_forms, .ref a_t_roll, .int c_t_many, .long c_t_taps, .int c_t_cells, .int c_t_acts, .int c_t_refused, .int c_t_knocks, .int c_t_thrown])), (a_t_forms, .inl (cyJ, 6, .inr (.inl f_t_forms)))] sz) := by
  refine Met.ofW (cc := cX9_check) (maxL := 3) (ret := (some .int)) (by decide) rfl ?_
  intro p e s m args below meth c s₁ B hml hv
  obtain ⟨rfl, hsz, hP, hK, hD0, hnw⟩ := hv
  have hx := B.exec
  have hb := B.bytes
  have hr := B.returns
  have hts := atoms_spec (ws := wsX9_check) B.pre
  have hown : s.vm.findClass RX9 = some m.cls := findClass_of_methodNamed B.named
  have hlocks := B.notSynchronized
  have hcf : CallFix _ _ _ _ _ _ _ _ _ := ⟨hx, hb, hml, hown, hts⟩
  have hinX9 : ∀ w ∈ u_ws RX9 TX9 9, w ∈ wsX9_check := by decide +kernel
  have hfl9 := hts (.fieldLink RX9 9 "FormwheelModel" "forms" "[J") (by decide +kernel)
  subst hsz
  have hD := hD0.self (sz := s.heap.size)
  generalize hAe : va_A [(a_t, .inr (8, [.ref a_t_forms, .ref a_t_roll, .int c_t_many, .long c_t_taps, .int c_t_cells, .int c_t_acts, .int c_t_refused, .int c_t_knocks, .int c_t_thrown])), (a_t_forms, .inl (cyJ, 6, .inr (.inl f_t_forms)))] s.heap.size = A at hD ⊢
  have hA : ∀ q : Nat, s.heap.size ≤ q → A q := fun q h => by rw [← hAe]; exact Or.inr h
  have hS : va_S A s.heap s.heap [] := va_S.rf
  have hP : va_P D vwCl [(a_t, .inr (8, [.ref a_t_forms, .ref a_t_roll, .int c_t_many, .long c_t_taps, .int c_t_cells, .int c_t_acts, .int c_t_refused, .int c_t_knocks, .int c_t_thrown])), (a_t_forms, .inl (cyJ, 6, .inr (.inl f_t_forms)))] s.heap := hP
  have hK0 := hK
  have hl := lv_entry ([.ref a_t, .int p0, .int p1]) (n := 3) (Nat.le_of_ble_eq_true rfl)
  rw [lg_entry_eq]
  generalize (lg_sl ([.ref a_t, .int p0, .int p1]) ++ List.replicate (3 - (lg_sl ([.ref a_t, .int p0, .int p1])).length) Slot.unset).toArray = ls at hl ⊢
  have hl : lv_has ls 3 [(0, .ref a_t), (1, .int p0), (2, .int p1)] := hl
  have h := hF
  clear hF
  unfold F_X9_check at h
  have hj20 : ∀ (js1_20 : Int32) (c_t_thrown_j20 : Int32), J_X9_check_20 p0 p1 f_t_forms js1_20 c_t_thrown_j20 = some (r0, o_c_t_thrown) → ∀ (H : Heap) (locs : List Loc), va_P D vwCl [(a_t, .inr (8, [.ref a_t_forms, .ref a_t_roll, .int c_t_many, .long c_t_taps, .int c_t_cells, .int c_t_acts, .int c_t_refused, .int c_t_knocks, .int c_t_thrown_j20])), (a_t_forms, .inl (cyJ, 6, .inr (.inl f_t_forms)))] H → va_D A [(a_t, .inr (8, [.ref a_t_forms, .ref a_t_roll, .int c_t_many, .long c_t_taps, .int c_t_cells, .int c_t_acts, .int c_t_refused, .int c_t_knocks, .int c_t_thrown_j20])), (a_t_forms, .inl (cyJ, 6, .inr (.inl f_t_forms)))] → va_S A s.heap H locs → ∀ (ls : Array Slot), lv_has ls 3 [(0, .ref a_t), (1, .int p0), (2, .int p1)] → W p l e rmX9_check s m ([.ref a_t, .int p0, .int p1] : List Value).toArray below meth c H locs 0 0 (MQ below (va_Qi (fun (r : Int32) (_ : Unit) => r = r0) (fun _ t => wQA D [(a_t, .inr (8, [.ref a_t_forms, .ref a_t_roll, .int c_t_many, .long c_t_taps, .int c_t_cells, .int c_t_acts, .int c_t_refused, .int c_t_knocks, .int o_c_t_thrown])), (a_t_forms, .inl (cyJ, 6, .inr (.inl f_t_forms)))] A t) A) ([.ref a_t, .int p0, .int p1] : List Value).toArray s 0 0 A) (F0 m 20 ls [.int js1_20, .ref a_t]) := by
    intro js1_20 c_t_thrown_j20 h H locs hP hD hS ls hl
    unfold J_X9_check_20 at h
    obtain ⟨r20, c_t_thrown_20, hc20, h⟩ := obn2_h h
    have hPc := hP.sub (ws' := [(a_t, .inr (8, [.ref a_t_forms, .ref a_t_roll, .int c_t_many, .long c_t_taps, .int c_t_cells, .int c_t_acts, .int c_t_refused, .int c_t_knocks, .int c_t_thrown_j20]))]) [0] rfl
    have hDc := hD.sub (ws' := [(a_t, .inr (8, [.ref a_t_forms, .ref a_t_roll, .int c_t_many, .long c_t_taps, .int c_t_cells, .int c_t_acts, .int c_t_refused, .int c_t_knocks, .int c_t_thrown_j20]))]) [0] (by decide) rfl
    refine hp_i (w1 := [(a_t, .inr (8, [.ref a_t_forms, .ref a_t_roll, .int c_t_many, .long c_t_taps, .int c_t_cells, .int c_t_acts, .int c_t_refused, .int c_t_knocks, .int c_t_thrown_20]))]) (wr := [(a_t_forms, .inl (cyJ, 6, .inr (.inl f_t_forms)))]) (va_runV (As := [.int js1_20]) (rest := []) hcf (c_X9_isThrown_ l D cyJ H.size a_t a_t_forms a_t_roll c_t_many c_t_taps c_t_cells c_t_acts c_t_refused c_t_knocks c_t_thrown_j20 js1_20 r20 c_t_thrown_20 hc20) (cwV 1 hts gX9_check_X9_isThrown_ rfl rfl rfl ydX9_isThrown_ ⟨Nat.le_of_ble_eq_true rfl, Nat.le_of_ble_eq_true rfl⟩) ⟨bl_PD, va_recv hK hP (ci := 8) (q0 := 0) rfl rfl, pr_PD hPc hK0 hDc hnw⟩ rfl rfl hl.1 rfl (lv_room (Nat.le_of_ble_eq_true rfl)) dX9_check_20 ⟨Nat.le_of_ble_eq_true rfl, Nat.le_of_ble_eq_true rfl⟩) hP hD hS hA [0] [1] rfl rfl (by decide) (by decide) (fun H locs hP hD hS => ?_)
    have hP : va_P D vwCl [(a_t_forms, .inl (cyJ, 6, .inr (.inl f_t_forms))), (a_t, .inr (8, [.ref a_t_forms, .ref a_t_roll, .int c_t_many, .long c_t_taps, .int c_t_cells, .int c_t_acts, .int c_t_refused, .int c_t_knocks, .int c_t_thrown_20]))] H := hP
    have hD : va_D A [(a_t_forms, .inl (cyJ, 6, .inr (.inl f_t_forms))), (a_t, .inr (8, [.ref a_t_forms, .ref a_t_roll, .int c_t_many, .long c_t_taps, .int c_t_cells, .int c_t_acts, .int c_t_refused, .int c_t_knocks, .int c_t_thrown_20]))] := hD
    refine lv_if_eq (tgt := 28) hx hb dX9_check_23 (by decide) (fun c23 => ?_) (fun c23 => ?_)
    · have h := it_ c23 h
      refine lv_aload_n hx hb dX9_check_28 rfl (lv_at hl 0 rfl) ?_
      refine va_get (D := D) (ci := 8) (v := .ref a_t_forms) (C := RX9) (T := TX9) (N := 9) hx hb hts hinX9 hown hK hP 1 rfl rfl 0 (by decide) hfl9 (fun _ h9 => h9) rfl dX9_check_29 ?_
      refine lv_iload_n hx hb dX9_check_32 rfl (lv_at hl 1 rfl) ?_
      obtain ⟨hq33, h⟩ := chk_h h
      refine va_lald hx hb hK hP 0 0 rfl rfl hq33 dX9_check_33 ?_
      refine lv_aload_n hx hb dX9_check_34 rfl (lv_at hl 0 rfl) ?_
      refine va_get (D := D) (ci := 8) (v := .ref a_t_forms) (C := RX9) (T := TX9) (N := 9) hx hb hts hinX9 hown hK hP 1 rfl rfl 0 (by decide) hfl9 (fun _ h9 => h9) rfl dX9_check_35 ?_
      refine lv_iload_n hx hb dX9_check_38 rfl (lv_at hl 2 rfl) ?_
      obtain ⟨hq39, h⟩ := chk_h h
      refine va_lald hx hb hK hP 0 0 rfl rfl hq39 dX9_check_39 ?_
      refine lv_bipush (v := 31) hx hb dX9_check_40 (by decide) ?_
      obtain ⟨r42, hc42, h⟩ := obn_h h
      refine pz_callS (As := [.long (f_t_forms p0.toNatClampNeg), .long (f_t_forms p1.toNatClampNeg), .int (31 : Int32)]) (rest := []) hcf (c_X9_isNoSeal l (f_t_forms p0.toNatClampNeg) (f_t_forms p1.toNatClampNeg) (31 : Int32) r42 hc42) (va_cwS 3 hts gX9_check_X9_isNoSeal rfl rfl rfl ydX9_isNoSeal ⟨Nat.le_of_ble_eq_true rfl, Nat.le_of_ble_eq_true rfl⟩) hnw rfl hl.1 rfl (Nat.le_of_ble_eq_true rfl) dX9_check_42 ⟨Nat.le_of_ble_eq_true rfl, Nat.le_of_ble_eq_true rfl⟩ ?_
      refine lv_if_eq (tgt := 53) hx hb dX9_check_45 (by decide) (fun c45 => ?_) (fun c45 => ?_)
      · have h := it_ c45 h
        refine lv_aload_n hx hb dX9_check_53 rfl (lv_at hl 0 rfl) ?_
        refine va_get (D := D) (ci := 8) (v := .ref a_t_forms) (C := RX9) (T := TX9) (N := 9) hx hb hts hinX9 hown hK hP 1 rfl rfl 0 (by decide) hfl9 (fun _ h9 => h9) rfl dX9_check_54 ?_
        refine lv_iload_n hx hb dX9_check_57 rfl (lv_at hl 1 rfl) ?_
        obtain ⟨hq58, h⟩ := chk_h h
        refine va_lald hx hb hK hP 0 0 rfl rfl hq58 dX9_check_58 ?_
        refine lv_aload_n hx hb dX9_check_59 rfl (lv_at hl 0 rfl) ?_
        refine va_get (D := D) (ci := 8) (v := .ref a_t_forms) (C := RX9) (T := TX9) (N := 9) hx hb hts hinX9 hown hK hP 1 rfl rfl 0 (by decide) hfl9 (fun _ h9 => h9) rfl dX9_check_60 ?_
        refine lv_iload_n hx hb dX9_check_63 rfl (lv_at hl 2 rfl) ?_
        obtain ⟨hq64, h⟩ := chk_h h
        refine va_lald hx hb hK hP 0 0 rfl rfl hq64 dX9_check_64 ?_
        obtain ⟨r65, hc65, h⟩ := obn_h h
        refine pz_callS (As := [.long (f_t_forms p0.toNatClampNeg), .long (f_t_forms p1.toNatClampNeg)]) (rest := []) hcf (c_X9_checkOf l (f_t_forms p0.toNatClampNeg) (f_t_forms p1.toNatClampNeg) r65 hc65) (va_cwS 2 hts gX9_check_X9_checkOf rfl rfl rfl ydX9_checkOf ⟨Nat.le_of_ble_eq_true rfl, Nat.le_of_ble_eq_true rfl⟩) hnw rfl hl.1 rfl (Nat.le_of_ble_eq_true rfl) dX9_check_65 ⟨Nat.le_of_ble_eq_true rfl, Nat.le_of_ble_eq_true rfl⟩ ?_
        refine lv_l2i (v := r65.toInt32) hx hb dX9_check_68 rfl ?_
        obtain ⟨e0, e1⟩ := tup2 h
        subst e0
        subst e1
        have hP9 : va_P D vwCl [(a_t, .inr (8, [.ref a_t_forms, .ref a_t_roll, .int c_t_many, .long c_t_taps, .int c_t_cells, .int c_t_acts, .int c_t_refused, .int c_t_knocks, .int c_t_thrown_20])), (a_t_forms, .inl (cyJ, 6, .inr (.inl f_t_forms)))] H := hP.sub [1, 0] rfl
        have hD9 : va_D A [(a_t, .inr (8, [.ref a_t_forms, .ref a_t_roll, .int c_t_many, .long c_t_taps, .int c_t_cells, .int c_t_acts, .int c_t_refused, .int c_t_knocks, .int c_t_thrown_20])), (a_t_forms, .inl (cyJ, 6, .inr (.inl f_t_forms)))] := hD.sub [1, 0] (by decide) rfl
        exact W.iret hx hb hr (fun t ht hW => ⟨⟨_, (), rfl, rfl, wQA_of ht hP9 hD9⟩, hS.F ht⟩) hS.2.2 dX9_check_69
      · have h := if_ c45 h
        refine lv_bipush (v := -9) hx hb dX9_check_48 (by decide) ?_
        refine lv_goto (tgt := 69) hx hb dX9_check_50 (by decide) ?_
        obtain ⟨e0, e1⟩ := tup2 h
        subst e0
        subst e1
        have hP9 : va_P D vwCl [(a_t, .inr (8, [.ref a_t_forms, .ref a_t_roll, .int c_t_many, .long c_t_taps, .int c_t_cells, .int c_t_acts, .int c_t_refused, .int c_t_knocks, .int c_t_thrown_20])), (a_t_forms, .inl (cyJ, 6, .inr (.inl f_t_forms)))] H := hP.sub [1, 0] rfl
        have hD9 : va_D A [(a_t, .inr (8, [.ref a_t_forms, .ref a_t_roll, .int c_t_many, .long c_t_taps, .int c_t_cells, .int c_t_acts, .int c_t_refused, .int c_t_knocks, .int c_t_thrown_20])), (a_t_forms, .inl (cyJ, 6, .inr (.inl f_t_forms)))] := hD.sub [1, 0] (by decide) rfl
        exact W.iret hx hb hr (fun t ht hW => ⟨⟨_, (), rfl, rfl, wQA_of ht hP9 hD9⟩, hS.F ht⟩) hS.2.2 dX9_check_69
    · have h := if_ c23 h
      refine lv_iconst (v := 0) hx hb dX9_check_26 (by decide) ?_
      obtain ⟨e0, e1⟩ := tup2 h
      subst e0
      subst e1
      have hP9 : va_P D vwCl [(a_t, .inr (8, [.ref a_t_forms, .ref a_t_roll, .int c_t_many, .long c_t_taps, .int c_t_cells, .int c_t_acts, .int c_t_refused, .int c_t_knocks, .int c_t_thrown_20])), (a_t_forms, .inl (cyJ, 6, .inr (.inl f_t_forms)))] H := hP.sub [1, 0] rfl
      have hD9 : va_D A [(a_t, .inr (8, [.ref a_t_forms, .ref a_t_roll, .int c_t_many, .long c_t_taps, .int c_t_cells, .int c_t_acts, .int c_t_refused, .int c_t_knocks, .int c_t_thrown_20])), (a_t_forms, .inl (cyJ, 6, .inr (.inl f_t_forms)))] := hD.sub [1, 0] (by decide) rfl
      exact W.iret hx hb hr (fun t ht hW => ⟨⟨_, (), rfl, rfl, wQA_of ht hP9 hD9⟩, hS.F ht⟩) hS.2.2 dX9_check_27
  have hj15 : ∀ (c_t_thrown_j15 : Int32), J_X9_check_15 p0 p1 f_t_forms c_t_thrown_j15 = some (r0, o_c_t_thrown) → ∀ (H : Heap) (locs : List Loc), va_P D vwCl [(a_t, .inr (8, [.ref a_t_forms, .ref a_t_roll, .int c_t_many, .long c_t_taps, .int c_t_cells, .int c_t_acts, .int c_t_refused, .int c_t_knocks, .int c_t_thrown_j15])), (a_t_forms, .inl (cyJ, 6, .inr (.inl f_t_forms)))] H → va_D A [(a_t, .inr (8, [.ref a_t_forms, .ref a_t_roll, .int c_t_many, .long c_t_taps, .int c_t_cells, .int c_t_acts, .int c_t_refused, .int c_t_knocks, .int c_t_thrown_j15])), (a_t_forms, .inl (cyJ, 6, .inr (.inl f_t_forms)))] → va_S A s.heap H locs → ∀ (ls : Array Slot), lv_has ls 3 [(0, .ref a_t), (1, .int p0), (2, .int p1)] → W p l e rmX9_check s m ([.ref a_t, .int p0, .int p1] : List Value).toArray below meth c H locs 0 0 (MQ below (va_Qi (fun (r : Int32) (_ : Unit) => r = r0) (fun _ t => wQA D [(a_t, .inr (8, [.ref a_t_forms, .ref a_t_roll, .int c_t_many, .long c_t_taps, .int c_t_cells, .int c_t_acts, .int c_t_refused, .int c_t_knocks, .int o_c_t_thrown])), (a_t_forms, .inl (cyJ, 6, .inr (.inl f_t_forms)))] A t) A) ([.ref a_t, .int p0, .int p1] : List Value).toArray s 0 0 A) (F0 m 15 ls [.ref a_t]) := by
    intro c_t_thrown_j15 h H locs hP hD hS ls hl
    unfold J_X9_check_15 at h
    refine lv_iconst (v := 1) hx hb dX9_check_15 (by decide) ?_
    refine lv_goto (tgt := 20) hx hb dX9_check_16 (by decide) ?_
    exact hj20 (1 : Int32) c_t_thrown_j15 h _ _ (hP.sub [0, 1] rfl) (hD.sub [0, 1] (by decide) rfl) hS ls (lv_sub hl [0, 1, 2] rfl)
  refine lv_aload_n hx hb dX9_check_0 rfl (lv_at hl 0 rfl) ?_
  refine lv_iload_n hx hb dX9_check_1 rfl (lv_at hl 1 rfl) ?_
  obtain ⟨r2, hc2, h⟩ := obn_h h
  refine pz_callS (As := [.int p0]) (rest := [.ref a_t]) hcf (c_X9_isForm l p0 r2 hc2) (va_cwS 1 hts gX9_check_X9_isForm rfl rfl rfl ydX9_isForm ⟨Nat.le_of_ble_eq_true rfl, Nat.le_of_ble_eq_true rfl⟩) hnw rfl hl.1 rfl (Nat.le_of_ble_eq_true rfl) dX9_check_2 ⟨Nat.le_of_ble_eq_true rfl, Nat.le_of_ble_eq_true rfl⟩ ?_
  refine lv_if_eq (tgt := 15) hx hb dX9_check_5 (by decide) (fun c5 => ?_) (fun c5 => ?_)
  · have h := it_ c5 h
    exact hj15 c_t_thrown h _ _ (hP.sub [0, 1] rfl) (hD.sub [0, 1] (by decide) rfl) hS ls (lv_sub hl [0, 1, 2] rfl)
  · have h := if_ c5 h
    refine lv_iload_n hx hb dX9_check_8 rfl (lv_at hl 2 rfl) ?_
    obtain ⟨r9, hc9, h⟩ := obn_h h
    refine pz_callS (As := [.int p1]) (rest := [.ref a_t]) hcf (c_X9_isForm l p1 r9 hc9) (va_cwS 1 hts gX9_check_X9_isForm rfl rfl rfl ydX9_isForm ⟨Nat.le_of_ble_eq_true rfl, Nat.le_of_ble_eq_true rfl⟩) hnw rfl hl.1 rfl (Nat.le_of_ble_eq_true rfl) dX9_check_9 ⟨Nat.le_of_ble_eq_true rfl, Nat.le_of_ble_eq_true rfl⟩ ?_
    refine lv_if_ne (tgt := 19) hx hb dX9_check_12 (by decide) (fun c12 => ?_) (fun c12 => ?_)
    · have h := if_ c12 h
      refine lv_iconst (v := 0) hx hb dX9_check_19 (by decide) ?_
      exact hj20 (0 : Int32) c_t_thrown h _ _ (hP.sub [0, 1] rfl) (hD.sub [0, 1] (by decide) rfl) hS ls (lv_sub hl [0, 1, 2] rfl)
    · have h := it_ c12 h
      exact hj15 c_t_thrown h _ _ (hP.sub [0, 1] rfl) (hD.sub [0, 1] (by decide) rfl) hS ls (lv_sub hl [0, 1, 2] rfl)

noncomputable abbrev rmX9_isPrime : Room := { frames := 6, cells := 0, slots := 0, locals := 139 }
theorem ydX9_isPrime : yX9_isPrime.cls = RX9 ∧ yX9_isPrime.cls ≠ "java/lang/invoke/MethodHandle" ∧ yX9_isPrime.cls ≠ "java/lang/invoke/VarHandle" ∧ (parseMethodDescriptor yX9_isPrime.desc).map (fun d => d.parameters.length) = some 2 := by decide +kernel
noncomputable def J_X9_isPrime_27 (jl1_27 : Int32) (f_t_forms_jz27 : Nat → Int64) (js1_27 : Int32) (js2_27 : Int32) (c_t_thrown_j27 : Int32) : Option (Int32 × Int32) :=
 obn2 (F_X9_isThrown js1_27 js2_27) (fun r27 c_t_thrown_27 =>
 (if r27 = 0 then
 chk (¬ (jl1_27 < 0 ∨ 6 ≤ jl1_27.toNatClampNeg)) (
 obn (F_X9_degreeOf (f_t_forms_jz27 jl1_27.toNatClampNeg)) (fun r41 =>
 (if r41 ≤ (10 : Int32) then
 chk (¬ (jl1_27 < 0 ∨ 6 ≤ jl1_27.toNatClampNeg)) (
 obn (F_X9_isPrimeNow (f_t_forms_jz27 jl1_27.toNatClampNeg)) (fun r60 =>
 (if r60 = 0 then
 some ((0 : Int32), c_t_thrown_27)
else
 some ((1 : Int32), c_t_thrown_27))))
else
 some ((-9 : Int32), c_t_thrown_27))))
else
 some ((0 : Int32), c_t_thrown_27)))
noncomputable def J_X9_isPrime_22 (jl1_22 : Int32) (f_t_forms_jz22 : Nat → Int64) (js1_22 : Int32) (c_t_thrown_j22 : Int32) : Option (Int32 × Int32) :=
 J_X9_isPrime_27 jl1_22 f_t_forms_jz22 js1_22 (1 : Int32) c_t_thrown_j22
noncomputable def J_X9_isPrime_13 (jl1_13 : Int32) (jl2_13 : Int32) (f_t_forms_jz13 : Nat → Int64) (js1_13 : Int32) (c_t_thrown_j13 : Int32) : Option (Int32 × Int32) :=
 (if jl2_13 < 0 then
 J_X9_isPrime_22 jl1_13 f_t_forms_jz13 js1_13 c_t_thrown_j13
else
 (if jl2_13 ≤ (1 : Int32) then
 J_X9_isPrime_27 jl1_13 f_t_forms_jz13 js1_13 (0 : Int32) c_t_thrown_j13
else
 J_X9_isPrime_22 jl1_13 f_t_forms_jz13 js1_13 c_t_thrown_j13))
noncomputable def F_X9_isPrime (c_t_thrown : Int32) (f_t_forms : Nat → Int64) (p0 : Int32) (p1 : Int32) : Option (Int32 × Int32) :=
 obn (F_X9_isForm p0) (fun r2 =>
 (if r2 = 0 then
 J_X9_isPrime_13 p0 p1 f_t_forms (1 : Int32) c_t_thrown
else
 J_X9_isPrime_13 p0 p1 f_t_forms (0 : Int32) c_t_thrown))
set_option maxHeartbeats 4000000 in
set_option maxRecDepth 100000 in
theorem c_X9_isPrime (l : Launch) (D : va_G) (cyJ : ClassId) (sz : Nat) (a_t : Nat) (a_t_forms : Nat) (a_t_roll : Nat) (c_t_many : Int32) (c_t_taps : Int64) (c_t_cells : Int32) (c_t_acts : Int32) (c_t_refused : Int32) (c_t_knocks : Int32) (c_t_thrown : Int32) (f_t_forms : Nat → Int64) (p0 : Int32) (p1 : Int32) (r0 : Int32) (o_c_t_thrown : Int32) (hF : F_X9_isPrime c_t_thrown f_t_forms p0 p1 = some (r0, o_c_t_thrown)) : Met l yX9_isPrime wsX9_isPrime rmX9_isPrime (va_Pc [.ref a_t, .int p0, .int p1] (wPD D [(cyJ, .long)] [(a_t, .inr (8, [.ref a_t_forms, .ref a_t_roll, .int c_t_many, .long c_t_taps, .int c_t_cells, .int c_t_acts, .int c_t_refused, .int c_t_knocks, .int c_t_thrown])), (a_t_forms, .inl (cyJ, 6, .inr (.inl f_t_forms)))] sz)) (va_Qi (fun (r : Int32) (_ : Unit) => r = r0) (fun _ t => wQA D [(a_t, .inr (8, [.ref a_t_forms, .ref a_t_roll, .int c_t_many, .long c_t_taps, .int c_t_cells, .int c_t_acts, .int c_t_refused, .int c_t_knocks, .int o_c_t_thrown])), (a_t_forms, .inl (cyJ, 6, .inr (.inl f_t_forms)))] (va_A [(a_t, .inr (8, [.ref a_t_forms, .ref a_t_roll, .int c_t_many, .long c_t_taps, .int c_t_cells, .int c_t_acts, .int c_t_refused, .int c_t_knocks, .int c_t_thrown])), (a_t_forms, .inl (cyJ, 6, .inr (.inl f_t_forms)))] sz) t) (va_A [(a_t, .inr (8, [.ref a_t_forms, .ref a_t_roll, .int c_t_many, .long c_t_taps, .int c_t_cells, .int c_t_acts, .int c_t_refused, .int c_t_knocks, .int c_t_thrown])), (a_t_forms, .inl (cyJ, 6, .inr (.inl f_t_forms)))] sz)) 0 0 (va_A [(a_t, .inr (8, [.ref a_t_forms, .ref a_t_roll, .int c_t_many, .long c_t_taps, .int c_t_cells, .int c_t_acts, .int c_t_refused, .int c_t_knocks, .int c_t_thrown])), (a_t_forms, .inl (cyJ, 6, .inr (.inl f_t_forms)))] sz) := by
  refine Met.ofW (cc := cX9_isPrime) (maxL := 3) (ret := (some .int)) (by decide) rfl ?_
  intro p e s m args below meth c s₁ B hml hv
  obtain ⟨rfl, hsz, hP, hK, hD0, hnw⟩ := hv
  have hx := B.exec
  have hb := B.bytes
  have hr := B.returns
  have hts := atoms_spec (ws := wsX9_isPrime) B.pre
  have hown : s.vm.findClass RX9 = some m.cls := findClass_of_methodNamed B.named
  have hlocks := B.notSynchronized
  have hcf : CallFix _ _ _ _ _ _ _ _ _ := ⟨hx, hb, hml, hown, hts⟩
  have hinX9 : ∀ w ∈ u_ws RX9 TX9 9, w ∈ wsX9_isPrime := by decide +kernel
  have hfl9 := hts (.fieldLink RX9 9 "FormwheelModel" "forms" "[J") (by decide +kernel)
  subst hsz
  have hD := hD0.self (sz := s.heap.size)
  generalize hAe : va_A [(a_t, .inr (8, [.ref a_t_forms, .ref a_t_roll, .int c_t_many, .long c_t_taps, .int c_t_cells, .int c_t_acts, .int c_t_refused, .int c_t_knocks, .int c_t_thrown])), (a_t_forms, .inl (cyJ, 6, .inr (.inl f_t_forms)))] s.heap.size = A at hD ⊢
  have hA : ∀ q : Nat, s.heap.size ≤ q → A q := fun q h => by rw [← hAe]; exact Or.inr h
  have hS : va_S A s.heap s.heap [] := va_S.rf
  have hP : va_P D vwCl [(a_t, .inr (8, [.ref a_t_forms, .ref a_t_roll, .int c_t_many, .long c_t_taps, .int c_t_cells, .int c_t_acts, .int c_t_refused, .int c_t_knocks, .int c_t_thrown])), (a_t_forms, .inl (cyJ, 6, .inr (.inl f_t_forms)))] s.heap := hP
  have hK0 := hK
  have hl := lv_entry ([.ref a_t, .int p0, .int p1]) (n := 3) (Nat.le_of_ble_eq_true rfl)
  rw [lg_entry_eq]
  generalize (lg_sl ([.ref a_t, .int p0, .int p1]) ++ List.replicate (3 - (lg_sl ([.ref a_t, .int p0, .int p1])).length) Slot.unset).toArray = ls at hl ⊢
  have hl : lv_has ls 3 [(0, .ref a_t), (1, .int p0), (2, .int p1)] := hl
  have h := hF
  clear hF
  unfold F_X9_isPrime at h
  have hj27 : ∀ (js1_27 : Int32) (js2_27 : Int32) (c_t_thrown_j27 : Int32), J_X9_isPrime_27 p0 f_t_forms js1_27 js2_27 c_t_thrown_j27 = some (r0, o_c_t_thrown) → ∀ (H : Heap) (locs : List Loc), va_P D vwCl [(a_t, .inr (8, [.ref a_t_forms, .ref a_t_roll, .int c_t_many, .long c_t_taps, .int c_t_cells, .int c_t_acts, .int c_t_refused, .int c_t_knocks, .int c_t_thrown_j27])), (a_t_forms, .inl (cyJ, 6, .inr (.inl f_t_forms)))] H → va_D A [(a_t, .inr (8, [.ref a_t_forms, .ref a_t_roll, .int c_t_many, .long c_t_taps, .int c_t_cells, .int c_t_acts, .int c_t_refused, .int c_t_knocks, .int c_t_thrown_j27])), (a_t_forms, .inl (cyJ, 6, .inr (.inl f_t_forms)))] → va_S A s.heap H locs → ∀ (ls : Array Slot), lv_has ls 3 [(0, .ref a_t), (1, .int p0)] → W p l e rmX9_isPrime s m ([.ref a_t, .int p0, .int p1] : List Value).toArray below meth c H locs 0 0 (MQ below (va_Qi (fun (r : Int32) (_ : Unit) => r = r0) (fun _ t => wQA D [(a_t, .inr (8, [.ref a_t_forms, .ref a_t_roll, .int c_t_many, .long c_t_taps, .int c_t_cells, .int c_t_acts, .int c_t_refused, .int c_t_knocks, .int o_c_t_thrown])), (a_t_forms, .inl (cyJ, 6, .inr (.inl f_t_forms)))] A t) A) ([.ref a_t, .int p0, .int p1] : List Value).toArray s 0 0 A) (F0 m 27 ls [.int js2_27, .int js1_27, .ref a_t]) := by
    intro js1_27 js2_27 c_t_thrown_j27 h H locs hP hD hS ls hl
    unfold J_X9_isPrime_27 at h
    obtain ⟨r27, c_t_thrown_27, hc27, h⟩ := obn2_h h
    have hPc := hP.sub (ws' := [(a_t, .inr (8, [.ref a_t_forms, .ref a_t_roll, .int c_t_many, .long c_t_taps, .int c_t_cells, .int c_t_acts, .int c_t_refused, .int c_t_knocks, .int c_t_thrown_j27]))]) [0] rfl
    have hDc := hD.sub (ws' := [(a_t, .inr (8, [.ref a_t_forms, .ref a_t_roll, .int c_t_many, .long c_t_taps, .int c_t_cells, .int c_t_acts, .int c_t_refused, .int c_t_knocks, .int c_t_thrown_j27]))]) [0] (by decide) rfl
    refine hp_i (w1 := [(a_t, .inr (8, [.ref a_t_forms, .ref a_t_roll, .int c_t_many, .long c_t_taps, .int c_t_cells, .int c_t_acts, .int c_t_refused, .int c_t_knocks, .int c_t_thrown_27]))]) (wr := [(a_t_forms, .inl (cyJ, 6, .inr (.inl f_t_forms)))]) (va_runV (As := [.int js1_27, .int js2_27]) (rest := []) hcf (c_X9_isThrown l D cyJ H.size a_t a_t_forms a_t_roll c_t_many c_t_taps c_t_cells c_t_acts c_t_refused c_t_knocks c_t_thrown_j27 js1_27 js2_27 r27 c_t_thrown_27 hc27) (cwV 2 hts gX9_isPrime_X9_isThrown rfl rfl rfl ydX9_isThrown ⟨Nat.le_of_ble_eq_true rfl, Nat.le_of_ble_eq_true rfl⟩) ⟨bl_PD, va_recv hK hP (ci := 8) (q0 := 0) rfl rfl, pr_PD hPc hK0 hDc hnw⟩ rfl rfl hl.1 rfl (lv_room (Nat.le_of_ble_eq_true rfl)) dX9_isPrime_27 ⟨Nat.le_of_ble_eq_true rfl, Nat.le_of_ble_eq_true rfl⟩) hP hD hS hA [0] [1] rfl rfl (by decide) (by decide) (fun H locs hP hD hS => ?_)
    have hP : va_P D vwCl [(a_t_forms, .inl (cyJ, 6, .inr (.inl f_t_forms))), (a_t, .inr (8, [.ref a_t_forms, .ref a_t_roll, .int c_t_many, .long c_t_taps, .int c_t_cells, .int c_t_acts, .int c_t_refused, .int c_t_knocks, .int c_t_thrown_27]))] H := hP
    have hD : va_D A [(a_t_forms, .inl (cyJ, 6, .inr (.inl f_t_forms))), (a_t, .inr (8, [.ref a_t_forms, .ref a_t_roll, .int c_t_many, .long c_t_taps, .int c_t_cells, .int c_t_acts, .int c_t_refused, .int c_t_knocks, .int c_t_thrown_27]))] := hD
    refine lv_if_eq (tgt := 35) hx hb dX9_isPrime_30 (by decide) (fun c30 => ?_) (fun c30 => ?_)
    · have h := it_ c30 h
      refine lv_aload_n hx hb dX9_isPrime_35 rfl (lv_at hl 0 rfl) ?_
      refine va_get (D := D) (ci := 8) (v := .ref a_t_forms) (C := RX9) (T := TX9) (N := 9) hx hb hts hinX9 hown hK hP 1 rfl rfl 0 (by decide) hfl9 (fun _ h9 => h9) rfl dX9_isPrime_36 ?_
      refine lv_iload_n hx hb dX9_isPrime_39 rfl (lv_at hl 1 rfl) ?_
      obtain ⟨hq40, h⟩ := chk_h h
      refine va_lald hx hb hK hP 0 0 rfl rfl hq40 dX9_isPrime_40 ?_
      obtain ⟨r41, hc41, h⟩ := obn_h h
      refine pz_callS (As := [.long (f_t_forms p0.toNatClampNeg)]) (rest := []) hcf (c_X9_degreeOf l (f_t_forms p0.toNatClampNeg) r41 hc41) (va_cwS 1 hts gX9_isPrime_X9_degreeOf rfl rfl rfl ydX9_degreeOf ⟨Nat.le_of_ble_eq_true rfl, Nat.le_of_ble_eq_true rfl⟩) hnw rfl hl.1 rfl (Nat.le_of_ble_eq_true rfl) dX9_isPrime_41 ⟨Nat.le_of_ble_eq_true rfl, Nat.le_of_ble_eq_true rfl⟩ ?_
      refine lv_bipush (v := 10) hx hb dX9_isPrime_44 (by decide) ?_
      refine lv_icmp_le (tgt := 54) hx hb dX9_isPrime_46 (by decide) (fun c46 => ?_) (fun c46 => ?_)
      · have h := it_ c46 h
        refine lv_aload_n hx hb dX9_isPrime_54 rfl (lv_at hl 0 rfl) ?_
        refine va_get (D := D) (ci := 8) (v := .ref a_t_forms) (C := RX9) (T := TX9) (N := 9) hx hb hts hinX9 hown hK hP 1 rfl rfl 0 (by decide) hfl9 (fun _ h9 => h9) rfl dX9_isPrime_55 ?_
        refine lv_iload_n hx hb dX9_isPrime_58 rfl (lv_at hl 1 rfl) ?_
        obtain ⟨hq59, h⟩ := chk_h h
        refine va_lald hx hb hK hP 0 0 rfl rfl hq59 dX9_isPrime_59 ?_
        obtain ⟨r60, hc60, h⟩ := obn_h h
        refine pz_callS (As := [.long (f_t_forms p0.toNatClampNeg)]) (rest := []) hcf (c_X9_isPrimeNow l (f_t_forms p0.toNatClampNeg) r60 hc60) (va_cwS 1 hts gX9_isPrime_X9_isPrimeNow rfl rfl rfl ydX9_isPrimeNow ⟨Nat.le_of_ble_eq_true rfl, Nat.le_of_ble_eq_true rfl⟩) hnw rfl hl.1 rfl (Nat.le_of_ble_eq_true rfl) dX9_isPrime_60 ⟨Nat.le_of_ble_eq_true rfl, Nat.le_of_ble_eq_true rfl⟩ ?_
        refine lv_if_eq (tgt := 70) hx hb dX9_isPrime_63 (by decide) (fun c63 => ?_) (fun c63 => ?_)
        · have h := it_ c63 h
          refine lv_iconst (v := 0) hx hb dX9_isPrime_70 (by decide) ?_
          obtain ⟨e0, e1⟩ := tup2 h
          subst e0
          subst e1
          have hP9 : va_P D vwCl [(a_t, .inr (8, [.ref a_t_forms, .ref a_t_roll, .int c_t_many, .long c_t_taps, .int c_t_cells, .int c_t_acts, .int c_t_refused, .int c_t_knocks, .int c_t_thrown_27])), (a_t_forms, .inl (cyJ, 6, .inr (.inl f_t_forms)))] H := hP.sub [1, 0] rfl
          have hD9 : va_D A [(a_t, .inr (8, [.ref a_t_forms, .ref a_t_roll, .int c_t_many, .long c_t_taps, .int c_t_cells, .int c_t_acts, .int c_t_refused, .int c_t_knocks, .int c_t_thrown_27])), (a_t_forms, .inl (cyJ, 6, .inr (.inl f_t_forms)))] := hD.sub [1, 0] (by decide) rfl
          exact W.iret hx hb hr (fun t ht hW => ⟨⟨_, (), rfl, rfl, wQA_of ht hP9 hD9⟩, hS.F ht⟩) hS.2.2 dX9_isPrime_71
        · have h := if_ c63 h
          refine lv_iconst (v := 1) hx hb dX9_isPrime_66 (by decide) ?_
          refine lv_goto (tgt := 71) hx hb dX9_isPrime_67 (by decide) ?_
          obtain ⟨e0, e1⟩ := tup2 h
          subst e0
          subst e1
          have hP9 : va_P D vwCl [(a_t, .inr (8, [.ref a_t_forms, .ref a_t_roll, .int c_t_many, .long c_t_taps, .int c_t_cells, .int c_t_acts, .int c_t_refused, .int c_t_knocks, .int c_t_thrown_27])), (a_t_forms, .inl (cyJ, 6, .inr (.inl f_t_forms)))] H := hP.sub [1, 0] rfl
          have hD9 : va_D A [(a_t, .inr (8, [.ref a_t_forms, .ref a_t_roll, .int c_t_many, .long c_t_taps, .int c_t_cells, .int c_t_acts, .int c_t_refused, .int c_t_knocks, .int c_t_thrown_27])), (a_t_forms, .inl (cyJ, 6, .inr (.inl f_t_forms)))] := hD.sub [1, 0] (by decide) rfl
          exact W.iret hx hb hr (fun t ht hW => ⟨⟨_, (), rfl, rfl, wQA_of ht hP9 hD9⟩, hS.F ht⟩) hS.2.2 dX9_isPrime_71
      · have h := if_ c46 h
        refine lv_bipush (v := -9) hx hb dX9_isPrime_49 (by decide) ?_
        refine lv_goto (tgt := 71) hx hb dX9_isPrime_51 (by decide) ?_
        obtain ⟨e0, e1⟩ := tup2 h
        subst e0
        subst e1
        have hP9 : va_P D vwCl [(a_t, .inr (8, [.ref a_t_forms, .ref a_t_roll, .int c_t_many, .long c_t_taps, .int c_t_cells, .int c_t_acts, .int c_t_refused, .int c_t_knocks, .int c_t_thrown_27])), (a_t_forms, .inl (cyJ, 6, .inr (.inl f_t_forms)))] H := hP.sub [1, 0] rfl
        have hD9 : va_D A [(a_t, .inr (8, [.ref a_t_forms, .ref a_t_roll, .int c_t_many, .long c_t_taps, .int c_t_cells, .int c_t_acts, .int c_t_refused, .int c_t_knocks, .int c_t_thrown_27])), (a_t_forms, .inl (cyJ, 6, .inr (.inl f_t_forms)))] := hD.sub [1, 0] (by decide) rfl
        exact W.iret hx hb hr (fun t ht hW => ⟨⟨_, (), rfl, rfl, wQA_of ht hP9 hD9⟩, hS.F ht⟩) hS.2.2 dX9_isPrime_71
    · have h := if_ c30 h
      refine lv_iconst (v := 0) hx hb dX9_isPrime_33 (by decide) ?_
      obtain ⟨e0, e1⟩ := tup2 h
      subst e0
      subst e1
      have hP9 : va_P D vwCl [(a_t, .inr (8, [.ref a_t_forms, .ref a_t_roll, .int c_t_many, .long c_t_taps, .int c_t_cells, .int c_t_acts, .int c_t_refused, .int c_t_knocks, .int c_t_thrown_27])), (a_t_forms, .inl (cyJ, 6, .inr (.inl f_t_forms)))] H := hP.sub [1, 0] rfl
      have hD9 : va_D A [(a_t, .inr (8, [.ref a_t_forms, .ref a_t_roll, .int c_t_many, .long c_t_taps, .int c_t_cells, .int c_t_acts, .int c_t_refused, .int c_t_knocks, .int c_t_thrown_27])), (a_t_forms, .inl (cyJ, 6, .inr (.inl f_t_forms)))] := hD.sub [1, 0] (by decide) rfl
      exact W.iret hx hb hr (fun t ht hW => ⟨⟨_, (), rfl, rfl, wQA_of ht hP9 hD9⟩, hS.F ht⟩) hS.2.2 dX9_isPrime_34
  have hj22 : ∀ (js1_22 : Int32) (c_t_thrown_j22 : Int32), J_X9_isPrime_22 p0 f_t_forms js1_22 c_t_thrown_j22 = some (r0, o_c_t_thrown) → ∀ (H : Heap) (locs : List Loc), va_P D vwCl [(a_t, .inr (8, [.ref a_t_forms, .ref a_t_roll, .int c_t_many, .long c_t_taps, .int c_t_cells, .int c_t_acts, .int c_t_refused, .int c_t_knocks, .int c_t_thrown_j22])), (a_t_forms, .inl (cyJ, 6, .inr (.inl f_t_forms)))] H → va_D A [(a_t, .inr (8, [.ref a_t_forms, .ref a_t_roll, .int c_t_many, .long c_t_taps, .int c_t_cells, .int c_t_acts, .int c_t_refused, .int c_t_knocks, .int c_t_thrown_j22])), (a_t_forms, .inl (cyJ, 6, .inr (.inl f_t_forms)))] → va_S A s.heap H locs → ∀ (ls : Array Slot), lv_has ls 3 [(0, .ref a_t), (1, .int p0)] → W p l e rmX9_isPrime s m ([.ref a_t, .int p0, .int p1] : List Value).toArray below meth c H locs 0 0 (MQ below (va_Qi (fun (r : Int32) (_ : Unit) => r = r0) (fun _ t => wQA D [(a_t, .inr (8, [.ref a_t_forms, .ref a_t_roll, .int c_t_many, .long c_t_taps, .int c_t_cells, .int c_t_acts, .int c_t_refused, .int c_t_knocks, .int o_c_t_thrown])), (a_t_forms, .inl (cyJ, 6, .inr (.inl f_t_forms)))] A t) A) ([.ref a_t, .int p0, .int p1] : List Value).toArray s 0 0 A) (F0 m 22 ls [.int js1_22, .ref a_t]) := by
    intro js1_22 c_t_thrown_j22 h H locs hP hD hS ls hl
    unfold J_X9_isPrime_22 at h
    refine lv_iconst (v := 1) hx hb dX9_isPrime_22 (by decide) ?_
    refine lv_goto (tgt := 27) hx hb dX9_isPrime_23 (by decide) ?_
    exact hj27 js1_22 (1 : Int32) c_t_thrown_j22 h _ _ (hP.sub [0, 1] rfl) (hD.sub [0, 1] (by decide) rfl) hS ls (lv_sub hl [0, 1] rfl)
  have hj13 : ∀ (js1_13 : Int32) (c_t_thrown_j13 : Int32), J_X9_isPrime_13 p0 p1 f_t_forms js1_13 c_t_thrown_j13 = some (r0, o_c_t_thrown) → ∀ (H : Heap) (locs : List Loc), va_P D vwCl [(a_t, .inr (8, [.ref a_t_forms, .ref a_t_roll, .int c_t_many, .long c_t_taps, .int c_t_cells, .int c_t_acts, .int c_t_refused, .int c_t_knocks, .int c_t_thrown_j13])), (a_t_forms, .inl (cyJ, 6, .inr (.inl f_t_forms)))] H → va_D A [(a_t, .inr (8, [.ref a_t_forms, .ref a_t_roll, .int c_t_many, .long c_t_taps, .int c_t_cells, .int c_t_acts, .int c_t_refused, .int c_t_knocks, .int c_t_thrown_j13])), (a_t_forms, .inl (cyJ, 6, .inr (.inl f_t_forms)))] → va_S A s.heap H locs → ∀ (ls : Array Slot), lv_has ls 3 [(0, .ref a_t), (1, .int p0), (2, .int p1)] → W p l e rmX9_isPrime s m ([.ref a_t, .int p0, .int p1] : List Value).toArray below meth c H locs 0 0 (MQ below (va_Qi (fun (r : Int32) (_ : Unit) => r = r0) (fun _ t => wQA D [(a_t, .inr (8, [.ref a_t_forms, .ref a_t_roll, .int c_t_many, .long c_t_taps, .int c_t_cells, .int c_t_acts, .int c_t_refused, .int c_t_knocks, .int o_c_t_thrown])), (a_t_forms, .inl (cyJ, 6, .inr (.inl f_t_forms)))] A t) A) ([.ref a_t, .int p0, .int p1] : List Value).toArray s 0 0 A) (F0 m 13 ls [.int js1_13, .ref a_t]) := by
    intro js1_13 c_t_thrown_j13 h H locs hP hD hS ls hl
    unfold J_X9_isPrime_13 at h
    refine lv_iload_n hx hb dX9_isPrime_13 rfl (lv_at hl 2 rfl) ?_
    refine lv_if_lt (tgt := 22) hx hb dX9_isPrime_14 (by decide) (fun c14 => ?_) (fun c14 => ?_)
    · have h := it_ c14 h
      exact hj22 js1_13 c_t_thrown_j13 h _ _ (hP.sub [0, 1] rfl) (hD.sub [0, 1] (by decide) rfl) hS ls (lv_sub hl [0, 1] rfl)
    · have h := if_ c14 h
      refine lv_iload_n hx hb dX9_isPrime_17 rfl (lv_at hl 2 rfl) ?_
      refine lv_iconst (v := 1) hx hb dX9_isPrime_18 (by decide) ?_
      refine lv_icmp_le (tgt := 26) hx hb dX9_isPrime_19 (by decide) (fun c19 => ?_) (fun c19 => ?_)
      · have h := it_ c19 h
        refine lv_iconst (v := 0) hx hb dX9_isPrime_26 (by decide) ?_
        exact hj27 js1_13 (0 : Int32) c_t_thrown_j13 h _ _ (hP.sub [0, 1] rfl) (hD.sub [0, 1] (by decide) rfl) hS ls (lv_sub hl [0, 1] rfl)
      · have h := if_ c19 h
        exact hj22 js1_13 c_t_thrown_j13 h _ _ (hP.sub [0, 1] rfl) (hD.sub [0, 1] (by decide) rfl) hS ls (lv_sub hl [0, 1] rfl)
  refine lv_aload_n hx hb dX9_isPrime_0 rfl (lv_at hl 0 rfl) ?_
  refine lv_iload_n hx hb dX9_isPrime_1 rfl (lv_at hl 1 rfl) ?_
  obtain ⟨r2, hc2, h⟩ := obn_h h
  refine pz_callS (As := [.int p0]) (rest := [.ref a_t]) hcf (c_X9_isForm l p0 r2 hc2) (va_cwS 1 hts gX9_isPrime_X9_isForm rfl rfl rfl ydX9_isForm ⟨Nat.le_of_ble_eq_true rfl, Nat.le_of_ble_eq_true rfl⟩) hnw rfl hl.1 rfl (Nat.le_of_ble_eq_true rfl) dX9_isPrime_2 ⟨Nat.le_of_ble_eq_true rfl, Nat.le_of_ble_eq_true rfl⟩ ?_
  refine lv_if_ne (tgt := 12) hx hb dX9_isPrime_5 (by decide) (fun c5 => ?_) (fun c5 => ?_)
  · have h := if_ c5 h
    refine lv_iconst (v := 0) hx hb dX9_isPrime_12 (by decide) ?_
    exact hj13 (0 : Int32) c_t_thrown h _ _ (hP.sub [0, 1] rfl) (hD.sub [0, 1] (by decide) rfl) hS ls (lv_sub hl [0, 1, 2] rfl)
  · have h := it_ c5 h
    refine lv_iconst (v := 1) hx hb dX9_isPrime_8 (by decide) ?_
    refine lv_goto (tgt := 13) hx hb dX9_isPrime_9 (by decide) ?_
    exact hj13 (1 : Int32) c_t_thrown h _ _ (hP.sub [0, 1] rfl) (hD.sub [0, 1] (by decide) rfl) hS ls (lv_sub hl [0, 1, 2] rfl)

noncomputable abbrev rmX9_primes : Room := { frames := 7, cells := 0, slots := 0, locals := 162 }
theorem ydX9_primes : yX9_primes.cls = RX9 ∧ yX9_primes.cls ≠ "java/lang/invoke/MethodHandle" ∧ yX9_primes.cls ≠ "java/lang/invoke/VarHandle" ∧ (parseMethodDescriptor yX9_primes.desc).map (fun d => d.parameters.length) = some 2 := by decide +kernel
noncomputable def F_X9_primes (p0 : Int32) (p1 : Int32) : Option (Int32 × Int32) :=
 (if p1 < 0 then
 obn2 (F_X9_isThrown_ (1 : Int32)) (fun r35 c_t_thrown_35 =>
 (if r35 = 0 then
 obn (F_X9_primesOf p0) (fun r46 =>
 some (r46, c_t_thrown_35))
else
 some ((0 : Int32), c_t_thrown_35)))
else
 (if (1 : Int32) < p1 then
 obn2 (F_X9_isThrown_ (1 : Int32)) (fun r35 c_t_thrown_35 =>
 (if r35 = 0 then
 obn (F_X9_primesOf p0) (fun r46 =>
 some (r46, c_t_thrown_35))
else
 some ((0 : Int32), c_t_thrown_35)))
else
 (if p0 < (1 : Int32) then
 obn2 (F_X9_isThrown_ (1 : Int32)) (fun r35 c_t_thrown_35 =>
 (if r35 = 0 then
 obn (F_X9_primesOf p0) (fun r46 =>
 some (r46, c_t_thrown_35))
else
 some ((0 : Int32), c_t_thrown_35)))
else
 (if p1 = 0 then
 (if p0 ≤ (10 : Int32) then
 obn2 (F_X9_isThrown_ (0 : Int32)) (fun r35 c_t_thrown_35 =>
 (if r35 = 0 then
 obn (F_X9_primesOf p0) (fun r46 =>
 some (r46, c_t_thrown_35))
else
 some ((0 : Int32), c_t_thrown_35)))
else
 obn2 (F_X9_isThrown_ (1 : Int32)) (fun r35 c_t_thrown_35 =>
 (if r35 = 0 then
 obn (F_X9_primesOf p0) (fun r46 =>
 some (r46, c_t_thrown_35))
else
 some ((0 : Int32), c_t_thrown_35))))
else
 (if p0 ≤ (6 : Int32) then
 obn2 (F_X9_isThrown_ (0 : Int32)) (fun r35 c_t_thrown_35 =>
 (if r35 = 0 then
 obn (F_X9_primesOf p0) (fun r46 =>
 some (r46, c_t_thrown_35))
else
 some ((0 : Int32), c_t_thrown_35)))
else
 obn2 (F_X9_isThrown_ (1 : Int32)) (fun r35 c_t_thrown_35 =>
 (if r35 = 0 then
 obn (F_X9_primesOf p0) (fun r46 =>
 some (r46, c_t_thrown_35))
else
 some ((0 : Int32), c_t_thrown_35))))))))
set_option maxHeartbeats 4000000 in
set_option maxRecDepth 100000 in
theorem c_X9_primes (l : Launch) (D : va_G) (cyJ : ClassId) (sz : Nat) (a_t : Nat) (a_t_forms : Nat) (a_t_roll : Nat) (c_t_many : Int32) (c_t_taps : Int64) (c_t_cells : Int32) (c_t_acts : Int32) (c_t_refused : Int32) (c_t_knocks : Int32) (c_t_thrown : Int32) (p0 : Int32) (p1 : Int32) (r0 : Int32) (o_c_t_thrown : Int32) (hF : F_X9_primes p0 p1 = some (r0, o_c_t_thrown)) : Met l yX9_primes wsX9_primes rmX9_primes (va_Pc [.ref a_t, .int p0, .int p1] (wPD D [(cyJ, .long)] [(a_t, .inr (8, [.ref a_t_forms, .ref a_t_roll, .int c_t_many, .long c_t_taps, .int c_t_cells, .int c_t_acts, .int c_t_refused, .int c_t_knocks, .int c_t_thrown]))] sz)) (va_Qi (fun (r : Int32) (_ : Unit) => r = r0) (fun _ t => wQA D [(a_t, .inr (8, [.ref a_t_forms, .ref a_t_roll, .int c_t_many, .long c_t_taps, .int c_t_cells, .int c_t_acts, .int c_t_refused, .int c_t_knocks, .int o_c_t_thrown]))] (va_A [(a_t, .inr (8, [.ref a_t_forms, .ref a_t_roll, .int c_t_many, .long c_t_taps, .int c_t_cells, .int c_t_acts, .int c_t_refused, .int c_t_knocks, .int c_t_thrown]))] sz) t) (va_A [(a_t, .inr (8, [.ref a_t_forms, .ref a_t_roll, .int c_t_many, .long c_t_taps, .int c_t_cells, .int c_t_acts, .int c_t_refused, .int c_t_knocks, .int c_t_thrown]))] sz)) 0 0 (va_A [(a_t, .inr (8, [.ref a_t_forms, .ref a_t_roll, .int c_t_many, .long c_t_taps, .int c_t_cells, .int c_t_acts, .int c_t_refused, .int c_t_knocks, .int c_t_thrown]))] sz) := by
  refine Met.ofW (cc := cX9_primes) (maxL := 3) (ret := (some .int)) (by decide) rfl ?_
  intro p e s m args below meth c s₁ B hml hv
  obtain ⟨rfl, hsz, hP, hK, hD0, hnw⟩ := hv
  have hx := B.exec
  have hb := B.bytes
  have hr := B.returns
  have hts := atoms_spec (ws := wsX9_primes) B.pre
  have hown : s.vm.findClass RX9 = some m.cls := findClass_of_methodNamed B.named
  have hlocks := B.notSynchronized
  have hcf : CallFix _ _ _ _ _ _ _ _ _ := ⟨hx, hb, hml, hown, hts⟩
  subst hsz
  have hD := hD0.self (sz := s.heap.size)
  generalize hAe : va_A [(a_t, .inr (8, [.ref a_t_forms, .ref a_t_roll, .int c_t_many, .long c_t_taps, .int c_t_cells, .int c_t_acts, .int c_t_refused, .int c_t_knocks, .int c_t_thrown]))] s.heap.size = A at hD ⊢
  have hA : ∀ q : Nat, s.heap.size ≤ q → A q := fun q h => by rw [← hAe]; exact Or.inr h
  have hS : va_S A s.heap s.heap [] := va_S.rf
  have hP : va_P D vwCl [(a_t, .inr (8, [.ref a_t_forms, .ref a_t_roll, .int c_t_many, .long c_t_taps, .int c_t_cells, .int c_t_acts, .int c_t_refused, .int c_t_knocks, .int c_t_thrown]))] s.heap := hP
  have hK0 := hK
  have hl := lv_entry ([.ref a_t, .int p0, .int p1]) (n := 3) (Nat.le_of_ble_eq_true rfl)
  rw [lg_entry_eq]
  generalize (lg_sl ([.ref a_t, .int p0, .int p1]) ++ List.replicate (3 - (lg_sl ([.ref a_t, .int p0, .int p1])).length) Slot.unset).toArray = ls at hl ⊢
  have hl : lv_has ls 3 [(0, .ref a_t), (1, .int p0), (2, .int p1)] := hl
  have h := hF
  clear hF
  unfold F_X9_primes at h
  refine lv_aload_n hx hb dX9_primes_0 rfl (lv_at hl 0 rfl) ?_
  refine lv_iload_n hx hb dX9_primes_1 rfl (lv_at hl 2 rfl) ?_
  refine lv_if_lt (tgt := 30) hx hb dX9_primes_2 (by decide) (fun c2 => ?_) (fun c2 => ?_)
  · have h := it_ c2 h
    refine lv_iconst (v := 1) hx hb dX9_primes_30 (by decide) ?_
    refine lv_goto (tgt := 35) hx hb dX9_primes_31 (by decide) ?_
    obtain ⟨r35, c_t_thrown_35, hc35, h⟩ := obn2_h h
    have hPc := hP.sub (ws' := [(a_t, .inr (8, [.ref a_t_forms, .ref a_t_roll, .int c_t_many, .long c_t_taps, .int c_t_cells, .int c_t_acts, .int c_t_refused, .int c_t_knocks, .int c_t_thrown]))]) [0] rfl
    have hDc := hD.sub (ws' := [(a_t, .inr (8, [.ref a_t_forms, .ref a_t_roll, .int c_t_many, .long c_t_taps, .int c_t_cells, .int c_t_acts, .int c_t_refused, .int c_t_knocks, .int c_t_thrown]))]) [0] (by decide) rfl
    refine hp_i (w1 := [(a_t, .inr (8, [.ref a_t_forms, .ref a_t_roll, .int c_t_many, .long c_t_taps, .int c_t_cells, .int c_t_acts, .int c_t_refused, .int c_t_knocks, .int c_t_thrown_35]))]) (wr := []) (va_runV (As := [.int (1 : Int32)]) (rest := []) hcf (c_X9_isThrown_ l D cyJ s.heap.size a_t a_t_forms a_t_roll c_t_many c_t_taps c_t_cells c_t_acts c_t_refused c_t_knocks c_t_thrown (1 : Int32) r35 c_t_thrown_35 hc35) (cwV 1 hts gX9_primes_X9_isThrown_ rfl rfl rfl ydX9_isThrown_ ⟨Nat.le_of_ble_eq_true rfl, Nat.le_of_ble_eq_true rfl⟩) ⟨bl_PD, va_recv hK hP (ci := 8) (q0 := 0) rfl rfl, pr_PD hPc hK0 hDc hnw⟩ rfl rfl hl.1 rfl (lv_room (Nat.le_of_ble_eq_true rfl)) dX9_primes_35 ⟨Nat.le_of_ble_eq_true rfl, Nat.le_of_ble_eq_true rfl⟩) hP hD hS hA [0] [] rfl rfl (by decide) (by decide) (fun H locs hP hD hS => ?_)
    have hP : va_P D vwCl [(a_t, .inr (8, [.ref a_t_forms, .ref a_t_roll, .int c_t_many, .long c_t_taps, .int c_t_cells, .int c_t_acts, .int c_t_refused, .int c_t_knocks, .int c_t_thrown_35]))] H := hP
    have hD : va_D A [(a_t, .inr (8, [.ref a_t_forms, .ref a_t_roll, .int c_t_many, .long c_t_taps, .int c_t_cells, .int c_t_acts, .int c_t_refused, .int c_t_knocks, .int c_t_thrown_35]))] := hD
    refine lv_if_eq (tgt := 45) hx hb dX9_primes_38 (by decide) (fun c38 => ?_) (fun c38 => ?_)
    · have h := it_ c38 h
      refine lv_iload_n hx hb dX9_primes_45 rfl (lv_at hl 1 rfl) ?_
      obtain ⟨r46, hc46, h⟩ := obn_h h
      refine pz_callS (As := [.int p0]) (rest := []) hcf (c_X9_primesOf l p0 r46 hc46) (va_cwS 1 hts gX9_primes_X9_primesOf rfl rfl rfl ydX9_primesOf ⟨Nat.le_of_ble_eq_true rfl, Nat.le_of_ble_eq_true rfl⟩) hnw rfl hl.1 rfl (Nat.le_of_ble_eq_true rfl) dX9_primes_46 ⟨Nat.le_of_ble_eq_true rfl, Nat.le_of_ble_eq_true rfl⟩ ?_
      obtain ⟨e0, e1⟩ := tup2 h
      subst e0
      subst e1
      have hP9 : va_P D vwCl [(a_t, .inr (8, [.ref a_t_forms, .ref a_t_roll, .int c_t_many, .long c_t_taps, .int c_t_cells, .int c_t_acts, .int c_t_refused, .int c_t_knocks, .int c_t_thrown_35]))] H := hP.sub [0] rfl
      have hD9 : va_D A [(a_t, .inr (8, [.ref a_t_forms, .ref a_t_roll, .int c_t_many, .long c_t_taps, .int c_t_cells, .int c_t_acts, .int c_t_refused, .int c_t_knocks, .int c_t_thrown_35]))] := hD.sub [0] (by decide) rfl
      exact W.iret hx hb hr (fun t ht hW => ⟨⟨_, (), rfl, rfl, wQA_of ht hP9 hD9⟩, hS.F ht⟩) hS.2.2 dX9_primes_49
    · have h := if_ c38 h
      refine lv_iconst (v := 0) hx hb dX9_primes_41 (by decide) ?_
      refine lv_goto (tgt := 49) hx hb dX9_primes_42 (by decide) ?_
      obtain ⟨e0, e1⟩ := tup2 h
      subst e0
      subst e1
      have hP9 : va_P D vwCl [(a_t, .inr (8, [.ref a_t_forms, .ref a_t_roll, .int c_t_many, .long c_t_taps, .int c_t_cells, .int c_t_acts, .int c_t_refused, .int c_t_knocks, .int c_t_thrown_35]))] H := hP.sub [0] rfl
      have hD9 : va_D A [(a_t, .inr (8, [.ref a_t_forms, .ref a_t_roll, .int c_t_many, .long c_t_taps, .int c_t_cells, .int c_t_acts, .int c_t_refused, .int c_t_knocks, .int c_t_thrown_35]))] := hD.sub [0] (by decide) rfl
      exact W.iret hx hb hr (fun t ht hW => ⟨⟨_, (), rfl, rfl, wQA_of ht hP9 hD9⟩, hS.F ht⟩) hS.2.2 dX9_primes_49
  · have h := if_ c2 h
    refine lv_iload_n hx hb dX9_primes_5 rfl (lv_at hl 2 rfl) ?_
    refine lv_iconst (v := 1) hx hb dX9_primes_6 (by decide) ?_
    refine lv_icmp_gt (tgt := 30) hx hb dX9_primes_7 (by decide) (fun c7 => ?_) (fun c7 => ?_)
    · have h := it_ c7 h
      refine lv_iconst (v := 1) hx hb dX9_primes_30 (by decide) ?_
      refine lv_goto (tgt := 35) hx hb dX9_primes_31 (by decide) ?_
      obtain ⟨r35, c_t_thrown_35, hc35, h⟩ := obn2_h h
      have hPc := hP.sub (ws' := [(a_t, .inr (8, [.ref a_t_forms, .ref a_t_roll, .int c_t_many, .long c_t_taps, .int c_t_cells, .int c_t_acts, .int c_t_refused, .int c_t_knocks, .int c_t_thrown]))]) [0] rfl
      have hDc := hD.sub (ws' := [(a_t, .inr (8, [.ref a_t_forms, .ref a_t_roll, .int c_t_many, .long c_t_taps, .int c_t_cells, .int c_t_acts, .int c_t_refused, .int c_t_knocks, .int c_t_thrown]))]) [0] (by decide) rfl
      refine hp_i (w1 := [(a_t, .inr (8, [.ref a_t_forms, .ref a_t_roll, .int c_t_many, .long c_t_taps, .int c_t_cells, .int c_t_acts, .int c_t_refused, .int c_t_knocks, .int c_t_thrown_35]))]) (wr := []) (va_runV (As := [.int (1 : Int32)]) (rest := []) hcf (c_X9_isThrown_ l D cyJ s.heap.size a_t a_t_forms a_t_roll c_t_many c_t_taps c_t_cells c_t_acts c_t_refused c_t_knocks c_t_thrown (1 : Int32) r35 c_t_thrown_35 hc35) (cwV 1 hts gX9_primes_X9_isThrown_ rfl rfl rfl ydX9_isThrown_ ⟨Nat.le_of_ble_eq_true rfl, Nat.le_of_ble_eq_true rfl⟩) ⟨bl_PD, va_recv hK hP (ci := 8) (q0 := 0) rfl rfl, pr_PD hPc hK0 hDc hnw⟩ rfl rfl hl.1 rfl (lv_room (Nat.le_of_ble_eq_true rfl)) dX9_primes_35 ⟨Nat.le_of_ble_eq_true rfl, Nat.le_of_ble_eq_true rfl⟩) hP hD hS hA [0] [] rfl rfl (by decide) (by decide) (fun H locs hP hD hS => ?_)
      have hP : va_P D vwCl [(a_t, .inr (8, [.ref a_t_forms, .ref a_t_roll, .int c_t_many, .long c_t_taps, .int c_t_cells, .int c_t_acts, .int c_t_refused, .int c_t_knocks, .int c_t_thrown_35]))] H := hP
      have hD : va_D A [(a_t, .inr (8, [.ref a_t_forms, .ref a_t_roll, .int c_t_many, .long c_t_taps, .int c_t_cells, .int c_t_acts, .int c_t_refused, .int c_t_knocks, .int c_t_thrown_35]))] := hD
      refine lv_if_eq (tgt := 45) hx hb dX9_primes_38 (by decide) (fun c38 => ?_) (fun c38 => ?_)
      · have h := it_ c38 h
        refine lv_iload_n hx hb dX9_primes_45 rfl (lv_at hl 1 rfl) ?_
        obtain ⟨r46, hc46, h⟩ := obn_h h
        refine pz_callS (As := [.int p0]) (rest := []) hcf (c_X9_primesOf l p0 r46 hc46) (va_cwS 1 hts gX9_primes_X9_primesOf rfl rfl rfl ydX9_primesOf ⟨Nat.le_of_ble_eq_true rfl, Nat.le_of_ble_eq_true rfl⟩) hnw rfl hl.1 rfl (Nat.le_of_ble_eq_true rfl) dX9_primes_46 ⟨Nat.le_of_ble_eq_true rfl, Nat.le_of_ble_eq_true rfl⟩ ?_
        obtain ⟨e0, e1⟩ := tup2 h
        subst e0
        subst e1
        have hP9 : va_P D vwCl [(a_t, .inr (8, [.ref a_t_forms, .ref a_t_roll, .int c_t_many, .long c_t_taps, .int c_t_cells, .int c_t_acts, .int c_t_refused, .int c_t_knocks, .int c_t_thrown_35]))] H := hP.sub [0] rfl
        have hD9 : va_D A [(a_t, .inr (8, [.ref a_t_forms, .ref a_t_roll, .int c_t_many, .long c_t_taps, .int c_t_cells, .int c_t_acts, .int c_t_refused, .int c_t_knocks, .int c_t_thrown_35]))] := hD.sub [0] (by decide) rfl
        exact W.iret hx hb hr (fun t ht hW => ⟨⟨_, (), rfl, rfl, wQA_of ht hP9 hD9⟩, hS.F ht⟩) hS.2.2 dX9_primes_49
      · have h := if_ c38 h
        refine lv_iconst (v := 0) hx hb dX9_primes_41 (by decide) ?_
        refine lv_goto (tgt := 49) hx hb dX9_primes_42 (by decide) ?_
        obtain ⟨e0, e1⟩ := tup2 h
        subst e0
        subst e1
        have hP9 : va_P D vwCl [(a_t, .inr (8, [.ref a_t_forms, .ref a_t_roll, .int c_t_many, .long c_t_taps, .int c_t_cells, .int c_t_acts, .int c_t_refused, .int c_t_knocks, .int c_t_thrown_35]))] H := hP.sub [0] rfl
        have hD9 : va_D A [(a_t, .inr (8, [.ref a_t_forms, .ref a_t_roll, .int c_t_many, .long c_t_taps, .int c_t_cells, .int c_t_acts, .int c_t_refused, .int c_t_knocks, .int c_t_thrown_35]))] := hD.sub [0] (by decide) rfl
        exact W.iret hx hb hr (fun t ht hW => ⟨⟨_, (), rfl, rfl, wQA_of ht hP9 hD9⟩, hS.F ht⟩) hS.2.2 dX9_primes_49
    · have h := if_ c7 h
      refine lv_iload_n hx hb dX9_primes_10 rfl (lv_at hl 1 rfl) ?_
      refine lv_iconst (v := 1) hx hb dX9_primes_11 (by decide) ?_
      refine lv_icmp_lt (tgt := 30) hx hb dX9_primes_12 (by decide) (fun c12 => ?_) (fun c12 => ?_)
      · have h := it_ c12 h
        refine lv_iconst (v := 1) hx hb dX9_primes_30 (by decide) ?_
        refine lv_goto (tgt := 35) hx hb dX9_primes_31 (by decide) ?_
        obtain ⟨r35, c_t_thrown_35, hc35, h⟩ := obn2_h h
        have hPc := hP.sub (ws' := [(a_t, .inr (8, [.ref a_t_forms, .ref a_t_roll, .int c_t_many, .long c_t_taps, .int c_t_cells, .int c_t_acts, .int c_t_refused, .int c_t_knocks, .int c_t_thrown]))]) [0] rfl
        have hDc := hD.sub (ws' := [(a_t, .inr (8, [.ref a_t_forms, .ref a_t_roll, .int c_t_many, .long c_t_taps, .int c_t_cells, .int c_t_acts, .int c_t_refused, .int c_t_knocks, .int c_t_thrown]))]) [0] (by decide) rfl
        refine hp_i (w1 := [(a_t, .inr (8, [.ref a_t_forms, .ref a_t_roll, .int c_t_many, .long c_t_taps, .int c_t_cells, .int c_t_acts, .int c_t_refused, .int c_t_knocks, .int c_t_thrown_35]))]) (wr := []) (va_runV (As := [.int (1 : Int32)]) (rest := []) hcf (c_X9_isThrown_ l D cyJ s.heap.size a_t a_t_forms a_t_roll c_t_many c_t_taps c_t_cells c_t_acts c_t_refused c_t_knocks c_t_thrown (1 : Int32) r35 c_t_thrown_35 hc35) (cwV 1 hts gX9_primes_X9_isThrown_ rfl rfl rfl ydX9_isThrown_ ⟨Nat.le_of_ble_eq_true rfl, Nat.le_of_ble_eq_true rfl⟩) ⟨bl_PD, va_recv hK hP (ci := 8) (q0 := 0) rfl rfl, pr_PD hPc hK0 hDc hnw⟩ rfl rfl hl.1 rfl (lv_room (Nat.le_of_ble_eq_true rfl)) dX9_primes_35 ⟨Nat.le_of_ble_eq_true rfl, Nat.le_of_ble_eq_true rfl⟩) hP hD hS hA [0] [] rfl rfl (by decide) (by decide) (fun H locs hP hD hS => ?_)
        have hP : va_P D vwCl [(a_t, .inr (8, [.ref a_t_forms, .ref a_t_roll, .int c_t_many, .long c_t_taps, .int c_t_cells, .int c_t_acts, .int c_t_refused, .int c_t_knocks, .int c_t_thrown_35]))] H := hP
        have hD : va_D A [(a_t, .inr (8, [.ref a_t_forms, .ref a_t_roll, .int c_t_many, .long c_t_taps, .int c_t_cells, .int c_t_acts, .int c_t_refused, .int c_t_knocks, .int c_t_thrown_35]))] := hD
        refine lv_if_eq (tgt := 45) hx hb dX9_primes_38 (by decide) (fun c38 => ?_) (fun c38 => ?_)
        · have h := it_ c38 h
          refine lv_iload_n hx hb dX9_primes_45 rfl (lv_at hl 1 rfl) ?_
          obtain ⟨r46, hc46, h⟩ := obn_h h
          refine pz_callS (As := [.int p0]) (rest := []) hcf (c_X9_primesOf l p0 r46 hc46) (va_cwS 1 hts gX9_primes_X9_primesOf rfl rfl rfl ydX9_primesOf ⟨Nat.le_of_ble_eq_true rfl, Nat.le_of_ble_eq_true rfl⟩) hnw rfl hl.1 rfl (Nat.le_of_ble_eq_true rfl) dX9_primes_46 ⟨Nat.le_of_ble_eq_true rfl, Nat.le_of_ble_eq_true rfl⟩ ?_
          obtain ⟨e0, e1⟩ := tup2 h
          subst e0
          subst e1
          have hP9 : va_P D vwCl [(a_t, .inr (8, [.ref a_t_forms, .ref a_t_roll, .int c_t_many, .long c_t_taps, .int c_t_cells, .int c_t_acts, .int c_t_refused, .int c_t_knocks, .int c_t_thrown_35]))] H := hP.sub [0] rfl
          have hD9 : va_D A [(a_t, .inr (8, [.ref a_t_forms, .ref a_t_roll, .int c_t_many, .long c_t_taps, .int c_t_cells, .int c_t_acts, .int c_t_refused, .int c_t_knocks, .int c_t_thrown_35]))] := hD.sub [0] (by decide) rfl
          exact W.iret hx hb hr (fun t ht hW => ⟨⟨_, (), rfl, rfl, wQA_of ht hP9 hD9⟩, hS.F ht⟩) hS.2.2 dX9_primes_49
        · have h := if_ c38 h
          refine lv_iconst (v := 0) hx hb dX9_primes_41 (by decide) ?_
          refine lv_goto (tgt := 49) hx hb dX9_primes_42 (by decide) ?_
          obtain ⟨e0, e1⟩ := tup2 h
          subst e0
          subst e1
          have hP9 : va_P D vwCl [(a_t, .inr (8, [.ref a_t_forms, .ref a_t_roll, .int c_t_many, .long c_t_taps, .int c_t_cells, .int c_t_acts, .int c_t_refused, .int c_t_knocks, .int c_t_thrown_35]))] H := hP.sub [0] rfl
          have hD9 : va_D A [(a_t, .inr (8, [.ref a_t_forms, .ref a_t_roll, .int c_t_many, .long c_t_taps, .int c_t_cells, .int c_t_acts, .int c_t_refused, .int c_t_knocks, .int c_t_thrown_35]))] := hD.sub [0] (by decide) rfl
          exact W.iret hx hb hr (fun t ht hW => ⟨⟨_, (), rfl, rfl, wQA_of ht hP9 hD9⟩, hS.F ht⟩) hS.2.2 dX9_primes_49
      · have h := if_ c12 h
        refine lv_iload_n hx hb dX9_primes_15 rfl (lv_at hl 1 rfl) ?_
        refine lv_iload_n hx hb dX9_primes_16 rfl (lv_at hl 2 rfl) ?_
        refine lv_if_ne (tgt := 25) hx hb dX9_primes_17 (by decide) (fun c17 => ?_) (fun c17 => ?_)
        · have h := if_ c17 h
          refine lv_bipush (v := 6) hx hb dX9_primes_25 (by decide) ?_
          refine lv_icmp_le (tgt := 34) hx hb dX9_primes_27 (by decide) (fun c27 => ?_) (fun c27 => ?_)
          · have h := it_ c27 h
            refine lv_iconst (v := 0) hx hb dX9_primes_34 (by decide) ?_
            obtain ⟨r35, c_t_thrown_35, hc35, h⟩ := obn2_h h
            have hPc := hP.sub (ws' := [(a_t, .inr (8, [.ref a_t_forms, .ref a_t_roll, .int c_t_many, .long c_t_taps, .int c_t_cells, .int c_t_acts, .int c_t_refused, .int c_t_knocks, .int c_t_thrown]))]) [0] rfl
            have hDc := hD.sub (ws' := [(a_t, .inr (8, [.ref a_t_forms, .ref a_t_roll, .int c_t_many, .long c_t_taps, .int c_t_cells, .int c_t_acts, .int c_t_refused, .int c_t_knocks, .int c_t_thrown]))]) [0] (by decide) rfl
            refine hp_i (w1 := [(a_t, .inr (8, [.ref a_t_forms, .ref a_t_roll, .int c_t_many, .long c_t_taps, .int c_t_cells, .int c_t_acts, .int c_t_refused, .int c_t_knocks, .int c_t_thrown_35]))]) (wr := []) (va_runV (As := [.int (0 : Int32)]) (rest := []) hcf (c_X9_isThrown_ l D cyJ s.heap.size a_t a_t_forms a_t_roll c_t_many c_t_taps c_t_cells c_t_acts c_t_refused c_t_knocks c_t_thrown (0 : Int32) r35 c_t_thrown_35 hc35) (cwV 1 hts gX9_primes_X9_isThrown_ rfl rfl rfl ydX9_isThrown_ ⟨Nat.le_of_ble_eq_true rfl, Nat.le_of_ble_eq_true rfl⟩) ⟨bl_PD, va_recv hK hP (ci := 8) (q0 := 0) rfl rfl, pr_PD hPc hK0 hDc hnw⟩ rfl rfl hl.1 rfl (lv_room (Nat.le_of_ble_eq_true rfl)) dX9_primes_35 ⟨Nat.le_of_ble_eq_true rfl, Nat.le_of_ble_eq_true rfl⟩) hP hD hS hA [0] [] rfl rfl (by decide) (by decide) (fun H locs hP hD hS => ?_)
            have hP : va_P D vwCl [(a_t, .inr (8, [.ref a_t_forms, .ref a_t_roll, .int c_t_many, .long c_t_taps, .int c_t_cells, .int c_t_acts, .int c_t_refused, .int c_t_knocks, .int c_t_thrown_35]))] H := hP
            have hD : va_D A [(a_t, .inr (8, [.ref a_t_forms, .ref a_t_roll, .int c_t_many, .long c_t_taps, .int c_t_cells, .int c_t_acts, .int c_t_refused, .int c_t_knocks, .int c_t_thrown_35]))] := hD
            refine lv_if_eq (tgt := 45) hx hb dX9_primes_38 (by decide) (fun c38 => ?_) (fun c38 => ?_)
            · have h := it_ c38 h
              refine lv_iload_n hx hb dX9_primes_45 rfl (lv_at hl 1 rfl) ?_
              obtain ⟨r46, hc46, h⟩ := obn_h h
              refine pz_callS (As := [.int p0]) (rest := []) hcf (c_X9_primesOf l p0 r46 hc46) (va_cwS 1 hts gX9_primes_X9_primesOf rfl rfl rfl ydX9_primesOf ⟨Nat.le_of_ble_eq_true rfl, Nat.le_of_ble_eq_true rfl⟩) hnw rfl hl.1 rfl (Nat.le_of_ble_eq_true rfl) dX9_primes_46 ⟨Nat.le_of_ble_eq_true rfl, Nat.le_of_ble_eq_true rfl⟩ ?_
              obtain ⟨e0, e1⟩ := tup2 h
              subst e0
              subst e1
              have hP9 : va_P D vwCl [(a_t, .inr (8, [.ref a_t_forms, .ref a_t_roll, .int c_t_many, .long c_t_taps, .int c_t_cells, .int c_t_acts, .int c_t_refused, .int c_t_knocks, .int c_t_thrown_35]))] H := hP.sub [0] rfl
              have hD9 : va_D A [(a_t, .inr (8, [.ref a_t_forms, .ref a_t_roll, .int c_t_many, .long c_t_taps, .int c_t_cells, .int c_t_acts, .int c_t_refused, .int c_t_knocks, .int c_t_thrown_35]))] := hD.sub [0] (by decide) rfl
              exact W.iret hx hb hr (fun t ht hW => ⟨⟨_, (), rfl, rfl, wQA_of ht hP9 hD9⟩, hS.F ht⟩) hS.2.2 dX9_primes_49
            · have h := if_ c38 h
              refine lv_iconst (v := 0) hx hb dX9_primes_41 (by decide) ?_
              refine lv_goto (tgt := 49) hx hb dX9_primes_42 (by decide) ?_
              obtain ⟨e0, e1⟩ := tup2 h
              subst e0
              subst e1
              have hP9 : va_P D vwCl [(a_t, .inr (8, [.ref a_t_forms, .ref a_t_roll, .int c_t_many, .long c_t_taps, .int c_t_cells, .int c_t_acts, .int c_t_refused, .int c_t_knocks, .int c_t_thrown_35]))] H := hP.sub [0] rfl
              have hD9 : va_D A [(a_t, .inr (8, [.ref a_t_forms, .ref a_t_roll, .int c_t_many, .long c_t_taps, .int c_t_cells, .int c_t_acts, .int c_t_refused, .int c_t_knocks, .int c_t_thrown_35]))] := hD.sub [0] (by decide) rfl
              exact W.iret hx hb hr (fun t ht hW => ⟨⟨_, (), rfl, rfl, wQA_of ht hP9 hD9⟩, hS.F ht⟩) hS.2.2 dX9_primes_49
          · have h := if_ c27 h
            refine lv_iconst (v := 1) hx hb dX9_primes_30 (by decide) ?_
            refine lv_goto (tgt := 35) hx hb dX9_primes_31 (by decide) ?_
            obtain ⟨r35, c_t_thrown_35, hc35, h⟩ := obn2_h h
            have hPc := hP.sub (ws' := [(a_t, .inr (8, [.ref a_t_forms, .ref a_t_roll, .int c_t_many, .long c_t_taps, .int c_t_cells, .int c_t_acts, .int c_t_refused, .int c_t_knocks, .int c_t_thrown]))]) [0] rfl
            have hDc := hD.sub (ws' := [(a_t, .inr (8, [.ref a_t_forms, .ref a_t_roll, .int c_t_many, .long c_t_taps, .int c_t_cells, .int c_t_acts, .int c_t_refused, .int c_t_knocks, .int c_t_thrown]))]) [0] (by decide) rfl
            refine hp_i (w1 := [(a_t, .inr (8, [.ref a_t_forms, .ref a_t_roll, .int c_t_many, .long c_t_taps, .int c_t_cells, .int c_t_acts, .int c_t_refused, .int c_t_knocks, .int c_t_thrown_35]))]) (wr := []) (va_runV (As := [.int (1 : Int32)]) (rest := []) hcf (c_X9_isThrown_ l D cyJ s.heap.size a_t a_t_forms a_t_roll c_t_many c_t_taps c_t_cells c_t_acts c_t_refused c_t_knocks c_t_thrown (1 : Int32) r35 c_t_thrown_35 hc35) (cwV 1 hts gX9_primes_X9_isThrown_ rfl rfl rfl ydX9_isThrown_ ⟨Nat.le_of_ble_eq_true rfl, Nat.le_of_ble_eq_true rfl⟩) ⟨bl_PD, va_recv hK hP (ci := 8) (q0 := 0) rfl rfl, pr_PD hPc hK0 hDc hnw⟩ rfl rfl hl.1 rfl (lv_room (Nat.le_of_ble_eq_true rfl)) dX9_primes_35 ⟨Nat.le_of_ble_eq_true rfl, Nat.le_of_ble_eq_true rfl⟩) hP hD hS hA [0] [] rfl rfl (by decide) (by decide) (fun H locs hP hD hS => ?_)
            have hP : va_P D vwCl [(a_t, .inr (8, [.ref a_t_forms, .ref a_t_roll, .int c_t_many, .long c_t_taps, .int c_t_cells, .int c_t_acts, .int c_t_refused, .int c_t_knocks, .int c_t_thrown_35]))] H := hP
            have hD : va_D A [(a_t, .inr (8, [.ref a_t_forms, .ref a_t_roll, .int c_t_many, .long c_t_taps, .int c_t_cells, .int c_t_acts, .int c_t_refused, .int c_t_knocks, .int c_t_thrown_35]))] := hD
            refine lv_if_eq (tgt := 45) hx hb dX9_primes_38 (by decide) (fun c38 => ?_) (fun c38 => ?_)
            · have h := it_ c38 h
              refine lv_iload_n hx hb dX9_primes_45 rfl (lv_at hl 1 rfl) ?_
              obtain ⟨r46, hc46, h⟩ := obn_h h
              refine pz_callS (As := [.int p0]) (rest := []) hcf (c_X9_primesOf l p0 r46 hc46) (va_cwS 1 hts gX9_primes_X9_primesOf rfl rfl rfl ydX9_primesOf ⟨Nat.le_of_ble_eq_true rfl, Nat.le_of_ble_eq_true rfl⟩) hnw rfl hl.1 rfl (Nat.le_of_ble_eq_true rfl) dX9_primes_46 ⟨Nat.le_of_ble_eq_true rfl, Nat.le_of_ble_eq_true rfl⟩ ?_
              obtain ⟨e0, e1⟩ := tup2 h
              subst e0
              subst e1
              have hP9 : va_P D vwCl [(a_t, .inr (8, [.ref a_t_forms, .ref a_t_roll, .int c_t_many, .long c_t_taps, .int c_t_cells, .int c_t_acts, .int c_t_refused, .int c_t_knocks, .int c_t_thrown_35]))] H := hP.sub [0] rfl
              have hD9 : va_D A [(a_t, .inr (8, [.ref a_t_forms, .ref a_t_roll, .int c_t_many, .long c_t_taps, .int c_t_cells, .int c_t_acts, .int c_t_refused, .int c_t_knocks, .int c_t_thrown_35]))] := hD.sub [0] (by decide) rfl
              exact W.iret hx hb hr (fun t ht hW => ⟨⟨_, (), rfl, rfl, wQA_of ht hP9 hD9⟩, hS.F ht⟩) hS.2.2 dX9_primes_49
            · have h := if_ c38 h
              refine lv_iconst (v := 0) hx hb dX9_primes_41 (by decide) ?_
              refine lv_goto (tgt := 49) hx hb dX9_primes_42 (by decide) ?_
              obtain ⟨e0, e1⟩ := tup2 h
              subst e0
              subst e1
              have hP9 : va_P D vwCl [(a_t, .inr (8, [.ref a_t_forms, .ref a_t_roll, .int c_t_many, .long c_t_taps, .int c_t_cells, .int c_t_acts, .int c_t_refused, .int c_t_knocks, .int c_t_thrown_35]))] H := hP.sub [0] rfl
              have hD9 : va_D A [(a_t, .inr (8, [.ref a_t_forms, .ref a_t_roll, .int c_t_many, .long c_t_taps, .int c_t_cells, .int c_t_acts, .int c_t_refused, .int c_t_knocks, .int c_t_thrown_35]))] := hD.sub [0] (by decide) rfl
              exact W.iret hx hb hr (fun t ht hW => ⟨⟨_, (), rfl, rfl, wQA_of ht hP9 hD9⟩, hS.F ht⟩) hS.2.2 dX9_primes_49
        · have h := it_ c17 h
          refine lv_bipush (v := 10) hx hb dX9_primes_20 (by decide) ?_
          refine lv_goto (tgt := 27) hx hb dX9_primes_22 (by decide) ?_
          refine lv_icmp_le (tgt := 34) hx hb dX9_primes_27 (by decide) (fun c27 => ?_) (fun c27 => ?_)
          · have h := it_ c27 h
            refine lv_iconst (v := 0) hx hb dX9_primes_34 (by decide) ?_
            obtain ⟨r35, c_t_thrown_35, hc35, h⟩ := obn2_h h
            have hPc := hP.sub (ws' := [(a_t, .inr (8, [.ref a_t_forms, .ref a_t_roll, .int c_t_many, .long c_t_taps, .int c_t_cells, .int c_t_acts, .int c_t_refused, .int c_t_knocks, .int c_t_thrown]))]) [0] rfl
            have hDc := hD.sub (ws' := [(a_t, .inr (8, [.ref a_t_forms, .ref a_t_roll, .int c_t_many, .long c_t_taps, .int c_t_cells, .int c_t_acts, .int c_t_refused, .int c_t_knocks, .int c_t_thrown]))]) [0] (by decide) rfl
            refine hp_i (w1 := [(a_t, .inr (8, [.ref a_t_forms, .ref a_t_roll, .int c_t_many, .long c_t_taps, .int c_t_cells, .int c_t_acts, .int c_t_refused, .int c_t_knocks, .int c_t_thrown_35]))]) (wr := []) (va_runV (As := [.int (0 : Int32)]) (rest := []) hcf (c_X9_isThrown_ l D cyJ s.heap.size a_t a_t_forms a_t_roll c_t_many c_t_taps c_t_cells c_t_acts c_t_refused c_t_knocks c_t_thrown (0 : Int32) r35 c_t_thrown_35 hc35) (cwV 1 hts gX9_primes_X9_isThrown_ rfl rfl rfl ydX9_isThrown_ ⟨Nat.le_of_ble_eq_true rfl, Nat.le_of_ble_eq_true rfl⟩) ⟨bl_PD, va_recv hK hP (ci := 8) (q0 := 0) rfl rfl, pr_PD hPc hK0 hDc hnw⟩ rfl rfl hl.1 rfl (lv_room (Nat.le_of_ble_eq_true rfl)) dX9_primes_35 ⟨Nat.le_of_ble_eq_true rfl, Nat.le_of_ble_eq_true rfl⟩) hP hD hS hA [0] [] rfl rfl (by decide) (by decide) (fun H locs hP hD hS => ?_)
            have hP : va_P D vwCl [(a_t, .inr (8, [.ref a_t_forms, .ref a_t_roll, .int c_t_many, .long c_t_taps, .int c_t_cells, .int c_t_acts, .int c_t_refused, .int c_t_knocks, .int c_t_thrown_35]))] H := hP
            have hD : va_D A [(a_t, .inr (8, [.ref a_t_forms, .ref a_t_roll, .int c_t_many, .long c_t_taps, .int c_t_cells, .int c_t_acts, .int c_t_refused, .int c_t_knocks, .int c_t_thrown_35]))] := hD
            refine lv_if_eq (tgt := 45) hx hb dX9_primes_38 (by decide) (fun c38 => ?_) (fun c38 => ?_)
            · have h := it_ c38 h
              refine lv_iload_n hx hb dX9_primes_45 rfl (lv_at hl 1 rfl) ?_
              obtain ⟨r46, hc46, h⟩ := obn_h h
              refine pz_callS (As := [.int p0]) (rest := []) hcf (c_X9_primesOf l p0 r46 hc46) (va_cwS 1 hts gX9_primes_X9_primesOf rfl rfl rfl ydX9_primesOf ⟨Nat.le_of_ble_eq_true rfl, Nat.le_of_ble_eq_true rfl⟩) hnw rfl hl.1 rfl (Nat.le_of_ble_eq_true rfl) dX9_primes_46 ⟨Nat.le_of_ble_eq_true rfl, Nat.le_of_ble_eq_true rfl⟩ ?_
              obtain ⟨e0, e1⟩ := tup2 h
              subst e0
              subst e1
              have hP9 : va_P D vwCl [(a_t, .inr (8, [.ref a_t_forms, .ref a_t_roll, .int c_t_many, .long c_t_taps, .int c_t_cells, .int c_t_acts, .int c_t_refused, .int c_t_knocks, .int c_t_thrown_35]))] H := hP.sub [0] rfl
              have hD9 : va_D A [(a_t, .inr (8, [.ref a_t_forms, .ref a_t_roll, .int c_t_many, .long c_t_taps, .int c_t_cells, .int c_t_acts, .int c_t_refused, .int c_t_knocks, .int c_t_thrown_35]))] := hD.sub [0] (by decide) rfl
              exact W.iret hx hb hr (fun t ht hW => ⟨⟨_, (), rfl, rfl, wQA_of ht hP9 hD9⟩, hS.F ht⟩) hS.2.2 dX9_primes_49
            · have h := if_ c38 h
              refine lv_iconst (v := 0) hx hb dX9_primes_41 (by decide) ?_
              refine lv_goto (tgt := 49) hx hb dX9_primes_42 (by decide) ?_
              obtain ⟨e0, e1⟩ := tup2 h
              subst e0
              subst e1
              have hP9 : va_P D vwCl [(a_t, .inr (8, [.ref a_t_forms, .ref a_t_roll, .int c_t_many, .long c_t_taps, .int c_t_cells, .int c_t_acts, .int c_t_refused, .int c_t_knocks, .int c_t_thrown_35]))] H := hP.sub [0] rfl
              have hD9 : va_D A [(a_t, .inr (8, [.ref a_t_forms, .ref a_t_roll, .int c_t_many, .long c_t_taps, .int c_t_cells, .int c_t_acts, .int c_t_refused, .int c_t_knocks, .int c_t_thrown_35]))] := hD.sub [0] (by decide) rfl
              exact W.iret hx hb hr (fun t ht hW => ⟨⟨_, (), rfl, rfl, wQA_of ht hP9 hD9⟩, hS.F ht⟩) hS.2.2 dX9_primes_49
          · have h := if_ c27 h
            refine lv_iconst (v := 1) hx hb dX9_primes_30 (by decide) ?_
            refine lv_goto (tgt := 35) hx hb dX9_primes_31 (by decide) ?_
            obtain ⟨r35, c_t_thrown_35, hc35, h⟩ := obn2_h h
            have hPc := hP.sub (ws' := [(a_t, .inr (8, [.ref a_t_forms, .ref a_t_roll, .int c_t_many, .long c_t_taps, .int c_t_cells, .int c_t_acts, .int c_t_refused, .int c_t_knocks, .int c_t_thrown]))]) [0] rfl
            have hDc := hD.sub (ws' := [(a_t, .inr (8, [.ref a_t_forms, .ref a_t_roll, .int c_t_many, .long c_t_taps, .int c_t_cells, .int c_t_acts, .int c_t_refused, .int c_t_knocks, .int c_t_thrown]))]) [0] (by decide) rfl
            refine hp_i (w1 := [(a_t, .inr (8, [.ref a_t_forms, .ref a_t_roll, .int c_t_many, .long c_t_taps, .int c_t_cells, .int c_t_acts, .int c_t_refused, .int c_t_knocks, .int c_t_thrown_35]))]) (wr := []) (va_runV (As := [.int (1 : Int32)]) (rest := []) hcf (c_X9_isThrown_ l D cyJ s.heap.size a_t a_t_forms a_t_roll c_t_many c_t_taps c_t_cells c_t_acts c_t_refused c_t_knocks c_t_thrown (1 : Int32) r35 c_t_thrown_35 hc35) (cwV 1 hts gX9_primes_X9_isThrown_ rfl rfl rfl ydX9_isThrown_ ⟨Nat.le_of_ble_eq_true rfl, Nat.le_of_ble_eq_true rfl⟩) ⟨bl_PD, va_recv hK hP (ci := 8) (q0 := 0) rfl rfl, pr_PD hPc hK0 hDc hnw⟩ rfl rfl hl.1 rfl (lv_room (Nat.le_of_ble_eq_true rfl)) dX9_primes_35 ⟨Nat.le_of_ble_eq_true rfl, Nat.le_of_ble_eq_true rfl⟩) hP hD hS hA [0] [] rfl rfl (by decide) (by decide) (fun H locs hP hD hS => ?_)
            have hP : va_P D vwCl [(a_t, .inr (8, [.ref a_t_forms, .ref a_t_roll, .int c_t_many, .long c_t_taps, .int c_t_cells, .int c_t_acts, .int c_t_refused, .int c_t_knocks, .int c_t_thrown_35]))] H := hP
            have hD : va_D A [(a_t, .inr (8, [.ref a_t_forms, .ref a_t_roll, .int c_t_many, .long c_t_taps, .int c_t_cells, .int c_t_acts, .int c_t_refused, .int c_t_knocks, .int c_t_thrown_35]))] := hD
            refine lv_if_eq (tgt := 45) hx hb dX9_primes_38 (by decide) (fun c38 => ?_) (fun c38 => ?_)
            · have h := it_ c38 h
              refine lv_iload_n hx hb dX9_primes_45 rfl (lv_at hl 1 rfl) ?_
              obtain ⟨r46, hc46, h⟩ := obn_h h
              refine pz_callS (As := [.int p0]) (rest := []) hcf (c_X9_primesOf l p0 r46 hc46) (va_cwS 1 hts gX9_primes_X9_primesOf rfl rfl rfl ydX9_primesOf ⟨Nat.le_of_ble_eq_true rfl, Nat.le_of_ble_eq_true rfl⟩) hnw rfl hl.1 rfl (Nat.le_of_ble_eq_true rfl) dX9_primes_46 ⟨Nat.le_of_ble_eq_true rfl, Nat.le_of_ble_eq_true rfl⟩ ?_
              obtain ⟨e0, e1⟩ := tup2 h
              subst e0
              subst e1
              have hP9 : va_P D vwCl [(a_t, .inr (8, [.ref a_t_forms, .ref a_t_roll, .int c_t_many, .long c_t_taps, .int c_t_cells, .int c_t_acts, .int c_t_refused, .int c_t_knocks, .int c_t_thrown_35]))] H := hP.sub [0] rfl
              have hD9 : va_D A [(a_t, .inr (8, [.ref a_t_forms, .ref a_t_roll, .int c_t_many, .long c_t_taps, .int c_t_cells, .int c_t_acts, .int c_t_refused, .int c_t_knocks, .int c_t_thrown_35]))] := hD.sub [0] (by decide) rfl
              exact W.iret hx hb hr (fun t ht hW => ⟨⟨_, (), rfl, rfl, wQA_of ht hP9 hD9⟩, hS.F ht⟩) hS.2.2 dX9_primes_49
            · have h := if_ c38 h
              refine lv_iconst (v := 0) hx hb dX9_primes_41 (by decide) ?_
              refine lv_goto (tgt := 49) hx hb dX9_primes_42 (by decide) ?_
              obtain ⟨e0, e1⟩ := tup2 h
              subst e0
              subst e1
              have hP9 : va_P D vwCl [(a_t, .inr (8, [.ref a_t_forms, .ref a_t_roll, .int c_t_many, .long c_t_taps, .int c_t_cells, .int c_t_acts, .int c_t_refused, .int c_t_knocks, .int c_t_thrown_35]))] H := hP.sub [0] rfl
              have hD9 : va_D A [(a_t, .inr (8, [.ref a_t_forms, .ref a_t_roll, .int c_t_many, .long c_t_taps, .int c_t_cells, .int c_t_acts, .int c_t_refused, .int c_t_knocks, .int c_t_thrown_35]))] := hD.sub [0] (by decide) rfl
              exact W.iret hx hb hr (fun t ht hW => ⟨⟨_, (), rfl, rfl, wQA_of ht hP9 hD9⟩, hS.F ht⟩) hS.2.2 dX9_primes_49

noncomputable abbrev rmX9_prime : Room := { frames := 6, cells := 0, slots := 0, locals := 139 }
theorem ydX9_prime : yX9_prime.cls = RX9 ∧ yX9_prime.cls ≠ "java/lang/invoke/MethodHandle" ∧ yX9_prime.cls ≠ "java/lang/invoke/VarHandle" ∧ (parseMethodDescriptor yX9_prime.desc).map (fun d => d.parameters.length) = some 2 := by decide +kernel
noncomputable def J_X9_prime_75 (ih42 : Int32 → Int64 → Option (Int32 × Int32)) (j3_75 : Int32) (j4_75 : Int64) : Option (Int32 × Int32) :=
 bnd (j4_75 + (1 : Int64)) (fun x4_79 =>
 ih42 j3_75 x4_79)
noncomputable def S_X9_prime_42 (z1_42 : Int32) (k68 : Int64 → Option (Int32 × Int32)) (k84 : Unit → Option (Int32 × Int32)) (ih42 : Int32 → Int64 → Option (Int32 × Int32)) (y3_42 : Int32) (y4_42 : Int64) : Option (Int32 × Int32) :=
 (if ((2 : Int64) <<< (z1_42.toInt64 &&& 63)) ≤ y4_42 then
 k84 ()
else
 obn (F_X9_isPrimeNow y4_42) (fun r55 =>
 (if r55 = 0 then
 J_X9_prime_75 ih42 y3_42 y4_42
else
 (if y3_42 = 0 then
 k68 y4_42
else
 bnd (y3_42 + (-1)) (fun x3_72 =>
 J_X9_prime_75 ih42 x3_72 y4_42)))))
noncomputable def J_X9_prime_27 (jl1_27 : Int32) (jl2_27 : Int32) (js1_27 : Int32) (c_t_thrown_j27 : Int32) : Option (Int32 × Int32) :=
 obn2 (F_X9_isThrown_ js1_27) (fun r27 c_t_thrown_27 =>
 (if r27 = 0 then
 bnd ((1 : Int64) <<< (jl1_27.toInt64 &&& 63)) (fun x4_40 =>
 LQ2 (S_X9_prime_42 jl1_27 (fun y4_42_68 =>
 some (y4_42_68.toInt32, c_t_thrown_27)) (fun _ =>
 some ((-1 : Int32), c_t_thrown_27))) 20000 jl2_27 x4_40)
else
 some ((0 : Int32), c_t_thrown_27)))
noncomputable def J_X9_prime_22 (jl1_22 : Int32) (jl2_22 : Int32) (c_t_thrown_j22 : Int32) : Option (Int32 × Int32) :=
 J_X9_prime_27 jl1_22 jl2_22 (1 : Int32) c_t_thrown_j22
noncomputable def F_X9_prime (c_t_thrown : Int32) (p0 : Int32) (p1 : Int32) : Option (Int32 × Int32) :=
 (if p0 < (1 : Int32) then
 J_X9_prime_22 p0 p1 c_t_thrown
else
 (if (6 : Int32) < p0 then
 J_X9_prime_22 p0 p1 c_t_thrown
else
 (if p1 < 0 then
 J_X9_prime_22 p0 p1 c_t_thrown
else
 (if p1 ≤ (9 : Int32) then
 J_X9_prime_27 p0 p1 (0 : Int32) c_t_thrown
else
 J_X9_prime_22 p0 p1 c_t_thrown))))
set_option maxHeartbeats 4000000 in
set_option maxRecDepth 100000 in
theorem c_X9_prime (l : Launch) (D : va_G) (cyJ : ClassId) (sz : Nat) (a_t : Nat) (a_t_forms : Nat) (a_t_roll : Nat) (c_t_many : Int32) (c_t_taps : Int64) (c_t_cells : Int32) (c_t_acts : Int32) (c_t_refused : Int32) (c_t_knocks : Int32) (c_t_thrown : Int32) (p0 : Int32) (p1 : Int32) (r0 : Int32) (o_c_t_thrown : Int32) (hF : F_X9_prime c_t_thrown p0 p1 = some (r0, o_c_t_thrown)) : Met l yX9_prime wsX9_prime rmX9_prime (va_Pc [.ref a_t, .int p0, .int p1] (wPD D [(cyJ, .long)] [(a_t, .inr (8, [.ref a_t_forms, .ref a_t_roll, .int c_t_many, .long c_t_taps, .int c_t_cells, .int c_t_acts, .int c_t_refused, .int c_t_knocks, .int c_t_thrown]))] sz)) (va_Qi (fun (r : Int32) (_ : Unit) => r = r0) (fun _ t => wQA D [(a_t, .inr (8, [.ref a_t_forms, .ref a_t_roll, .int c_t_many, .long c_t_taps, .int c_t_cells, .int c_t_acts, .int c_t_refused, .int c_t_knocks, .int o_c_t_thrown]))] (va_A [(a_t, .inr (8, [.ref a_t_forms, .ref a_t_roll, .int c_t_many, .long c_t_taps, .int c_t_cells, .int c_t_acts, .int c_t_refused, .int c_t_knocks, .int c_t_thrown]))] sz) t) (va_A [(a_t, .inr (8, [.ref a_t_forms, .ref a_t_roll, .int c_t_many, .long c_t_taps, .int c_t_cells, .int c_t_acts, .int c_t_refused, .int c_t_knocks, .int c_t_thrown]))] sz)) 0 0 (va_A [(a_t, .inr (8, [.ref a_t_forms, .ref a_t_roll, .int c_t_many, .long c_t_taps, .int c_t_cells, .int c_t_acts, .int c_t_refused, .int c_t_knocks, .int c_t_thrown]))] sz) := by
  refine Met.ofW (cc := cX9_prime) (maxL := 6) (ret := (some .int)) (by decide) rfl ?_
  intro p e s m args below meth c s₁ B hml hv
  obtain ⟨rfl, hsz, hP, hK, hD0, hnw⟩ := hv
  have hx := B.exec
  have hb := B.bytes
  have hr := B.returns
  have hts := atoms_spec (ws := wsX9_prime) B.pre
  have hown : s.vm.findClass RX9 = some m.cls := findClass_of_methodNamed B.named
  have hlocks := B.notSynchronized
  have hcf : CallFix _ _ _ _ _ _ _ _ _ := ⟨hx, hb, hml, hown, hts⟩
  subst hsz
  have hD := hD0.self (sz := s.heap.size)
  generalize hAe : va_A [(a_t, .inr (8, [.ref a_t_forms, .ref a_t_roll, .int c_t_many, .long c_t_taps, .int c_t_cells, .int c_t_acts, .int c_t_refused, .int c_t_knocks, .int c_t_thrown]))] s.heap.size = A at hD ⊢
  have hA : ∀ q : Nat, s.heap.size ≤ q → A q := fun q h => by rw [← hAe]; exact Or.inr h
  have hS : va_S A s.heap s.heap [] := va_S.rf
  have hP : va_P D vwCl [(a_t, .inr (8, [.ref a_t_forms, .ref a_t_roll, .int c_t_many, .long c_t_taps, .int c_t_cells, .int c_t_acts, .int c_t_refused, .int c_t_knocks, .int c_t_thrown]))] s.heap := hP
  have hK0 := hK
  have hl := lv_entry ([.ref a_t, .int p0, .int p1]) (n := 6) (Nat.le_of_ble_eq_true rfl)
  rw [lg_entry_eq]
  generalize (lg_sl ([.ref a_t, .int p0, .int p1]) ++ List.replicate (6 - (lg_sl ([.ref a_t, .int p0, .int p1])).length) Slot.unset).toArray = ls at hl ⊢
  have hl : lv_has ls 6 [(0, .ref a_t), (1, .int p0), (2, .int p1)] := hl
  have h := hF
  clear hF
  unfold F_X9_prime at h
  have hj27 : ∀ (js1_27 : Int32) (c_t_thrown_j27 : Int32), J_X9_prime_27 p0 p1 js1_27 c_t_thrown_j27 = some (r0, o_c_t_thrown) → ∀ (H : Heap) (locs : List Loc), va_P D vwCl [(a_t, .inr (8, [.ref a_t_forms, .ref a_t_roll, .int c_t_many, .long c_t_taps, .int c_t_cells, .int c_t_acts, .int c_t_refused, .int c_t_knocks, .int c_t_thrown_j27]))] H → va_D A [(a_t, .inr (8, [.ref a_t_forms, .ref a_t_roll, .int c_t_many, .long c_t_taps, .int c_t_cells, .int c_t_acts, .int c_t_refused, .int c_t_knocks, .int c_t_thrown_j27]))] → va_S A s.heap H locs → ∀ (ls : Array Slot), lv_has ls 6 [(1, .int p0), (2, .int p1)] → W p l e rmX9_prime s m ([.ref a_t, .int p0, .int p1] : List Value).toArray below meth c H locs 0 0 (MQ below (va_Qi (fun (r : Int32) (_ : Unit) => r = r0) (fun _ t => wQA D [(a_t, .inr (8, [.ref a_t_forms, .ref a_t_roll, .int c_t_many, .long c_t_taps, .int c_t_cells, .int c_t_acts, .int c_t_refused, .int c_t_knocks, .int o_c_t_thrown]))] A t) A) ([.ref a_t, .int p0, .int p1] : List Value).toArray s 0 0 A) (F0 m 27 ls [.int js1_27, .ref a_t]) := by
    intro js1_27 c_t_thrown_j27 h H locs hP hD hS ls hl
    unfold J_X9_prime_27 at h
    obtain ⟨r27, c_t_thrown_27, hc27, h⟩ := obn2_h h
    have hPc := hP.sub (ws' := [(a_t, .inr (8, [.ref a_t_forms, .ref a_t_roll, .int c_t_many, .long c_t_taps, .int c_t_cells, .int c_t_acts, .int c_t_refused, .int c_t_knocks, .int c_t_thrown_j27]))]) [0] rfl
    have hDc := hD.sub (ws' := [(a_t, .inr (8, [.ref a_t_forms, .ref a_t_roll, .int c_t_many, .long c_t_taps, .int c_t_cells, .int c_t_acts, .int c_t_refused, .int c_t_knocks, .int c_t_thrown_j27]))]) [0] (by decide) rfl
    refine hp_i (w1 := [(a_t, .inr (8, [.ref a_t_forms, .ref a_t_roll, .int c_t_many, .long c_t_taps, .int c_t_cells, .int c_t_acts, .int c_t_refused, .int c_t_knocks, .int c_t_thrown_27]))]) (wr := []) (va_runV (As := [.int js1_27]) (rest := []) hcf (c_X9_isThrown_ l D cyJ H.size a_t a_t_forms a_t_roll c_t_many c_t_taps c_t_cells c_t_acts c_t_refused c_t_knocks c_t_thrown_j27 js1_27 r27 c_t_thrown_27 hc27) (cwV 1 hts gX9_prime_X9_isThrown_ rfl rfl rfl ydX9_isThrown_ ⟨Nat.le_of_ble_eq_true rfl, Nat.le_of_ble_eq_true rfl⟩) ⟨bl_PD, va_recv hK hP (ci := 8) (q0 := 0) rfl rfl, pr_PD hPc hK0 hDc hnw⟩ rfl rfl hl.1 rfl (lv_room (Nat.le_of_ble_eq_true rfl)) dX9_prime_27 ⟨Nat.le_of_ble_eq_true rfl, Nat.le_of_ble_eq_true rfl⟩) hP hD hS hA [0] [] rfl rfl (by decide) (by decide) (fun H locs hP hD hS => ?_)
    have hP : va_P D vwCl [(a_t, .inr (8, [.ref a_t_forms, .ref a_t_roll, .int c_t_many, .long c_t_taps, .int c_t_cells, .int c_t_acts, .int c_t_refused, .int c_t_knocks, .int c_t_thrown_27]))] H := hP
    have hD : va_D A [(a_t, .inr (8, [.ref a_t_forms, .ref a_t_roll, .int c_t_many, .long c_t_taps, .int c_t_cells, .int c_t_acts, .int c_t_refused, .int c_t_knocks, .int c_t_thrown_27]))] := hD
    refine lv_if_eq (tgt := 35) hx hb dX9_prime_30 (by decide) (fun c30 => ?_) (fun c30 => ?_)
    · have h := it_ c30 h
      refine lv_iload_n hx hb dX9_prime_35 rfl (lv_at hl 1 rfl) ?_
      refine lv_istore_n (lv' := [(3, .int p1), (1, .int p0), (2, .int p1)]) hx hb dX9_prime_36 rfl hl (by decide) rfl (fun ls hl => ?_)
      refine lv_lconst (v := 1) hx hb dX9_prime_37 (by decide) ?_
      refine lv_iload_n hx hb dX9_prime_38 rfl (lv_at hl 1 rfl) ?_
      refine lv_lshl (v := (1 : Int64) <<< (p0.toInt64 &&& 63)) hx hb dX9_prime_39 rfl ?_
      refine lv_topl (fun x4_40 e_x4_40 => ?_)
      have h := bnd_h e_x4_40 h
      refine lv_lstore (lv' := [(4, .long x4_40), (3, .int p1), (1, .int p0), (2, .int p1)]) hx hb dX9_prime_40 hl (by decide) rfl (fun ls hl => ?_)
      refine LQ2_k2 (M := fun (y3_42 : Int32) (y4_42 : Int64) => ∀ (ls : Array Slot), lv_has ls 6 [(1, .int p0), (3, .int y3_42), (4, .long y4_42)] → W p l e rmX9_prime s m ([.ref a_t, .int p0, .int p1] : List Value).toArray below meth c H locs 0 0 (MQ below (va_Qi (fun (r : Int32) (_ : Unit) => r = r0) (fun _ t => wQA D [(a_t, .inr (8, [.ref a_t_forms, .ref a_t_roll, .int c_t_many, .long c_t_taps, .int c_t_cells, .int c_t_acts, .int c_t_refused, .int c_t_knocks, .int o_c_t_thrown]))] A t) A) ([.ref a_t, .int p0, .int p1] : List Value).toArray s 0 0 A) (F0 m 42 ls [])) ?_ _ _ _ h ls (lv_sub hl [2, 1, 0] rfl)
      intro k68 hk68 k84 hk84 ih42 hih42 y3_42 y4_42 h ls hl
      unfold S_X9_prime_42 at h
      have hj75 : ∀ (j3_75 : Int32) (j4_75 : Int64), J_X9_prime_75 ih42 j3_75 j4_75 = some (r0, o_c_t_thrown) → ∀ (ls : Array Slot), lv_has ls 6 [(1, .int p0), (3, .int j3_75), (4, .long j4_75)] → W p l e rmX9_prime s m ([.ref a_t, .int p0, .int p1] : List Value).toArray below meth c H locs 0 0 (MQ below (va_Qi (fun (r : Int32) (_ : Unit) => r = r0) (fun _ t => wQA D [(a_t, .inr (8, [.ref a_t_forms, .ref a_t_roll, .int c_t_many, .long c_t_taps, .int c_t_cells, .int c_t_acts, .int c_t_refused, .int c_t_knocks, .int o_c_t_thrown]))] A t) A) ([.ref a_t, .int p0, .int p1] : List Value).toArray s 0 0 A) (F0 m 75 ls []) := by
        intro j3_75 j4_75 h ls hl
        unfold J_X9_prime_75 at h
        refine lv_lload hx hb dX9_prime_75 (lv_at hl 2 rfl) ?_
        refine lv_lconst (v := 1) hx hb dX9_prime_77 (by decide) ?_
        refine lv_ladd hx hb dX9_prime_78 ?_
        refine lv_topl (fun x4_79 e_x4_79 => ?_)
        have h := bnd_h e_x4_79 h
        refine lv_lstore (lv' := [(4, .long x4_79), (1, .int p0), (3, .int j3_75)]) hx hb dX9_prime_79 hl (by decide) rfl (fun ls hl => ?_)
        refine lv_goto (tgt := 42) hx hb dX9_prime_81 (by decide) ?_
        exact hih42 j3_75 x4_79 h ls (lv_sub hl [1, 2, 0] rfl)
      refine lv_lload hx hb dX9_prime_42 (lv_at hl 2 rfl) ?_
      refine lv_ldc2 hx hb hown (hts (.constantLong RX9 54 (2)) (by decide +kernel)) dX9_prime_44 ?_
      refine lv_iload_n hx hb dX9_prime_47 rfl (lv_at hl 0 rfl) ?_
      refine lv_lshl (v := (2 : Int64) <<< (p0.toInt64 &&& 63)) hx hb dX9_prime_48 rfl ?_
      refine W.lcmp hx hb dX9_prime_49 ?_
      refine lv_if_ge (tgt := 84) hx hb dX9_prime_50 (by decide) (fun c50 => ?_) (fun c50 => ?_)
      · have c50 := (lg_cmp_ge _ _).mp c50
        have h := it_ c50 h
        rw [hk84] at h
        refine lv_iconst (v := -1) hx hb dX9_prime_84 (by decide) ?_
        obtain ⟨e0, e1⟩ := tup2 h
        subst e0
        subst e1
        have hP9 : va_P D vwCl [(a_t, .inr (8, [.ref a_t_forms, .ref a_t_roll, .int c_t_many, .long c_t_taps, .int c_t_cells, .int c_t_acts, .int c_t_refused, .int c_t_knocks, .int c_t_thrown_27]))] H := hP.sub [0] rfl
        have hD9 : va_D A [(a_t, .inr (8, [.ref a_t_forms, .ref a_t_roll, .int c_t_many, .long c_t_taps, .int c_t_cells, .int c_t_acts, .int c_t_refused, .int c_t_knocks, .int c_t_thrown_27]))] := hD.sub [0] (by decide) rfl
        exact W.iret hx hb hr (fun t ht hW => ⟨⟨_, (), rfl, rfl, wQA_of ht hP9 hD9⟩, hS.F ht⟩) hS.2.2 dX9_prime_85
      · have c50 := fun z => c50 ((lg_cmp_ge _ _).mpr z)
        have h := if_ c50 h
        refine lv_lload hx hb dX9_prime_53 (lv_at hl 2 rfl) ?_
        obtain ⟨r55, hc55, h⟩ := obn_h h
        refine pz_callS (As := [.long y4_42]) (rest := []) hcf (c_X9_isPrimeNow l y4_42 r55 hc55) (va_cwS 1 hts gX9_prime_X9_isPrimeNow rfl rfl rfl ydX9_isPrimeNow ⟨Nat.le_of_ble_eq_true rfl, Nat.le_of_ble_eq_true rfl⟩) hnw rfl hl.1 rfl (Nat.le_of_ble_eq_true rfl) dX9_prime_55 ⟨Nat.le_of_ble_eq_true rfl, Nat.le_of_ble_eq_true rfl⟩ ?_
        refine lv_if_ne (tgt := 64) hx hb dX9_prime_58 (by decide) (fun c58 => ?_) (fun c58 => ?_)
        · have h := if_ c58 h
          refine lv_iload_n hx hb dX9_prime_64 rfl (lv_at hl 1 rfl) ?_
          refine lv_if_ne (tgt := 72) hx hb dX9_prime_65 (by decide) (fun c65 => ?_) (fun c65 => ?_)
          · have h := if_ c65 h
            obtain ⟨x3_72, e_x3_72⟩ : ∃ z : Int32, z = y3_42 + (-1) := ⟨_, rfl⟩
            have h := bnd_h e_x3_72 h
            refine lv_iinc (v := x3_72) (lv' := [(3, .int x3_72), (1, .int p0), (4, .long y4_42)]) hx hb dX9_prime_72 hl (k := 1) rfl (by rw [e_x3_72]; rfl) (by decide) rfl (fun ls hl => ?_)
            exact hj75 x3_72 y4_42 h ls (lv_sub hl [1, 0, 2] rfl)
          · have h := it_ c65 h
            rw [hk68] at h
            refine lv_lload hx hb dX9_prime_68 (lv_at hl 2 rfl) ?_
            refine lv_l2i (v := y4_42.toInt32) hx hb dX9_prime_70 rfl ?_
            obtain ⟨e0, e1⟩ := tup2 h
            subst e0
            subst e1
            have hP9 : va_P D vwCl [(a_t, .inr (8, [.ref a_t_forms, .ref a_t_roll, .int c_t_many, .long c_t_taps, .int c_t_cells, .int c_t_acts, .int c_t_refused, .int c_t_knocks, .int c_t_thrown_27]))] H := hP.sub [0] rfl
            have hD9 : va_D A [(a_t, .inr (8, [.ref a_t_forms, .ref a_t_roll, .int c_t_many, .long c_t_taps, .int c_t_cells, .int c_t_acts, .int c_t_refused, .int c_t_knocks, .int c_t_thrown_27]))] := hD.sub [0] (by decide) rfl
            exact W.iret hx hb hr (fun t ht hW => ⟨⟨_, (), rfl, rfl, wQA_of ht hP9 hD9⟩, hS.F ht⟩) hS.2.2 dX9_prime_71
        · have h := it_ c58 h
          refine lv_goto (tgt := 75) hx hb dX9_prime_61 (by decide) ?_
          exact hj75 y3_42 y4_42 h ls (lv_sub hl [0, 1, 2] rfl)
    · have h := if_ c30 h
      refine lv_iconst (v := 0) hx hb dX9_prime_33 (by decide) ?_
      obtain ⟨e0, e1⟩ := tup2 h
      subst e0
      subst e1
      have hP9 : va_P D vwCl [(a_t, .inr (8, [.ref a_t_forms, .ref a_t_roll, .int c_t_many, .long c_t_taps, .int c_t_cells, .int c_t_acts, .int c_t_refused, .int c_t_knocks, .int c_t_thrown_27]))] H := hP.sub [0] rfl
      have hD9 : va_D A [(a_t, .inr (8, [.ref a_t_forms, .ref a_t_roll, .int c_t_many, .long c_t_taps, .int c_t_cells, .int c_t_acts, .int c_t_refused, .int c_t_knocks, .int c_t_thrown_27]))] := hD.sub [0] (by decide) rfl
      exact W.iret hx hb hr (fun t ht hW => ⟨⟨_, (), rfl, rfl, wQA_of ht hP9 hD9⟩, hS.F ht⟩) hS.2.2 dX9_prime_34
  have hj22 : ∀ (c_t_thrown_j22 : Int32), J_X9_prime_22 p0 p1 c_t_thrown_j22 = some (r0, o_c_t_thrown) → ∀ (H : Heap) (locs : List Loc), va_P D vwCl [(a_t, .inr (8, [.ref a_t_forms, .ref a_t_roll, .int c_t_many, .long c_t_taps, .int c_t_cells, .int c_t_acts, .int c_t_refused, .int c_t_knocks, .int c_t_thrown_j22]))] H → va_D A [(a_t, .inr (8, [.ref a_t_forms, .ref a_t_roll, .int c_t_many, .long c_t_taps, .int c_t_cells, .int c_t_acts, .int c_t_refused, .int c_t_knocks, .int c_t_thrown_j22]))] → va_S A s.heap H locs → ∀ (ls : Array Slot), lv_has ls 6 [(1, .int p0), (2, .int p1)] → W p l e rmX9_prime s m ([.ref a_t, .int p0, .int p1] : List Value).toArray below meth c H locs 0 0 (MQ below (va_Qi (fun (r : Int32) (_ : Unit) => r = r0) (fun _ t => wQA D [(a_t, .inr (8, [.ref a_t_forms, .ref a_t_roll, .int c_t_many, .long c_t_taps, .int c_t_cells, .int c_t_acts, .int c_t_refused, .int c_t_knocks, .int o_c_t_thrown]))] A t) A) ([.ref a_t, .int p0, .int p1] : List Value).toArray s 0 0 A) (F0 m 22 ls [.ref a_t]) := by
    intro c_t_thrown_j22 h H locs hP hD hS ls hl
    unfold J_X9_prime_22 at h
    refine lv_iconst (v := 1) hx hb dX9_prime_22 (by decide) ?_
    refine lv_goto (tgt := 27) hx hb dX9_prime_23 (by decide) ?_
    exact hj27 (1 : Int32) c_t_thrown_j22 h _ _ (hP.sub [0] rfl) (hD.sub [0] (by decide) rfl) hS ls (lv_sub hl [0, 1] rfl)
  refine lv_aload_n hx hb dX9_prime_0 rfl (lv_at hl 0 rfl) ?_
  refine lv_iload_n hx hb dX9_prime_1 rfl (lv_at hl 1 rfl) ?_
  refine lv_iconst (v := 1) hx hb dX9_prime_2 (by decide) ?_
  refine lv_icmp_lt (tgt := 22) hx hb dX9_prime_3 (by decide) (fun c3 => ?_) (fun c3 => ?_)
  · have h := it_ c3 h
    exact hj22 c_t_thrown h _ _ (hP.sub [0] rfl) (hD.sub [0] (by decide) rfl) hS ls (lv_sub hl [1, 2] rfl)
  · have h := if_ c3 h
    refine lv_iload_n hx hb dX9_prime_6 rfl (lv_at hl 1 rfl) ?_
    refine lv_bipush (v := 6) hx hb dX9_prime_7 (by decide) ?_
    refine lv_icmp_gt (tgt := 22) hx hb dX9_prime_9 (by decide) (fun c9 => ?_) (fun c9 => ?_)
    · have h := it_ c9 h
      exact hj22 c_t_thrown h _ _ (hP.sub [0] rfl) (hD.sub [0] (by decide) rfl) hS ls (lv_sub hl [1, 2] rfl)
    · have h := if_ c9 h
      refine lv_iload_n hx hb dX9_prime_12 rfl (lv_at hl 2 rfl) ?_
      refine lv_if_lt (tgt := 22) hx hb dX9_prime_13 (by decide) (fun c13 => ?_) (fun c13 => ?_)
      · have h := it_ c13 h
        exact hj22 c_t_thrown h _ _ (hP.sub [0] rfl) (hD.sub [0] (by decide) rfl) hS ls (lv_sub hl [1, 2] rfl)
      · have h := if_ c13 h
        refine lv_iload_n hx hb dX9_prime_16 rfl (lv_at hl 2 rfl) ?_
        refine lv_bipush (v := 9) hx hb dX9_prime_17 (by decide) ?_
        refine lv_icmp_le (tgt := 26) hx hb dX9_prime_19 (by decide) (fun c19 => ?_) (fun c19 => ?_)
        · have h := it_ c19 h
          refine lv_iconst (v := 0) hx hb dX9_prime_26 (by decide) ?_
          exact hj27 (0 : Int32) c_t_thrown h _ _ (hP.sub [0] rfl) (hD.sub [0] (by decide) rfl) hS ls (lv_sub hl [1, 2] rfl)
        · have h := if_ c19 h
          exact hj22 c_t_thrown h _ _ (hP.sub [0] rfl) (hD.sub [0] (by decide) rfl) hS ls (lv_sub hl [1, 2] rfl)
