noncomputable abbrev rmX9_period : Room := { frames := 6, cells := 0, slots := 0, locals := 142 }
theorem ydX9_period : yX9_period.cls = RX9 ∧ yX9_period.cls ≠ "java/lang/invoke/MethodHandle" ∧ yX9_period.cls ≠ "java/lang/invoke/VarHandle" ∧ (parseMethodDescriptor yX9_period.desc).map (fun d => d.parameters.length) = some 2 := by decide +kernel
noncomputable def J_X9_period_27 (jl1_27 : Int32) (f_t_forms_jz27 : Nat → Int64) (js1_27 : Int32) (js2_27 : Int32) (c_t_thrown_j27 : Int32) : Option (Int32 × Int32) :=
 obn2 (F_X9_isThrown js1_27 js2_27) (fun r27 c_t_thrown_27 =>
 (if r27 = 0 then
 chk (¬ (jl1_27 < 0 ∨ 6 ≤ jl1_27.toNatClampNeg)) (
 obn (F_X9_isWheel (f_t_forms_jz27 jl1_27.toNatClampNeg)) (fun r41 =>
 (if r41 = 0 then
 some ((-9 : Int32), c_t_thrown_27)
else
 chk (¬ (jl1_27 < 0 ∨ 6 ≤ jl1_27.toNatClampNeg)) (
 obn (F_X9_periodOf (f_t_forms_jz27 jl1_27.toNatClampNeg)) (fun r53 =>
 some (r53, c_t_thrown_27))))))
else
 some ((0 : Int32), c_t_thrown_27)))
noncomputable def J_X9_period_22 (jl1_22 : Int32) (f_t_forms_jz22 : Nat → Int64) (js1_22 : Int32) (c_t_thrown_j22 : Int32) : Option (Int32 × Int32) :=
 J_X9_period_27 jl1_22 f_t_forms_jz22 js1_22 (1 : Int32) c_t_thrown_j22
noncomputable def J_X9_period_13 (jl1_13 : Int32) (jl2_13 : Int32) (f_t_forms_jz13 : Nat → Int64) (js1_13 : Int32) (c_t_thrown_j13 : Int32) : Option (Int32 × Int32) :=
 (if jl2_13 < 0 then
 J_X9_period_22 jl1_13 f_t_forms_jz13 js1_13 c_t_thrown_j13
else
 (if jl2_13 ≤ (2 : Int32) then
 J_X9_period_27 jl1_13 f_t_forms_jz13 js1_13 (0 : Int32) c_t_thrown_j13
else
 J_X9_period_22 jl1_13 f_t_forms_jz13 js1_13 c_t_thrown_j13))
noncomputable def F_X9_period (c_t_thrown : Int32) (f_t_forms : Nat → Int64) (p0 : Int32) (p1 : Int32) : Option (Int32 × Int32) :=
 obn (F_X9_isForm p0) (fun r2 =>
 (if r2 = 0 then
 J_X9_period_13 p0 p1 f_t_forms (1 : Int32) c_t_thrown
else
 J_X9_period_13 p0 p1 f_t_forms (0 : Int32) c_t_thrown))
set_option maxHeartbeats 4000000 in
set_option maxRecDepth 100000 in
theorem c_X9_period (l : Launch) (D : va_G) (cyJ : ClassId) (sz : Nat) (a_t : Nat) (a_t_forms : Nat) (a_t_roll : Nat) (c_t_many : Int32) (c_t_taps : Int64) (c_t_cells : Int32) (c_t_acts : Int32) (c_t_refused : Int32) (c_t_knocks : Int32) (c_t_thrown : Int32) (f_t_forms : Nat → Int64) (p0 : Int32) (p1 : Int32) (r0 : Int32) (o_c_t_thrown : Int32) (hF : F_X9_period c_t_thrown f_t_forms p0 p1 = some (r0, o_c_t_thrown)) : Met l yX9_period wsX9_period rmX9_period (va_Pc [.ref a_t, .int p0, .int p1] (wPD D [(cyJ, .long)] [(a_t, .inr (8, [.ref a_t_forms, .ref a_t_roll, .int c_t_many, .long c_t_taps, .int c_t_cells, .int c_t_acts, .int c_t_refused, .int c_t_knocks, .int c_t_thrown])), (a_t_forms, .inl (cyJ, 6, .inr (.inl f_t_forms)))] sz)) (va_Qi (fun (r : Int32) (_ : Unit) => r = r0) (fun _ t => wQA D [(a_t, .inr (8, [.ref a_t_forms, .ref a_t_roll, .int c_t_many, .long c_t_taps, .int c_t_cells, .int c_t_acts, .int c_t_refused, .int c_t_knocks, .int o_c_t_thrown])), (a_t_forms, .inl (cyJ, 6, .inr (.inl f_t_forms)))] (va_A [(a_t, .inr (8, [.ref a_t_forms, .ref a_t_roll, .int c_t_many, .long c_t_taps, .int c_t_cells, .int c_t_acts, .int c_t_refused, .int c_t_knocks, .int c_t_thrown])), (a_t_forms, .inl (cyJ, 6, .inr (.inl f_t_forms)))] sz) t) (va_A [(a_t, .inr (8, [.ref a_t_forms, .ref a_t_roll, .int c_t_many, .long c_t_taps, .int c_t_cells, .int c_t_acts, .int c_t_refused, .int c_t_knocks, .int c_t_thrown])), (a_t_forms, .inl (cyJ, 6, .inr (.inl f_t_forms)))] sz)) 0 0 (va_A [(a_t, .inr (8, [.ref a_t_forms, .ref a_t_roll, .int c_t_many, .long c_t_taps, .int c_t_cells, .int c_t_acts, .int c_t_refused, .int c_t_knocks, .int c_t_thrown])), (a_t_forms, .inl (cyJ, 6, .inr (.inl f_t_forms)))] sz) := by
  refine Met.ofW (cc := cX9_period) (maxL := 3) (ret := (some .int)) (by decide) rfl ?_
  intro p e s m args below meth c s₁ B hml hv
  obtain ⟨rfl, hsz, hP, hK, hD0, hnw⟩ := hv
  have hx := B.exec
  have hb := B.bytes
  have hr := B.returns
  have hts := atoms_spec (ws := wsX9_period) B.pre
  have hown : s.vm.findClass RX9 = some m.cls := findClass_of_methodNamed B.named
  have hlocks := B.notSynchronized
  have hcf : CallFix _ _ _ _ _ _ _ _ _ := ⟨hx, hb, hml, hown, hts⟩
  have hinX9 : ∀ w ∈ u_ws RX9 TX9 9, w ∈ wsX9_period := by decide +kernel
  have hfl9 := hts (.fieldLink RX9 9 "FormwheelModel" "forms" "[J") (by decide +kernel)
  subst hsz
  have hD := hD0.self (sz := s.heap.size)
  generalize hAe : va_A [(a_t, .inr (8, [.ref a_t_forms, .ref a_t_roll, .int c_t_many, .long c_t_taps, .int c_t_cells, .int c_t_acts, .int c_t_refused, .int c_t_knocks, .int c_t_thrown])), (a_t_forms, .inl (cyJ, 6, .inr (.inl f_t_forms)))] s.heap.size = A at hD ⊢
  have hA : ∀ q : Nat, s.heap.size ≤ q → A q := fun q h => by rw [← hAe]; exact Or.inr h
  have hS : va_S A s.heap s.heap [] := va_S.rf
  have hP : va_P D vwCl [(a_t, .inr (8, [.ref a_t_forms, .ref a_t_roll, .int c_t_many, .long c_t_taps, .int c_t_cells, .int c_t_acts, .int c_t_refused, .int c_t_knocks, .int c_t_thrown])), (a_t_forms, .inl (cyJ, 6, .inr (.inl f_t_forms)))] s.heap := hP
  have hK0 := hK
  have hl := lv_entry ([.ref a_t, .int p0, .int p1]) (n := 3) (Nat.le_of_ble_eq_true rfl)
  rw [lg_entry_eq]
  generalize (lg_sl ([.ref a_t, .int p0, .int p1]) ++ List.replicate (3 - (lg_sl ([.ref a_t, .int p0, .int p1])).length) Slot.unset).toArray = ls at hl ⊢
  have hl : lv_has ls 3 [(0, .ref a_t), (1, .int p0), (2, .int p1)] := hl
  have h := hF
  clear hF
  unfold F_X9_period at h
  have hj27 : ∀ (js1_27 : Int32) (js2_27 : Int32) (c_t_thrown_j27 : Int32), J_X9_period_27 p0 f_t_forms js1_27 js2_27 c_t_thrown_j27 = some (r0, o_c_t_thrown) → ∀ (H : Heap) (locs : List Loc), va_P D vwCl [(a_t, .inr (8, [.ref a_t_forms, .ref a_t_roll, .int c_t_many, .long c_t_taps, .int c_t_cells, .int c_t_acts, .int c_t_refused, .int c_t_knocks, .int c_t_thrown_j27])), (a_t_forms, .inl (cyJ, 6, .inr (.inl f_t_forms)))] H → va_D A [(a_t, .inr (8, [.ref a_t_forms, .ref a_t_roll, .int c_t_many, .long c_t_taps, .int c_t_cells, .int c_t_acts, .int c_t_refused, .int c_t_knocks, .int c_t_thrown_j27])), (a_t_forms, .inl (cyJ, 6, .inr (.inl f_t_forms)))] → va_S A s.heap H locs → ∀ (ls : Array Slot), lv_has ls 3 [(0, .ref a_t), (1, .int p0)] → W p l e rmX9_period s m ([.ref a_t, .int p0, .int p1] : List Value).toArray below meth c H locs 0 0 (MQ below (va_Qi (fun (r : Int32) (_ : Unit) => r = r0) (fun _ t => wQA D [(a_t, .inr (8, [.ref a_t_forms, .ref a_t_roll, .int c_t_many, .long c_t_taps, .int c_t_cells, .int c_t_acts, .int c_t_refused, .int c_t_knocks, .int o_c_t_thrown])), (a_t_forms, .inl (cyJ, 6, .inr (.inl f_t_forms)))] A t) A) ([.ref a_t, .int p0, .int p1] : List Value).toArray s 0 0 A) (F0 m 27 ls [.int js2_27, .int js1_27, .ref a_t]) := by
    intro js1_27 js2_27 c_t_thrown_j27 h H locs hP hD hS ls hl
    unfold J_X9_period_27 at h
    obtain ⟨r27, c_t_thrown_27, hc27, h⟩ := obn2_h h
    have hPc := hP.sub (ws' := [(a_t, .inr (8, [.ref a_t_forms, .ref a_t_roll, .int c_t_many, .long c_t_taps, .int c_t_cells, .int c_t_acts, .int c_t_refused, .int c_t_knocks, .int c_t_thrown_j27]))]) [0] rfl
    have hDc := hD.sub (ws' := [(a_t, .inr (8, [.ref a_t_forms, .ref a_t_roll, .int c_t_many, .long c_t_taps, .int c_t_cells, .int c_t_acts, .int c_t_refused, .int c_t_knocks, .int c_t_thrown_j27]))]) [0] (by decide) rfl
    refine hp_i (w1 := [(a_t, .inr (8, [.ref a_t_forms, .ref a_t_roll, .int c_t_many, .long c_t_taps, .int c_t_cells, .int c_t_acts, .int c_t_refused, .int c_t_knocks, .int c_t_thrown_27]))]) (wr := [(a_t_forms, .inl (cyJ, 6, .inr (.inl f_t_forms)))]) (va_runV (As := [.int js1_27, .int js2_27]) (rest := []) hcf (c_X9_isThrown l D cyJ H.size a_t a_t_forms a_t_roll c_t_many c_t_taps c_t_cells c_t_acts c_t_refused c_t_knocks c_t_thrown_j27 js1_27 js2_27 r27 c_t_thrown_27 hc27) (cwV 2 hts gX9_period_X9_isThrown rfl rfl rfl ydX9_isThrown ⟨Nat.le_of_ble_eq_true rfl, Nat.le_of_ble_eq_true rfl⟩) ⟨bl_PD, va_recv hK hP (ci := 8) (q0 := 0) rfl rfl, pr_PD hPc hK0 hDc hnw⟩ rfl rfl hl.1 rfl (lv_room (Nat.le_of_ble_eq_true rfl)) dX9_period_27 ⟨Nat.le_of_ble_eq_true rfl, Nat.le_of_ble_eq_true rfl⟩) hP hD hS hA [0] [1] rfl rfl (by decide) (by decide) (fun H locs hP hD hS => ?_)
    have hP : va_P D vwCl [(a_t_forms, .inl (cyJ, 6, .inr (.inl f_t_forms))), (a_t, .inr (8, [.ref a_t_forms, .ref a_t_roll, .int c_t_many, .long c_t_taps, .int c_t_cells, .int c_t_acts, .int c_t_refused, .int c_t_knocks, .int c_t_thrown_27]))] H := hP
    have hD : va_D A [(a_t_forms, .inl (cyJ, 6, .inr (.inl f_t_forms))), (a_t, .inr (8, [.ref a_t_forms, .ref a_t_roll, .int c_t_many, .long c_t_taps, .int c_t_cells, .int c_t_acts, .int c_t_refused, .int c_t_knocks, .int c_t_thrown_27]))] := hD
    refine lv_if_eq (tgt := 35) hx hb dX9_period_30 (by decide) (fun c30 => ?_) (fun c30 => ?_)
    · have h := it_ c30 h
      refine lv_aload_n hx hb dX9_period_35 rfl (lv_at hl 0 rfl) ?_
      refine va_get (D := D) (ci := 8) (v := .ref a_t_forms) (C := RX9) (T := TX9) (N := 9) hx hb hts hinX9 hown hK hP 1 rfl rfl 0 (by decide) hfl9 (fun _ h9 => h9) rfl dX9_period_36 ?_
      refine lv_iload_n hx hb dX9_period_39 rfl (lv_at hl 1 rfl) ?_
      obtain ⟨hq40, h⟩ := chk_h h
      refine va_lald hx hb hK hP 0 0 rfl rfl hq40 dX9_period_40 ?_
      obtain ⟨r41, hc41, h⟩ := obn_h h
      refine pz_callS (As := [.long (f_t_forms p0.toNatClampNeg)]) (rest := []) hcf (c_X9_isWheel l (f_t_forms p0.toNatClampNeg) r41 hc41) (va_cwS 1 hts gX9_period_X9_isWheel rfl rfl rfl ydX9_isWheel ⟨Nat.le_of_ble_eq_true rfl, Nat.le_of_ble_eq_true rfl⟩) hnw rfl hl.1 rfl (Nat.le_of_ble_eq_true rfl) dX9_period_41 ⟨Nat.le_of_ble_eq_true rfl, Nat.le_of_ble_eq_true rfl⟩ ?_
      refine lv_if_eq (tgt := 59) hx hb dX9_period_44 (by decide) (fun c44 => ?_) (fun c44 => ?_)
      · have h := it_ c44 h
        refine lv_bipush (v := -9) hx hb dX9_period_59 (by decide) ?_
        obtain ⟨e0, e1⟩ := tup2 h
        subst e0
        subst e1
        have hP9 : va_P D vwCl [(a_t, .inr (8, [.ref a_t_forms, .ref a_t_roll, .int c_t_many, .long c_t_taps, .int c_t_cells, .int c_t_acts, .int c_t_refused, .int c_t_knocks, .int c_t_thrown_27])), (a_t_forms, .inl (cyJ, 6, .inr (.inl f_t_forms)))] H := hP.sub [1, 0] rfl
        have hD9 : va_D A [(a_t, .inr (8, [.ref a_t_forms, .ref a_t_roll, .int c_t_many, .long c_t_taps, .int c_t_cells, .int c_t_acts, .int c_t_refused, .int c_t_knocks, .int c_t_thrown_27])), (a_t_forms, .inl (cyJ, 6, .inr (.inl f_t_forms)))] := hD.sub [1, 0] (by decide) rfl
        exact W.iret hx hb hr (fun t ht hW => ⟨⟨_, (), rfl, rfl, wQA_of ht hP9 hD9⟩, hS.F ht⟩) hS.2.2 dX9_period_61
      · have h := if_ c44 h
        refine lv_aload_n hx hb dX9_period_47 rfl (lv_at hl 0 rfl) ?_
        refine va_get (D := D) (ci := 8) (v := .ref a_t_forms) (C := RX9) (T := TX9) (N := 9) hx hb hts hinX9 hown hK hP 1 rfl rfl 0 (by decide) hfl9 (fun _ h9 => h9) rfl dX9_period_48 ?_
        refine lv_iload_n hx hb dX9_period_51 rfl (lv_at hl 1 rfl) ?_
        obtain ⟨hq52, h⟩ := chk_h h
        refine va_lald hx hb hK hP 0 0 rfl rfl hq52 dX9_period_52 ?_
        obtain ⟨r53, hc53, h⟩ := obn_h h
        refine pz_callS (As := [.long (f_t_forms p0.toNatClampNeg)]) (rest := []) hcf (c_X9_periodOf l (f_t_forms p0.toNatClampNeg) r53 hc53) (va_cwS 1 hts gX9_period_X9_periodOf rfl rfl rfl ydX9_periodOf ⟨Nat.le_of_ble_eq_true rfl, Nat.le_of_ble_eq_true rfl⟩) hnw rfl hl.1 rfl (Nat.le_of_ble_eq_true rfl) dX9_period_53 ⟨Nat.le_of_ble_eq_true rfl, Nat.le_of_ble_eq_true rfl⟩ ?_
        refine lv_goto (tgt := 61) hx hb dX9_period_56 (by decide) ?_
        obtain ⟨e0, e1⟩ := tup2 h
        subst e0
        subst e1
        have hP9 : va_P D vwCl [(a_t, .inr (8, [.ref a_t_forms, .ref a_t_roll, .int c_t_many, .long c_t_taps, .int c_t_cells, .int c_t_acts, .int c_t_refused, .int c_t_knocks, .int c_t_thrown_27])), (a_t_forms, .inl (cyJ, 6, .inr (.inl f_t_forms)))] H := hP.sub [1, 0] rfl
        have hD9 : va_D A [(a_t, .inr (8, [.ref a_t_forms, .ref a_t_roll, .int c_t_many, .long c_t_taps, .int c_t_cells, .int c_t_acts, .int c_t_refused, .int c_t_knocks, .int c_t_thrown_27])), (a_t_forms, .inl (cyJ, 6, .inr (.inl f_t_forms)))] := hD.sub [1, 0] (by decide) rfl
        exact W.iret hx hb hr (fun t ht hW => ⟨⟨_, (), rfl, rfl, wQA_of ht hP9 hD9⟩, hS.F ht⟩) hS.2.2 dX9_period_61
    · have h := if_ c30 h
      refine lv_iconst (v := 0) hx hb dX9_period_33 (by decide) ?_
      obtain ⟨e0, e1⟩ := tup2 h
      subst e0
      subst e1
      have hP9 : va_P D vwCl [(a_t, .inr (8, [.ref a_t_forms, .ref a_t_roll, .int c_t_many, .long c_t_taps, .int c_t_cells, .int c_t_acts, .int c_t_refused, .int c_t_knocks, .int c_t_thrown_27])), (a_t_forms, .inl (cyJ, 6, .inr (.inl f_t_forms)))] H := hP.sub [1, 0] rfl
      have hD9 : va_D A [(a_t, .inr (8, [.ref a_t_forms, .ref a_t_roll, .int c_t_many, .long c_t_taps, .int c_t_cells, .int c_t_acts, .int c_t_refused, .int c_t_knocks, .int c_t_thrown_27])), (a_t_forms, .inl (cyJ, 6, .inr (.inl f_t_forms)))] := hD.sub [1, 0] (by decide) rfl
      exact W.iret hx hb hr (fun t ht hW => ⟨⟨_, (), rfl, rfl, wQA_of ht hP9 hD9⟩, hS.F ht⟩) hS.2.2 dX9_period_34
  have hj22 : ∀ (js1_22 : Int32) (c_t_thrown_j22 : Int32), J_X9_period_22 p0 f_t_forms js1_22 c_t_thrown_j22 = some (r0, o_c_t_thrown) → ∀ (H : Heap) (locs : List Loc), va_P D vwCl [(a_t, .inr (8, [.ref a_t_forms, .ref a_t_roll, .int c_t_many, .long c_t_taps, .int c_t_cells, .int c_t_acts, .int c_t_refused, .int c_t_knocks, .int c_t_thrown_j22])), (a_t_forms, .inl (cyJ, 6, .inr (.inl f_t_forms)))] H → va_D A [(a_t, .inr (8, [.ref a_t_forms, .ref a_t_roll, .int c_t_many, .long c_t_taps, .int c_t_cells, .int c_t_acts, .int c_t_refused, .int c_t_knocks, .int c_t_thrown_j22])), (a_t_forms, .inl (cyJ, 6, .inr (.inl f_t_forms)))] → va_S A s.heap H locs → ∀ (ls : Array Slot), lv_has ls 3 [(0, .ref a_t), (1, .int p0)] → W p l e rmX9_period s m ([.ref a_t, .int p0, .int p1] : List Value).toArray below meth c H locs 0 0 (MQ below (va_Qi (fun (r : Int32) (_ : Unit) => r = r0) (fun _ t => wQA D [(a_t, .inr (8, [.ref a_t_forms, .ref a_t_roll, .int c_t_many, .long c_t_taps, .int c_t_cells, .int c_t_acts, .int c_t_refused, .int c_t_knocks, .int o_c_t_thrown])), (a_t_forms, .inl (cyJ, 6, .inr (.inl f_t_forms)))] A t) A) ([.ref a_t, .int p0, .int p1] : List Value).toArray s 0 0 A) (F0 m 22 ls [.int js1_22, .ref a_t]) := by
    intro js1_22 c_t_thrown_j22 h H locs hP hD hS ls hl
    unfold J_X9_period_22 at h
    refine lv_iconst (v := 1) hx hb dX9_period_22 (by decide) ?_
    refine lv_goto (tgt := 27) hx hb dX9_period_23 (by decide) ?_
    exact hj27 js1_22 (1 : Int32) c_t_thrown_j22 h _ _ (hP.sub [0, 1] rfl) (hD.sub [0, 1] (by decide) rfl) hS ls (lv_sub hl [0, 1] rfl)
  have hj13 : ∀ (js1_13 : Int32) (c_t_thrown_j13 : Int32), J_X9_period_13 p0 p1 f_t_forms js1_13 c_t_thrown_j13 = some (r0, o_c_t_thrown) → ∀ (H : Heap) (locs : List Loc), va_P D vwCl [(a_t, .inr (8, [.ref a_t_forms, .ref a_t_roll, .int c_t_many, .long c_t_taps, .int c_t_cells, .int c_t_acts, .int c_t_refused, .int c_t_knocks, .int c_t_thrown_j13])), (a_t_forms, .inl (cyJ, 6, .inr (.inl f_t_forms)))] H → va_D A [(a_t, .inr (8, [.ref a_t_forms, .ref a_t_roll, .int c_t_many, .long c_t_taps, .int c_t_cells, .int c_t_acts, .int c_t_refused, .int c_t_knocks, .int c_t_thrown_j13])), (a_t_forms, .inl (cyJ, 6, .inr (.inl f_t_forms)))] → va_S A s.heap H locs → ∀ (ls : Array Slot), lv_has ls 3 [(0, .ref a_t), (1, .int p0), (2, .int p1)] → W p l e rmX9_period s m ([.ref a_t, .int p0, .int p1] : List Value).toArray below meth c H locs 0 0 (MQ below (va_Qi (fun (r : Int32) (_ : Unit) => r = r0) (fun _ t => wQA D [(a_t, .inr (8, [.ref a_t_forms, .ref a_t_roll, .int c_t_many, .long c_t_taps, .int c_t_cells, .int c_t_acts, .int c_t_refused, .int c_t_knocks, .int o_c_t_thrown])), (a_t_forms, .inl (cyJ, 6, .inr (.inl f_t_forms)))] A t) A) ([.ref a_t, .int p0, .int p1] : List Value).toArray s 0 0 A) (F0 m 13 ls [.int js1_13, .ref a_t]) := by
    intro js1_13 c_t_thrown_j13 h H locs hP hD hS ls hl
    unfold J_X9_period_13 at h
    refine lv_iload_n hx hb dX9_period_13 rfl (lv_at hl 2 rfl) ?_
    refine lv_if_lt (tgt := 22) hx hb dX9_period_14 (by decide) (fun c14 => ?_) (fun c14 => ?_)
    · have h := it_ c14 h
      exact hj22 js1_13 c_t_thrown_j13 h _ _ (hP.sub [0, 1] rfl) (hD.sub [0, 1] (by decide) rfl) hS ls (lv_sub hl [0, 1] rfl)
    · have h := if_ c14 h
      refine lv_iload_n hx hb dX9_period_17 rfl (lv_at hl 2 rfl) ?_
      refine lv_iconst (v := 2) hx hb dX9_period_18 (by decide) ?_
      refine lv_icmp_le (tgt := 26) hx hb dX9_period_19 (by decide) (fun c19 => ?_) (fun c19 => ?_)
      · have h := it_ c19 h
        refine lv_iconst (v := 0) hx hb dX9_period_26 (by decide) ?_
        exact hj27 js1_13 (0 : Int32) c_t_thrown_j13 h _ _ (hP.sub [0, 1] rfl) (hD.sub [0, 1] (by decide) rfl) hS ls (lv_sub hl [0, 1] rfl)
      · have h := if_ c19 h
        exact hj22 js1_13 c_t_thrown_j13 h _ _ (hP.sub [0, 1] rfl) (hD.sub [0, 1] (by decide) rfl) hS ls (lv_sub hl [0, 1] rfl)
  refine lv_aload_n hx hb dX9_period_0 rfl (lv_at hl 0 rfl) ?_
  refine lv_iload_n hx hb dX9_period_1 rfl (lv_at hl 1 rfl) ?_
  obtain ⟨r2, hc2, h⟩ := obn_h h
  refine pz_callS (As := [.int p0]) (rest := [.ref a_t]) hcf (c_X9_isForm l p0 r2 hc2) (va_cwS 1 hts gX9_period_X9_isForm rfl rfl rfl ydX9_isForm ⟨Nat.le_of_ble_eq_true rfl, Nat.le_of_ble_eq_true rfl⟩) hnw rfl hl.1 rfl (Nat.le_of_ble_eq_true rfl) dX9_period_2 ⟨Nat.le_of_ble_eq_true rfl, Nat.le_of_ble_eq_true rfl⟩ ?_
  refine lv_if_ne (tgt := 12) hx hb dX9_period_5 (by decide) (fun c5 => ?_) (fun c5 => ?_)
  · have h := if_ c5 h
    refine lv_iconst (v := 0) hx hb dX9_period_12 (by decide) ?_
    exact hj13 (0 : Int32) c_t_thrown h _ _ (hP.sub [0, 1] rfl) (hD.sub [0, 1] (by decide) rfl) hS ls (lv_sub hl [0, 1, 2] rfl)
  · have h := it_ c5 h
    refine lv_iconst (v := 1) hx hb dX9_period_8 (by decide) ?_
    refine lv_goto (tgt := 13) hx hb dX9_period_9 (by decide) ?_
    exact hj13 (1 : Int32) c_t_thrown h _ _ (hP.sub [0, 1] rfl) (hD.sub [0, 1] (by decide) rfl) hS ls (lv_sub hl [0, 1, 2] rfl)

noncomputable abbrev rmX9_rollText : Room := { frames := 7, cells := 136, slots := 40208, locals := 214 }
theorem ydX9_rollText : yX9_rollText.cls = RX9 ∧ yX9_rollText.cls ≠ "java/lang/invoke/MethodHandle" ∧ yX9_rollText.cls ≠ "java/lang/invoke/VarHandle" ∧ (parseMethodDescriptor yX9_rollText.desc).map (fun d => d.parameters.length) = some 1 := by decide +kernel
noncomputable def F_X9_rollText (c_t_many : Int32) (f_t_roll : Nat → Int64) (p0 : Int32) : Option (Int32) :=
 (if p0 < 0 then
 obn2 (F_X9_isThrown_ (1 : Int32)) (fun r18 c_t_thrown_18 =>
 (if r18 = 0 then
 chk (¬ (p0 < 0 ∨ 12 ≤ p0.toNatClampNeg)) (
 obn (F_X9_textOf (f_t_roll p0.toNatClampNeg)) (fun u35 =>
 some c_t_thrown_18))
else
 some c_t_thrown_18))
else
 (if p0 < c_t_many then
 obn2 (F_X9_isThrown_ (0 : Int32)) (fun r18 c_t_thrown_18 =>
 (if r18 = 0 then
 chk (¬ (p0 < 0 ∨ 12 ≤ p0.toNatClampNeg)) (
 obn (F_X9_textOf (f_t_roll p0.toNatClampNeg)) (fun u35 =>
 some c_t_thrown_18))
else
 some c_t_thrown_18))
else
 obn2 (F_X9_isThrown_ (1 : Int32)) (fun r18 c_t_thrown_18 =>
 (if r18 = 0 then
 chk (¬ (p0 < 0 ∨ 12 ≤ p0.toNatClampNeg)) (
 obn (F_X9_textOf (f_t_roll p0.toNatClampNeg)) (fun u35 =>
 some c_t_thrown_18))
else
 some c_t_thrown_18))))
set_option maxHeartbeats 4000000 in
set_option maxRecDepth 100000 in
theorem c_X9_rollText (l : Launch) (D : va_G) (cyJ cyB : ClassId) (adK adV : Nat → Nat) (sz : Nat) (a_t : Nat) (a_t_forms : Nat) (a_t_roll : Nat) (c_t_many : Int32) (c_t_taps : Int64) (c_t_cells : Int32) (c_t_acts : Int32) (c_t_refused : Int32) (c_t_knocks : Int32) (c_t_thrown : Int32) (f_t_roll : Nat → Int64) (p0 : Int32) (o_c_t_thrown : Int32) (hF : F_X9_rollText c_t_many f_t_roll p0 = some o_c_t_thrown) : Met l yX9_rollText wsX9_rollText rmX9_rollText (va_Pc [.ref a_t, .int p0] (wPDT D [(cyJ, .long), (cyB, .byte)] [(a_t, .inr (8, [.ref a_t_forms, .ref a_t_roll, .int c_t_many, .long c_t_taps, .int c_t_cells, .int c_t_acts, .int c_t_refused, .int c_t_knocks, .int c_t_thrown])), (a_t_roll, .inl (cyJ, 12, .inr (.inl f_t_roll)))] adK adV sz)) (va_Qr (fun (_ : Unit) => True) (fun u r t => wQA D [(a_t, .inr (8, [.ref a_t_forms, .ref a_t_roll, .int c_t_many, .long c_t_taps, .int c_t_cells, .int c_t_acts, .int c_t_refused, .int c_t_knocks, .int o_c_t_thrown])), (a_t_roll, .inl (cyJ, 12, .inr (.inl f_t_roll)))] (va_A [(a_t, .inr (8, [.ref a_t_forms, .ref a_t_roll, .int c_t_many, .long c_t_taps, .int c_t_cells, .int c_t_acts, .int c_t_refused, .int c_t_knocks, .int c_t_thrown])), (a_t_roll, .inl (cyJ, 12, .inr (.inl f_t_roll)))] sz) t) (va_A [(a_t, .inr (8, [.ref a_t_forms, .ref a_t_roll, .int c_t_many, .long c_t_taps, .int c_t_cells, .int c_t_acts, .int c_t_refused, .int c_t_knocks, .int c_t_thrown])), (a_t_roll, .inl (cyJ, 12, .inr (.inl f_t_roll)))] sz)) 136 40208 (va_A [(a_t, .inr (8, [.ref a_t_forms, .ref a_t_roll, .int c_t_many, .long c_t_taps, .int c_t_cells, .int c_t_acts, .int c_t_refused, .int c_t_knocks, .int c_t_thrown])), (a_t_roll, .inl (cyJ, 12, .inr (.inl f_t_roll)))] sz) := by
  refine Met.ofW (cc := cX9_rollText) (maxL := 2) (ret := (some (.object "java/lang/String"))) (by decide) rfl ?_
  intro p e s m args below meth c s₁ B hml hv
  obtain ⟨rfl, ⟨⟨hsz, hP, hK, hD0, hnw⟩, hT⟩⟩ := hv
  have hx := B.exec
  have hb := B.bytes
  have hr := B.returns
  have hts := atoms_spec (ws := wsX9_rollText) B.pre
  have hown : s.vm.findClass RX9 = some m.cls := findClass_of_methodNamed B.named
  have hlocks := B.notSynchronized
  have hcf : CallFix _ _ _ _ _ _ _ _ _ := ⟨hx, hb, hml, hown, hts⟩
  have hinX9 : ∀ w ∈ u_ws RX9 TX9 9, w ∈ wsX9_rollText := by decide +kernel
  have hfl123 := hts (.fieldLink RX9 123 "FormwheelModel" "many" "I") (by decide +kernel)
  have hfl13 := hts (.fieldLink RX9 13 "FormwheelModel" "roll" "[J") (by decide +kernel)
  subst hsz
  have hD := hD0.self (sz := s.heap.size)
  generalize hAe : va_A [(a_t, .inr (8, [.ref a_t_forms, .ref a_t_roll, .int c_t_many, .long c_t_taps, .int c_t_cells, .int c_t_acts, .int c_t_refused, .int c_t_knocks, .int c_t_thrown])), (a_t_roll, .inl (cyJ, 12, .inr (.inl f_t_roll)))] s.heap.size = A at hD hT ⊢
  have hA : ∀ q : Nat, s.heap.size ≤ q → A q := fun q h => by rw [← hAe]; exact Or.inr h
  have hS : va_S A s.heap s.heap [] := va_S.rf
  have hP : va_P D vwCl [(a_t, .inr (8, [.ref a_t_forms, .ref a_t_roll, .int c_t_many, .long c_t_taps, .int c_t_cells, .int c_t_acts, .int c_t_refused, .int c_t_knocks, .int c_t_thrown])), (a_t_roll, .inl (cyJ, 12, .inr (.inl f_t_roll)))] s.heap := hP
  have hK0 := hK
  have hcB : s.vm.findClass "[B" = some cyB := (hK.2 1 _ rfl).2
  have hl := lv_entry ([.ref a_t, .int p0]) (n := 2) (Nat.le_of_ble_eq_true rfl)
  rw [lg_entry_eq]
  generalize (lg_sl ([.ref a_t, .int p0]) ++ List.replicate (2 - (lg_sl ([.ref a_t, .int p0])).length) Slot.unset).toArray = ls at hl ⊢
  have hl : lv_has ls 2 [(0, .ref a_t), (1, .int p0)] := hl
  have h := hF
  clear hF
  unfold F_X9_rollText at h
  refine lv_aload_n hx hb dX9_rollText_0 rfl (lv_at hl 0 rfl) ?_
  refine lv_iload_n hx hb dX9_rollText_1 rfl (lv_at hl 1 rfl) ?_
  refine lv_if_lt (tgt := 13) hx hb dX9_rollText_2 (by decide) (fun c2 => ?_) (fun c2 => ?_)
  · have h := it_ c2 h
    refine lv_iconst (v := 1) hx hb dX9_rollText_13 (by decide) ?_
    refine lv_goto (tgt := 18) hx hb dX9_rollText_14 (by decide) ?_
    obtain ⟨r18, c_t_thrown_18, hc18, h⟩ := obn2_h h
    have hPc := hP.sub (ws' := [(a_t, .inr (8, [.ref a_t_forms, .ref a_t_roll, .int c_t_many, .long c_t_taps, .int c_t_cells, .int c_t_acts, .int c_t_refused, .int c_t_knocks, .int c_t_thrown]))]) [0] rfl
    have hDc := hD.sub (ws' := [(a_t, .inr (8, [.ref a_t_forms, .ref a_t_roll, .int c_t_many, .long c_t_taps, .int c_t_cells, .int c_t_acts, .int c_t_refused, .int c_t_knocks, .int c_t_thrown]))]) [0] (by decide) rfl
    refine hp_i (w1 := [(a_t, .inr (8, [.ref a_t_forms, .ref a_t_roll, .int c_t_many, .long c_t_taps, .int c_t_cells, .int c_t_acts, .int c_t_refused, .int c_t_knocks, .int c_t_thrown_18]))]) (wr := [(a_t_roll, .inl (cyJ, 12, .inr (.inl f_t_roll)))]) (va_runV (As := [.int (1 : Int32)]) (rest := []) hcf (c_X9_isThrown_ l D cyJ s.heap.size a_t a_t_forms a_t_roll c_t_many c_t_taps c_t_cells c_t_acts c_t_refused c_t_knocks c_t_thrown (1 : Int32) r18 c_t_thrown_18 hc18) (cwV 1 hts gX9_rollText_X9_isThrown_ rfl rfl rfl ydX9_isThrown_ ⟨Nat.le_of_ble_eq_true rfl, Nat.le_of_ble_eq_true rfl⟩) ⟨bl_PD, va_recv hK hP (ci := 8) (q0 := 0) rfl rfl, pr_PD hPc (hK0.sub [0] rfl) hDc hnw⟩ rfl rfl hl.1 rfl (lv_room (Nat.le_of_ble_eq_true rfl)) dX9_rollText_18 ⟨Nat.le_of_ble_eq_true rfl, Nat.le_of_ble_eq_true rfl⟩) hP hD hS hA [0] [1] rfl rfl (by decide) (by decide) (fun H locs hP hD hS => ?_)
    have hP : va_P D vwCl [(a_t_roll, .inl (cyJ, 12, .inr (.inl f_t_roll))), (a_t, .inr (8, [.ref a_t_forms, .ref a_t_roll, .int c_t_many, .long c_t_taps, .int c_t_cells, .int c_t_acts, .int c_t_refused, .int c_t_knocks, .int c_t_thrown_18]))] H := hP
    have hD : va_D A [(a_t_roll, .inl (cyJ, 12, .inr (.inl f_t_roll))), (a_t, .inr (8, [.ref a_t_forms, .ref a_t_roll, .int c_t_many, .long c_t_taps, .int c_t_cells, .int c_t_acts, .int c_t_refused, .int c_t_knocks, .int c_t_thrown_18]))] := hD
    refine lv_if_eq (tgt := 29) hx hb dX9_rollText_21 (by decide) (fun c21 => ?_) (fun c21 => ?_)
    · have h := it_ c21 h
      refine lv_aload_n hx hb dX9_rollText_29 rfl (lv_at hl 0 rfl) ?_
      refine va_get (D := D) (ci := 8) (v := .ref a_t_roll) (C := RX9) (T := TX9) (N := 9) hx hb hts hinX9 hown hK hP 1 rfl rfl 1 (by decide) hfl13 (fun _ h9 => h9) rfl dX9_rollText_30 ?_
      refine lv_iload_n hx hb dX9_rollText_33 rfl (lv_at hl 1 rfl) ?_
      obtain ⟨hq34, h⟩ := chk_h h
      refine va_lald hx hb hK hP 0 0 rfl rfl hq34 dX9_rollText_34 ?_
      obtain ⟨u35, hc35, h⟩ := obn_h h
      have hPc := hP.sub (ws' := []) [] rfl
      have hDc := hD.sub (ws' := []) [] (by decide) rfl
      refine hp_r (wr := [(a_t_roll, .inl (cyJ, 12, .inr (.inl f_t_roll))), (a_t, .inr (8, [.ref a_t_forms, .ref a_t_roll, .int c_t_many, .long c_t_taps, .int c_t_cells, .int c_t_acts, .int c_t_refused, .int c_t_knocks, .int c_t_thrown_18]))]) (va_runS (As := [.long (f_t_roll p0.toNatClampNeg)]) (rest := []) hcf (c_X9_textOf l D cyJ cyB adK adV H.size (f_t_roll p0.toNatClampNeg) hc35) (va_cwS 1 hts gX9_rollText_X9_textOf rfl rfl rfl ydX9_textOf ⟨Nat.le_of_ble_eq_true rfl, Nat.le_of_ble_eq_true rfl⟩) ⟨bl_PDT, pr_PDT hPc hK0 hDc hnw hT hS (va_free hD hS hA [] rfl)⟩ rfl rfl hl.1 rfl (lv_room (Nat.le_of_ble_eq_true rfl)) dX9_rollText_35 ⟨Nat.le_of_ble_eq_true rfl, Nat.le_of_ble_eq_true rfl⟩) hP hD hS hA [] [0, 1] rfl rfl (by decide) (by decide) (fun u35 b_ret35_35 H locs hP hD hS => ?_)
      have hP : va_P D vwCl [(a_t_roll, .inl (cyJ, 12, .inr (.inl f_t_roll))), (a_t, .inr (8, [.ref a_t_forms, .ref a_t_roll, .int c_t_many, .long c_t_taps, .int c_t_cells, .int c_t_acts, .int c_t_refused, .int c_t_knocks, .int c_t_thrown_18]))] H := hP
      have hD : va_D A [(a_t_roll, .inl (cyJ, 12, .inr (.inl f_t_roll))), (a_t, .inr (8, [.ref a_t_forms, .ref a_t_roll, .int c_t_many, .long c_t_taps, .int c_t_cells, .int c_t_acts, .int c_t_refused, .int c_t_knocks, .int c_t_thrown_18]))] := hD
      have e1 := Option.some.inj h
      subst e1
      have hP9 : va_P D vwCl [(a_t, .inr (8, [.ref a_t_forms, .ref a_t_roll, .int c_t_many, .long c_t_taps, .int c_t_cells, .int c_t_acts, .int c_t_refused, .int c_t_knocks, .int c_t_thrown_18])), (a_t_roll, .inl (cyJ, 12, .inr (.inl f_t_roll)))] H := hP.sub [1, 0] rfl
      have hD9 : va_D A [(a_t, .inr (8, [.ref a_t_forms, .ref a_t_roll, .int c_t_many, .long c_t_taps, .int c_t_cells, .int c_t_acts, .int c_t_refused, .int c_t_knocks, .int c_t_thrown_18])), (a_t_roll, .inl (cyJ, 12, .inr (.inl f_t_roll)))] := hD.sub [1, 0] (by decide) rfl
      exact W.aret (v := .ref b_ret35_35) hx hb hr (Or.inl ⟨_, rfl⟩) (Or.inr ⟨_, rfl⟩) (fun t ht hW => ⟨⟨(), b_ret35_35, rfl, trivial, wQA_of ht hP9 hD9⟩, hS.F ht⟩) hS.2.2 dX9_rollText_38
    · have h := if_ c21 h
      refine va_ldcS hx hb hown (hT.2.2.2.2.1) dX9_rollText_24 ?_
      refine lv_goto (tgt := 38) hx hb dX9_rollText_26 (by decide) ?_
      have e1 := Option.some.inj h
      subst e1
      have hP9 : va_P D vwCl [(a_t, .inr (8, [.ref a_t_forms, .ref a_t_roll, .int c_t_many, .long c_t_taps, .int c_t_cells, .int c_t_acts, .int c_t_refused, .int c_t_knocks, .int c_t_thrown_18])), (a_t_roll, .inl (cyJ, 12, .inr (.inl f_t_roll)))] H := hP.sub [1, 0] rfl
      have hD9 : va_D A [(a_t, .inr (8, [.ref a_t_forms, .ref a_t_roll, .int c_t_many, .long c_t_taps, .int c_t_cells, .int c_t_acts, .int c_t_refused, .int c_t_knocks, .int c_t_thrown_18])), (a_t_roll, .inl (cyJ, 12, .inr (.inl f_t_roll)))] := hD.sub [1, 0] (by decide) rfl
      refine W.widen (k := 136) (n := 40208) (Nat.le_of_ble_eq_true rfl) (Nat.le_of_ble_eq_true rfl) ?_
      exact W.aret (v := .ref (adK 0)) hx hb hr (Or.inl ⟨_, rfl⟩) (Or.inr ⟨_, rfl⟩) (fun t ht hW => ⟨⟨(), (adK 0), rfl, trivial, wQA_of ht hP9 hD9⟩, hS.F ht⟩) hS.2.2 dX9_rollText_38
  · have h := if_ c2 h
    refine lv_iload_n hx hb dX9_rollText_5 rfl (lv_at hl 1 rfl) ?_
    refine lv_aload_n hx hb dX9_rollText_6 rfl (lv_at hl 0 rfl) ?_
    refine va_get (D := D) (ci := 8) (v := .int c_t_many) (C := RX9) (T := TX9) (N := 9) hx hb hts hinX9 hown hK hP 0 rfl rfl 2 (by decide) hfl123 (fun _ h9 => h9) rfl dX9_rollText_7 ?_
    refine lv_icmp_lt (tgt := 17) hx hb dX9_rollText_10 (by decide) (fun c10 => ?_) (fun c10 => ?_)
    · have h := it_ c10 h
      refine lv_iconst (v := 0) hx hb dX9_rollText_17 (by decide) ?_
      obtain ⟨r18, c_t_thrown_18, hc18, h⟩ := obn2_h h
      have hPc := hP.sub (ws' := [(a_t, .inr (8, [.ref a_t_forms, .ref a_t_roll, .int c_t_many, .long c_t_taps, .int c_t_cells, .int c_t_acts, .int c_t_refused, .int c_t_knocks, .int c_t_thrown]))]) [0] rfl
      have hDc := hD.sub (ws' := [(a_t, .inr (8, [.ref a_t_forms, .ref a_t_roll, .int c_t_many, .long c_t_taps, .int c_t_cells, .int c_t_acts, .int c_t_refused, .int c_t_knocks, .int c_t_thrown]))]) [0] (by decide) rfl
      refine hp_i (w1 := [(a_t, .inr (8, [.ref a_t_forms, .ref a_t_roll, .int c_t_many, .long c_t_taps, .int c_t_cells, .int c_t_acts, .int c_t_refused, .int c_t_knocks, .int c_t_thrown_18]))]) (wr := [(a_t_roll, .inl (cyJ, 12, .inr (.inl f_t_roll)))]) (va_runV (As := [.int (0 : Int32)]) (rest := []) hcf (c_X9_isThrown_ l D cyJ s.heap.size a_t a_t_forms a_t_roll c_t_many c_t_taps c_t_cells c_t_acts c_t_refused c_t_knocks c_t_thrown (0 : Int32) r18 c_t_thrown_18 hc18) (cwV 1 hts gX9_rollText_X9_isThrown_ rfl rfl rfl ydX9_isThrown_ ⟨Nat.le_of_ble_eq_true rfl, Nat.le_of_ble_eq_true rfl⟩) ⟨bl_PD, va_recv hK hP (ci := 8) (q0 := 0) rfl rfl, pr_PD hPc (hK0.sub [0] rfl) hDc hnw⟩ rfl rfl hl.1 rfl (lv_room (Nat.le_of_ble_eq_true rfl)) dX9_rollText_18 ⟨Nat.le_of_ble_eq_true rfl, Nat.le_of_ble_eq_true rfl⟩) hP hD hS hA [0] [1] rfl rfl (by decide) (by decide) (fun H locs hP hD hS => ?_)
      have hP : va_P D vwCl [(a_t_roll, .inl (cyJ, 12, .inr (.inl f_t_roll))), (a_t, .inr (8, [.ref a_t_forms, .ref a_t_roll, .int c_t_many, .long c_t_taps, .int c_t_cells, .int c_t_acts, .int c_t_refused, .int c_t_knocks, .int c_t_thrown_18]))] H := hP
      have hD : va_D A [(a_t_roll, .inl (cyJ, 12, .inr (.inl f_t_roll))), (a_t, .inr (8, [.ref a_t_forms, .ref a_t_roll, .int c_t_many, .long c_t_taps, .int c_t_cells, .int c_t_acts, .int c_t_refused, .int c_t_knocks, .int c_t_thrown_18]))] := hD
      refine lv_if_eq (tgt := 29) hx hb dX9_rollText_21 (by decide) (fun c21 => ?_) (fun c21 => ?_)
      · have h := it_ c21 h
        refine lv_aload_n hx hb dX9_rollText_29 rfl (lv_at hl 0 rfl) ?_
        refine va_get (D := D) (ci := 8) (v := .ref a_t_roll) (C := RX9) (T := TX9) (N := 9) hx hb hts hinX9 hown hK hP 1 rfl rfl 1 (by decide) hfl13 (fun _ h9 => h9) rfl dX9_rollText_30 ?_
        refine lv_iload_n hx hb dX9_rollText_33 rfl (lv_at hl 1 rfl) ?_
        obtain ⟨hq34, h⟩ := chk_h h
        refine va_lald hx hb hK hP 0 0 rfl rfl hq34 dX9_rollText_34 ?_
        obtain ⟨u35, hc35, h⟩ := obn_h h
        have hPc := hP.sub (ws' := []) [] rfl
        have hDc := hD.sub (ws' := []) [] (by decide) rfl
        refine hp_r (wr := [(a_t_roll, .inl (cyJ, 12, .inr (.inl f_t_roll))), (a_t, .inr (8, [.ref a_t_forms, .ref a_t_roll, .int c_t_many, .long c_t_taps, .int c_t_cells, .int c_t_acts, .int c_t_refused, .int c_t_knocks, .int c_t_thrown_18]))]) (va_runS (As := [.long (f_t_roll p0.toNatClampNeg)]) (rest := []) hcf (c_X9_textOf l D cyJ cyB adK adV H.size (f_t_roll p0.toNatClampNeg) hc35) (va_cwS 1 hts gX9_rollText_X9_textOf rfl rfl rfl ydX9_textOf ⟨Nat.le_of_ble_eq_true rfl, Nat.le_of_ble_eq_true rfl⟩) ⟨bl_PDT, pr_PDT hPc hK0 hDc hnw hT hS (va_free hD hS hA [] rfl)⟩ rfl rfl hl.1 rfl (lv_room (Nat.le_of_ble_eq_true rfl)) dX9_rollText_35 ⟨Nat.le_of_ble_eq_true rfl, Nat.le_of_ble_eq_true rfl⟩) hP hD hS hA [] [0, 1] rfl rfl (by decide) (by decide) (fun u35 b_ret35_35 H locs hP hD hS => ?_)
        have hP : va_P D vwCl [(a_t_roll, .inl (cyJ, 12, .inr (.inl f_t_roll))), (a_t, .inr (8, [.ref a_t_forms, .ref a_t_roll, .int c_t_many, .long c_t_taps, .int c_t_cells, .int c_t_acts, .int c_t_refused, .int c_t_knocks, .int c_t_thrown_18]))] H := hP
        have hD : va_D A [(a_t_roll, .inl (cyJ, 12, .inr (.inl f_t_roll))), (a_t, .inr (8, [.ref a_t_forms, .ref a_t_roll, .int c_t_many, .long c_t_taps, .int c_t_cells, .int c_t_acts, .int c_t_refused, .int c_t_knocks, .int c_t_thrown_18]))] := hD
        have e1 := Option.some.inj h
        subst e1
        have hP9 : va_P D vwCl [(a_t, .inr (8, [.ref a_t_forms, .ref a_t_roll, .int c_t_many, .long c_t_taps, .int c_t_cells, .int c_t_acts, .int c_t_refused, .int c_t_knocks, .int c_t_thrown_18])), (a_t_roll, .inl (cyJ, 12, .inr (.inl f_t_roll)))] H := hP.sub [1, 0] rfl
        have hD9 : va_D A [(a_t, .inr (8, [.ref a_t_forms, .ref a_t_roll, .int c_t_many, .long c_t_taps, .int c_t_cells, .int c_t_acts, .int c_t_refused, .int c_t_knocks, .int c_t_thrown_18])), (a_t_roll, .inl (cyJ, 12, .inr (.inl f_t_roll)))] := hD.sub [1, 0] (by decide) rfl
        exact W.aret (v := .ref b_ret35_35) hx hb hr (Or.inl ⟨_, rfl⟩) (Or.inr ⟨_, rfl⟩) (fun t ht hW => ⟨⟨(), b_ret35_35, rfl, trivial, wQA_of ht hP9 hD9⟩, hS.F ht⟩) hS.2.2 dX9_rollText_38
      · have h := if_ c21 h
        refine va_ldcS hx hb hown (hT.2.2.2.2.1) dX9_rollText_24 ?_
        refine lv_goto (tgt := 38) hx hb dX9_rollText_26 (by decide) ?_
        have e1 := Option.some.inj h
        subst e1
        have hP9 : va_P D vwCl [(a_t, .inr (8, [.ref a_t_forms, .ref a_t_roll, .int c_t_many, .long c_t_taps, .int c_t_cells, .int c_t_acts, .int c_t_refused, .int c_t_knocks, .int c_t_thrown_18])), (a_t_roll, .inl (cyJ, 12, .inr (.inl f_t_roll)))] H := hP.sub [1, 0] rfl
        have hD9 : va_D A [(a_t, .inr (8, [.ref a_t_forms, .ref a_t_roll, .int c_t_many, .long c_t_taps, .int c_t_cells, .int c_t_acts, .int c_t_refused, .int c_t_knocks, .int c_t_thrown_18])), (a_t_roll, .inl (cyJ, 12, .inr (.inl f_t_roll)))] := hD.sub [1, 0] (by decide) rfl
        refine W.widen (k := 136) (n := 40208) (Nat.le_of_ble_eq_true rfl) (Nat.le_of_ble_eq_true rfl) ?_
        exact W.aret (v := .ref (adK 0)) hx hb hr (Or.inl ⟨_, rfl⟩) (Or.inr ⟨_, rfl⟩) (fun t ht hW => ⟨⟨(), (adK 0), rfl, trivial, wQA_of ht hP9 hD9⟩, hS.F ht⟩) hS.2.2 dX9_rollText_38
    · have h := if_ c10 h
      refine lv_iconst (v := 1) hx hb dX9_rollText_13 (by decide) ?_
      refine lv_goto (tgt := 18) hx hb dX9_rollText_14 (by decide) ?_
      obtain ⟨r18, c_t_thrown_18, hc18, h⟩ := obn2_h h
      have hPc := hP.sub (ws' := [(a_t, .inr (8, [.ref a_t_forms, .ref a_t_roll, .int c_t_many, .long c_t_taps, .int c_t_cells, .int c_t_acts, .int c_t_refused, .int c_t_knocks, .int c_t_thrown]))]) [0] rfl
      have hDc := hD.sub (ws' := [(a_t, .inr (8, [.ref a_t_forms, .ref a_t_roll, .int c_t_many, .long c_t_taps, .int c_t_cells, .int c_t_acts, .int c_t_refused, .int c_t_knocks, .int c_t_thrown]))]) [0] (by decide) rfl
      refine hp_i (w1 := [(a_t, .inr (8, [.ref a_t_forms, .ref a_t_roll, .int c_t_many, .long c_t_taps, .int c_t_cells, .int c_t_acts, .int c_t_refused, .int c_t_knocks, .int c_t_thrown_18]))]) (wr := [(a_t_roll, .inl (cyJ, 12, .inr (.inl f_t_roll)))]) (va_runV (As := [.int (1 : Int32)]) (rest := []) hcf (c_X9_isThrown_ l D cyJ s.heap.size a_t a_t_forms a_t_roll c_t_many c_t_taps c_t_cells c_t_acts c_t_refused c_t_knocks c_t_thrown (1 : Int32) r18 c_t_thrown_18 hc18) (cwV 1 hts gX9_rollText_X9_isThrown_ rfl rfl rfl ydX9_isThrown_ ⟨Nat.le_of_ble_eq_true rfl, Nat.le_of_ble_eq_true rfl⟩) ⟨bl_PD, va_recv hK hP (ci := 8) (q0 := 0) rfl rfl, pr_PD hPc (hK0.sub [0] rfl) hDc hnw⟩ rfl rfl hl.1 rfl (lv_room (Nat.le_of_ble_eq_true rfl)) dX9_rollText_18 ⟨Nat.le_of_ble_eq_true rfl, Nat.le_of_ble_eq_true rfl⟩) hP hD hS hA [0] [1] rfl rfl (by decide) (by decide) (fun H locs hP hD hS => ?_)
      have hP : va_P D vwCl [(a_t_roll, .inl (cyJ, 12, .inr (.inl f_t_roll))), (a_t, .inr (8, [.ref a_t_forms, .ref a_t_roll, .int c_t_many, .long c_t_taps, .int c_t_cells, .int c_t_acts, .int c_t_refused, .int c_t_knocks, .int c_t_thrown_18]))] H := hP
      have hD : va_D A [(a_t_roll, .inl (cyJ, 12, .inr (.inl f_t_roll))), (a_t, .inr (8, [.ref a_t_forms, .ref a_t_roll, .int c_t_many, .long c_t_taps, .int c_t_cells, .int c_t_acts, .int c_t_refused, .int c_t_knocks, .int c_t_thrown_18]))] := hD
      refine lv_if_eq (tgt := 29) hx hb dX9_rollText_21 (by decide) (fun c21 => ?_) (fun c21 => ?_)
      · have h := it_ c21 h
        refine lv_aload_n hx hb dX9_rollText_29 rfl (lv_at hl 0 rfl) ?_
        refine va_get (D := D) (ci := 8) (v := .ref a_t_roll) (C := RX9) (T := TX9) (N := 9) hx hb hts hinX9 hown hK hP 1 rfl rfl 1 (by decide) hfl13 (fun _ h9 => h9) rfl dX9_rollText_30 ?_
        refine lv_iload_n hx hb dX9_rollText_33 rfl (lv_at hl 1 rfl) ?_
        obtain ⟨hq34, h⟩ := chk_h h
        refine va_lald hx hb hK hP 0 0 rfl rfl hq34 dX9_rollText_34 ?_
        obtain ⟨u35, hc35, h⟩ := obn_h h
        have hPc := hP.sub (ws' := []) [] rfl
        have hDc := hD.sub (ws' := []) [] (by decide) rfl
        refine hp_r (wr := [(a_t_roll, .inl (cyJ, 12, .inr (.inl f_t_roll))), (a_t, .inr (8, [.ref a_t_forms, .ref a_t_roll, .int c_t_many, .long c_t_taps, .int c_t_cells, .int c_t_acts, .int c_t_refused, .int c_t_knocks, .int c_t_thrown_18]))]) (va_runS (As := [.long (f_t_roll p0.toNatClampNeg)]) (rest := []) hcf (c_X9_textOf l D cyJ cyB adK adV H.size (f_t_roll p0.toNatClampNeg) hc35) (va_cwS 1 hts gX9_rollText_X9_textOf rfl rfl rfl ydX9_textOf ⟨Nat.le_of_ble_eq_true rfl, Nat.le_of_ble_eq_true rfl⟩) ⟨bl_PDT, pr_PDT hPc hK0 hDc hnw hT hS (va_free hD hS hA [] rfl)⟩ rfl rfl hl.1 rfl (lv_room (Nat.le_of_ble_eq_true rfl)) dX9_rollText_35 ⟨Nat.le_of_ble_eq_true rfl, Nat.le_of_ble_eq_true rfl⟩) hP hD hS hA [] [0, 1] rfl rfl (by decide) (by decide) (fun u35 b_ret35_35 H locs hP hD hS => ?_)
        have hP : va_P D vwCl [(a_t_roll, .inl (cyJ, 12, .inr (.inl f_t_roll))), (a_t, .inr (8, [.ref a_t_forms, .ref a_t_roll, .int c_t_many, .long c_t_taps, .int c_t_cells, .int c_t_acts, .int c_t_refused, .int c_t_knocks, .int c_t_thrown_18]))] H := hP
        have hD : va_D A [(a_t_roll, .inl (cyJ, 12, .inr (.inl f_t_roll))), (a_t, .inr (8, [.ref a_t_forms, .ref a_t_roll, .int c_t_many, .long c_t_taps, .int c_t_cells, .int c_t_acts, .int c_t_refused, .int c_t_knocks, .int c_t_thrown_18]))] := hD
        have e1 := Option.some.inj h
        subst e1
        have hP9 : va_P D vwCl [(a_t, .inr (8, [.ref a_t_forms, .ref a_t_roll, .int c_t_many, .long c_t_taps, .int c_t_cells, .int c_t_acts, .int c_t_refused, .int c_t_knocks, .int c_t_thrown_18])), (a_t_roll, .inl (cyJ, 12, .inr (.inl f_t_roll)))] H := hP.sub [1, 0] rfl
        have hD9 : va_D A [(a_t, .inr (8, [.ref a_t_forms, .ref a_t_roll, .int c_t_many, .long c_t_taps, .int c_t_cells, .int c_t_acts, .int c_t_refused, .int c_t_knocks, .int c_t_thrown_18])), (a_t_roll, .inl (cyJ, 12, .inr (.inl f_t_roll)))] := hD.sub [1, 0] (by decide) rfl
        exact W.aret (v := .ref b_ret35_35) hx hb hr (Or.inl ⟨_, rfl⟩) (Or.inr ⟨_, rfl⟩) (fun t ht hW => ⟨⟨(), b_ret35_35, rfl, trivial, wQA_of ht hP9 hD9⟩, hS.F ht⟩) hS.2.2 dX9_rollText_38
      · have h := if_ c21 h
        refine va_ldcS hx hb hown (hT.2.2.2.2.1) dX9_rollText_24 ?_
        refine lv_goto (tgt := 38) hx hb dX9_rollText_26 (by decide) ?_
        have e1 := Option.some.inj h
        subst e1
        have hP9 : va_P D vwCl [(a_t, .inr (8, [.ref a_t_forms, .ref a_t_roll, .int c_t_many, .long c_t_taps, .int c_t_cells, .int c_t_acts, .int c_t_refused, .int c_t_knocks, .int c_t_thrown_18])), (a_t_roll, .inl (cyJ, 12, .inr (.inl f_t_roll)))] H := hP.sub [1, 0] rfl
        have hD9 : va_D A [(a_t, .inr (8, [.ref a_t_forms, .ref a_t_roll, .int c_t_many, .long c_t_taps, .int c_t_cells, .int c_t_acts, .int c_t_refused, .int c_t_knocks, .int c_t_thrown_18])), (a_t_roll, .inl (cyJ, 12, .inr (.inl f_t_roll)))] := hD.sub [1, 0] (by decide) rfl
        refine W.widen (k := 136) (n := 40208) (Nat.le_of_ble_eq_true rfl) (Nat.le_of_ble_eq_true rfl) ?_
        exact W.aret (v := .ref (adK 0)) hx hb hr (Or.inl ⟨_, rfl⟩) (Or.inr ⟨_, rfl⟩) (fun t ht hW => ⟨⟨(), (adK 0), rfl, trivial, wQA_of ht hP9 hD9⟩, hS.F ht⟩) hS.2.2 dX9_rollText_38

noncomputable abbrev rmX9_rowText : Room := { frames := 6, cells := 70, slots := 20408, locals := 191 }
theorem ydX9_rowText : yX9_rowText.cls = RX9 ∧ yX9_rowText.cls ≠ "java/lang/invoke/MethodHandle" ∧ yX9_rowText.cls ≠ "java/lang/invoke/VarHandle" ∧ (parseMethodDescriptor yX9_rowText.desc).map (fun d => d.parameters.length) = some 0 := by decide +kernel
noncomputable def S_X9_rowText_15 (c_t_taps_z15 : Int64) (c_t_cells_z15 : Int32) (c_n5_coder_z15 : Int32) (k45 : Int32 → Nat → (Nat → Int32) → Option (Int32)) (ih15 : Int32 → Int32 → Nat → (Nat → Int32) → Option (Int32)) (y2_15 : Int32) (c_n5_count_15 : Int32) (n_n5_value_15 : Nat) (f_n5_value_15 : Nat → Int32) : Option (Int32) :=
 obn (F_X9_degreeOf c_t_taps_z15) (fun r20 =>
 (if r20 ≤ y2_15 then
 k45 c_n5_count_15 n_n5_value_15 f_n5_value_15
else
 obn3 (F_J4_append_bf812 c_n5_coder_z15 c_n5_count_15 n_n5_value_15 f_n5_value_15 ((c_t_cells_z15 >>> (y2_15 &&& 31)) &&& (1 : Int32))) (fun c_n5_count_35 n_n5_value_35 f_n5_value_35 =>
 bnd (y2_15 + 1) (fun x2_39 =>
 ih15 x2_39 c_n5_count_35 n_n5_value_35 f_n5_value_35))))
noncomputable def F_X9_rowText (c_t_taps : Int64) (c_t_cells : Int32) : Option (Int32) :=
 obn3 (F_J4_init_da8c8 ) (fun c_n5_coder_9 n_n5_value_9 f_n5_value_9 =>
 LQ4 (S_X9_rowText_15 c_t_taps c_t_cells c_n5_coder_9 (fun c_n5_count_15_45 n_n5_value_15_45 f_n5_value_15_45 =>
 obn (F_J4_toString_0e30d c_n5_coder_9 c_n5_count_15_45 n_n5_value_15_45 f_n5_value_15_45) (fun u46 =>
 some (0 : Int32)))) 66 (0 : Int32) 0 n_n5_value_9 f_n5_value_9)
set_option maxHeartbeats 4000000 in
set_option maxRecDepth 100000 in
theorem c_X9_rowText (l : Launch) (D : va_G) (cyJ cyB : ClassId) (adK adV : Nat → Nat) (sz : Nat) (a_t : Nat) (a_t_forms : Nat) (a_t_roll : Nat) (c_t_many : Int32) (c_t_taps : Int64) (c_t_cells : Int32) (c_t_acts : Int32) (c_t_refused : Int32) (c_t_knocks : Int32) (c_t_thrown : Int32) (o_c_t_thrown : Int32) (hF : F_X9_rowText c_t_taps c_t_cells = some o_c_t_thrown) : Met l yX9_rowText wsX9_rowText rmX9_rowText (va_Pc [.ref a_t] (wPDT D [(cyJ, .long), (cyB, .byte)] [(a_t, .inr (8, [.ref a_t_forms, .ref a_t_roll, .int c_t_many, .long c_t_taps, .int c_t_cells, .int c_t_acts, .int c_t_refused, .int c_t_knocks, .int c_t_thrown]))] adK adV sz)) (va_Qr (fun (_ : Unit) => True) (fun u r t => wQA D [(a_t, .inr (8, [.ref a_t_forms, .ref a_t_roll, .int c_t_many, .long c_t_taps, .int c_t_cells, .int c_t_acts, .int c_t_refused, .int c_t_knocks, .int o_c_t_thrown]))] (va_A [(a_t, .inr (8, [.ref a_t_forms, .ref a_t_roll, .int c_t_many, .long c_t_taps, .int c_t_cells, .int c_t_acts, .int c_t_refused, .int c_t_knocks, .int c_t_thrown]))] sz) t) (va_A [(a_t, .inr (8, [.ref a_t_forms, .ref a_t_roll, .int c_t_many, .long c_t_taps, .int c_t_cells, .int c_t_acts, .int c_t_refused, .int c_t_knocks, .int c_t_thrown]))] sz)) 70 20408 (va_A [(a_t, .inr (8, [.ref a_t_forms, .ref a_t_roll, .int c_t_many, .long c_t_taps, .int c_t_cells, .int c_t_acts, .int c_t_refused, .int c_t_knocks, .int c_t_thrown]))] sz) := by
  refine Met.ofW (cc := cX9_rowText) (maxL := 3) (ret := (some (.object "java/lang/String"))) (by decide) rfl ?_
  intro p e s m args below meth c s₁ B hml hv
  obtain ⟨rfl, ⟨⟨hsz, hP, hK, hD0, hnw⟩, hT⟩⟩ := hv
  have hx := B.exec
  have hb := B.bytes
  have hr := B.returns
  have hts := atoms_spec (ws := wsX9_rowText) B.pre
  have hown : s.vm.findClass RX9 = some m.cls := findClass_of_methodNamed B.named
  have hlocks := B.notSynchronized
  have hcf : CallFix _ _ _ _ _ _ _ _ _ := ⟨hx, hb, hml, hown, hts⟩
  have hinX9 : ∀ w ∈ u_ws RX9 TX9 9, w ∈ wsX9_rowText := by decide +kernel
  have hfl26 := hts (.fieldLink RX9 26 "FormwheelModel" "thrown" "I") (by decide +kernel)
  have hfl18 := hts (.fieldLink RX9 18 "FormwheelModel" "taps" "J") (by decide +kernel)
  have hfl22 := hts (.fieldLink RX9 22 "FormwheelModel" "cells" "I") (by decide +kernel)
  subst hsz
  have hD := hD0.self (sz := s.heap.size)
  generalize hAe : va_A [(a_t, .inr (8, [.ref a_t_forms, .ref a_t_roll, .int c_t_many, .long c_t_taps, .int c_t_cells, .int c_t_acts, .int c_t_refused, .int c_t_knocks, .int c_t_thrown]))] s.heap.size = A at hD hT ⊢
  have hA : ∀ q : Nat, s.heap.size ≤ q → A q := fun q h => by rw [← hAe]; exact Or.inr h
  have hS : va_S A s.heap s.heap [] := va_S.rf
  have hP : va_P D vwCl [(a_t, .inr (8, [.ref a_t_forms, .ref a_t_roll, .int c_t_many, .long c_t_taps, .int c_t_cells, .int c_t_acts, .int c_t_refused, .int c_t_knocks, .int c_t_thrown]))] s.heap := hP
  have hK0 := hK
  have hcB : s.vm.findClass "[B" = some cyB := (hK.2 1 _ rfl).2
  have hl := lv_entry ([.ref a_t]) (n := 3) (Nat.le_of_ble_eq_true rfl)
  rw [lg_entry_eq]
  generalize (lg_sl ([.ref a_t]) ++ List.replicate (3 - (lg_sl ([.ref a_t])).length) Slot.unset).toArray = ls at hl ⊢
  have hl : lv_has ls 3 [(0, .ref a_t)] := hl
  have h := hF
  clear hF
  unfold F_X9_rowText at h
  refine lv_aload_n hx hb dX9_rowText_0 rfl (lv_at hl 0 rfl) ?_
  refine lv_iconst (v := 0) hx hb dX9_rowText_1 (by decide) ?_
  refine va_put (D := D) (ci := 8) (v := .int (0 : Int32)) (ty := .int) (C := RX9) (T := TX9) (N := 9) hx hb hts hinX9 tyX9 tyX9_ok nmX9 hown hK hP hD hS 0 rfl rfl 8 (by decide) hfl26 (fun _ h9 => h9) rfl (by decide +kernel) rfl rfl (Nat.le_of_ble_eq_true rfl) dX9_rowText_2 (fun H locs hP hD hS => ?_)
  have hP : va_P D vwCl [(a_t, .inr (8, [.ref a_t_forms, .ref a_t_roll, .int c_t_many, .long c_t_taps, .int c_t_cells, .int c_t_acts, .int c_t_refused, .int c_t_knocks, .int (0 : Int32)]))] H := hP
  have hD : va_D A [(a_t, .inr (8, [.ref a_t_forms, .ref a_t_roll, .int c_t_many, .long c_t_taps, .int c_t_cells, .int c_t_acts, .int c_t_refused, .int c_t_knocks, .int (0 : Int32)]))] := hD
  refine va_new (ci := 1) (fs := [.null, .int 0, .int 0, .int 0]) (C := RJ4) (T := TJ4) (N := 4) hx hb hts (by decide +kernel) tyJ4 tyJ4_ok hown (hts (.classLink RX9 138 RJ4) (by decide +kernel)) (hts (.instantiable RJ4 4) (by decide +kernel)) (hts (.initialized RJ4) (by decide +kernel)) hK hP hD hS hA rfl (fun j hj => by rcases (show j = 0 ∨ j = 1 ∨ j = 2 ∨ j = 3 by omega) with rfl | rfl | rfl | rfl <;> rfl) (Nat.le_of_ble_eq_true rfl) (Nat.le_of_ble_eq_true rfl) dX9_rowText_5 (fun a_n5 H hP hD hS => ?_)
  have hP : va_P D vwCl [(a_t, .inr (8, [.ref a_t_forms, .ref a_t_roll, .int c_t_many, .long c_t_taps, .int c_t_cells, .int c_t_acts, .int c_t_refused, .int c_t_knocks, .int (0 : Int32)])), (a_n5, .inr (1, [.null, .int 0, .int 0, .int 0]))] H := hP
  have hD : va_D A [(a_t, .inr (8, [.ref a_t_forms, .ref a_t_roll, .int c_t_many, .long c_t_taps, .int c_t_cells, .int c_t_acts, .int c_t_refused, .int c_t_knocks, .int (0 : Int32)])), (a_n5, .inr (1, [.null, .int 0, .int 0, .int 0]))] := hD
  refine lv_dup hx hb dX9_rowText_8 rfl ?_
  obtain ⟨c_n5_coder_9, n_n5_value_9, f_n5_value_9, hc9, h⟩ := obn3_h h
  have hPc := hP.sub (ws' := [(a_n5, .inr (1, [.null, .int 0, .int 0, .int 0]))]) [1] rfl
  have hDc := hD.sub (ws' := [(a_n5, .inr (1, [.null, .int 0, .int 0, .int 0]))]) [1] (by decide) rfl
  refine hp_n (wr := [(a_t, .inr (8, [.ref a_t_forms, .ref a_t_roll, .int c_t_many, .long c_t_taps, .int c_t_cells, .int c_t_acts, .int c_t_refused, .int c_t_knocks, .int (0 : Int32)]))]) (va_runI (As := []) (rest := [.ref a_n5]) hcf (c_J4_init_da8c8 l D cyJ cyB adK adV H.size a_n5 0 0 0 c_n5_coder_9 n_n5_value_9 f_n5_value_9 hc9) (cwI 0 hts gX9_rowText_J4_init_da8c8 rfl rfl rfl (hts (.initialized RJ4) (by decide +kernel)) (hts (.methodLink RX9 140 yJ4_init_da8c8) (by decide +kernel)) (hts (.instanceMethod yJ4_init_da8c8) (by decide +kernel)) rfl (by decide +kernel) ⟨Nat.le_of_ble_eq_true rfl, Nat.le_of_ble_eq_true rfl⟩) ⟨bl_PDT, pr_PDT hPc hK0 hDc hnw hT hS (va_free hD hS hA [1] rfl)⟩ rfl rfl hl.1 rfl (lv_room (Nat.le_of_ble_eq_true rfl)) dX9_rowText_9 ⟨Nat.le_of_ble_eq_true rfl, Nat.le_of_ble_eq_true rfl⟩) hP hD hS hA [1] [0] rfl rfl (by decide) (by decide) (fun u9 H locs hP hD hS => ?_)
  obtain ⟨b_n5_value_9, rfl⟩ : ∃ z : Nat, z = u9 := ⟨_, rfl⟩
  have hP : va_P D vwCl [(a_t, .inr (8, [.ref a_t_forms, .ref a_t_roll, .int c_t_many, .long c_t_taps, .int c_t_cells, .int c_t_acts, .int c_t_refused, .int c_t_knocks, .int (0 : Int32)])), (a_n5, .inr (1, [.ref b_n5_value_9, .int c_n5_coder_9, .int 0, .int 0])), (b_n5_value_9, .inl (cyB, n_n5_value_9, .inl f_n5_value_9))] H := hP
  have hD : va_D A [(a_t, .inr (8, [.ref a_t_forms, .ref a_t_roll, .int c_t_many, .long c_t_taps, .int c_t_cells, .int c_t_acts, .int c_t_refused, .int c_t_knocks, .int (0 : Int32)])), (a_n5, .inr (1, [.ref b_n5_value_9, .int c_n5_coder_9, .int 0, .int 0])), (b_n5_value_9, .inl (cyB, n_n5_value_9, .inl f_n5_value_9))] := hD
  refine lv_astore_n (lv' := [(1, .ref a_n5), (0, .ref a_t)]) hx hb dX9_rowText_12 rfl hl (by decide) rfl (fun ls hl => ?_)
  refine lv_iconst (v := 0) hx hb dX9_rowText_13 (by decide) ?_
  refine lv_istore_n (lv' := [(2, .int (0 : Int32)), (1, .ref a_n5), (0, .ref a_t)]) hx hb dX9_rowText_14 rfl hl (by decide) rfl (fun ls hl => ?_)
  refine LQ4_f1 (M := fun nf15 (y2_15 : Int32) (c_n5_count_15 : Int32) (n_n5_value_15 : Nat) (f_n5_value_15 : Nat → Int32) => ∀ (cn15 sn15 : Nat), cn15 + 1 * nf15 ≤ 68 → sn15 + 300 * nf15 ≤ 20104 → ∀ (q_n5_value_15 : Nat) (H : Heap) (locs : List Loc), va_P D vwCl [(a_t, .inr (8, [.ref a_t_forms, .ref a_t_roll, .int c_t_many, .long c_t_taps, .int c_t_cells, .int c_t_acts, .int c_t_refused, .int c_t_knocks, .int (0 : Int32)])), (a_n5, .inr (1, [.ref q_n5_value_15, .int c_n5_coder_9, .int 0, .int c_n5_count_15])), (q_n5_value_15, .inl (cyB, n_n5_value_15, .inl f_n5_value_15))] H → va_D A [(a_t, .inr (8, [.ref a_t_forms, .ref a_t_roll, .int c_t_many, .long c_t_taps, .int c_t_cells, .int c_t_acts, .int c_t_refused, .int c_t_knocks, .int (0 : Int32)])), (a_n5, .inr (1, [.ref q_n5_value_15, .int c_n5_coder_9, .int 0, .int c_n5_count_15])), (q_n5_value_15, .inl (cyB, n_n5_value_15, .inl f_n5_value_15))] → va_S A s.heap H locs → ∀ (ls : Array Slot), lv_has ls 3 [(0, .ref a_t), (1, .ref a_n5), (2, .int y2_15)] → W p l e rmX9_rowText s m ([.ref a_t] : List Value).toArray below meth c H locs (cn15 + 0) (sn15 + 0) (MQ below (va_Qr (fun (_ : Unit) => True) (fun u r t => wQA D [(a_t, .inr (8, [.ref a_t_forms, .ref a_t_roll, .int c_t_many, .long c_t_taps, .int c_t_cells, .int c_t_acts, .int c_t_refused, .int c_t_knocks, .int o_c_t_thrown]))] A t) A) ([.ref a_t] : List Value).toArray s 70 20408 A) (F0 m 15 ls [])) ?_ 66 _ _ _ _ h 2 304 (Nat.le_of_ble_eq_true rfl) (Nat.le_of_ble_eq_true rfl) _ _ _ hP hD hS ls (lv_sub hl [2, 1, 0] rfl)
  intro nf15 k45 hk45 ih15 hih15 y2_15 c_n5_count_15 n_n5_value_15 f_n5_value_15 h cn15 sn15 hcn15 hsn15 q_n5_value_15 H locs hP hD hS ls hl
  unfold S_X9_rowText_15 at h
  refine lv_iload_n hx hb dX9_rowText_15 rfl (lv_at hl 2 rfl) ?_
  refine lv_aload_n hx hb dX9_rowText_16 rfl (lv_at hl 0 rfl) ?_
  refine va_get (D := D) (ci := 8) (v := .long c_t_taps) (C := RX9) (T := TX9) (N := 9) hx hb hts hinX9 hown hK hP 0 rfl rfl 3 (by decide) hfl18 (fun _ h9 => h9) rfl dX9_rowText_17 ?_
  obtain ⟨r20, hc20, h⟩ := obn_h h
  refine pz_callS (As := [.long c_t_taps]) (rest := [.int y2_15]) hcf (c_X9_degreeOf l c_t_taps r20 hc20) (va_cwS 1 hts gX9_rowText_X9_degreeOf rfl rfl rfl ydX9_degreeOf ⟨Nat.le_of_ble_eq_true rfl, Nat.le_of_ble_eq_true rfl⟩) hnw rfl hl.1 rfl (Nat.le_of_ble_eq_true rfl) dX9_rowText_20 ⟨Nat.le_trans (m := 68) (by omega) (Nat.le_of_ble_eq_true rfl), Nat.le_trans (m := 20104) (by omega) (Nat.le_of_ble_eq_true rfl)⟩ ?_
  refine lv_icmp_ge (tgt := 45) hx hb dX9_rowText_23 (by decide) (fun c23 => ?_) (fun c23 => ?_)
  · have h := it_ c23 h
    rw [hk45] at h
    refine W.widen (k := 68) (n := 20104) (by omega) (by omega) ?_
    refine lv_aload_n hx hb dX9_rowText_45 rfl (lv_at hl 1 rfl) ?_
    obtain ⟨u46, hc46, h⟩ := obn_h h
    have hPc := hP.sub (ws' := [(a_n5, .inr (1, [.ref q_n5_value_15, .int c_n5_coder_9, .int 0, .int c_n5_count_15])), (q_n5_value_15, .inl (cyB, n_n5_value_15, .inl f_n5_value_15))]) [1, 2] rfl
    have hDc := hD.sub (ws' := [(a_n5, .inr (1, [.ref q_n5_value_15, .int c_n5_coder_9, .int 0, .int c_n5_count_15])), (q_n5_value_15, .inl (cyB, n_n5_value_15, .inl f_n5_value_15))]) [1, 2] (by decide) rfl
    refine hp_r (wr := [(a_t, .inr (8, [.ref a_t_forms, .ref a_t_roll, .int c_t_many, .long c_t_taps, .int c_t_cells, .int c_t_acts, .int c_t_refused, .int c_t_knocks, .int (0 : Int32)]))]) (va_runV (As := []) (rest := []) hcf (c_J4_toString_0e30d l D cyJ cyB adK adV H.size a_n5 q_n5_value_15 c_n5_coder_9 0 c_n5_count_15 n_n5_value_15 f_n5_value_15 hc46) (cwV 0 hts gX9_rowText_J4_toString_0e30d rfl rfl rfl ydJ4_toString_0e30d ⟨Nat.le_of_ble_eq_true rfl, Nat.le_of_ble_eq_true rfl⟩) ⟨bl_PDT, (va_recv hK hP (ci := 1) (q0 := 1) rfl rfl), pr_PDT hPc hK0 hDc hnw hT hS (va_free hD hS hA [1, 2] rfl)⟩ rfl rfl hl.1 rfl (lv_room (Nat.le_of_ble_eq_true rfl)) dX9_rowText_46 ⟨Nat.le_of_ble_eq_true rfl, Nat.le_of_ble_eq_true rfl⟩) hP hD hS hA [1, 2] [0] rfl rfl (by decide) (by decide) (fun u46 b_ret46_46 H locs hP hD hS => ?_)
    have hP : va_P D vwCl [(a_t, .inr (8, [.ref a_t_forms, .ref a_t_roll, .int c_t_many, .long c_t_taps, .int c_t_cells, .int c_t_acts, .int c_t_refused, .int c_t_knocks, .int (0 : Int32)])), (a_n5, .inr (1, [.ref q_n5_value_15, .int c_n5_coder_9, .int 0, .int c_n5_count_15])), (q_n5_value_15, .inl (cyB, n_n5_value_15, .inl f_n5_value_15))] H := hP
    have hD : va_D A [(a_t, .inr (8, [.ref a_t_forms, .ref a_t_roll, .int c_t_many, .long c_t_taps, .int c_t_cells, .int c_t_acts, .int c_t_refused, .int c_t_knocks, .int (0 : Int32)])), (a_n5, .inr (1, [.ref q_n5_value_15, .int c_n5_coder_9, .int 0, .int c_n5_count_15])), (q_n5_value_15, .inl (cyB, n_n5_value_15, .inl f_n5_value_15))] := hD
    have e1 := Option.some.inj h
    subst e1
    have hP9 : va_P D vwCl [(a_t, .inr (8, [.ref a_t_forms, .ref a_t_roll, .int c_t_many, .long c_t_taps, .int c_t_cells, .int c_t_acts, .int c_t_refused, .int c_t_knocks, .int (0 : Int32)]))] H := hP.sub [0] rfl
    have hD9 : va_D A [(a_t, .inr (8, [.ref a_t_forms, .ref a_t_roll, .int c_t_many, .long c_t_taps, .int c_t_cells, .int c_t_acts, .int c_t_refused, .int c_t_knocks, .int (0 : Int32)]))] := hD.sub [0] (by decide) rfl
    exact W.aret (v := .ref b_ret46_46) hx hb hr (Or.inl ⟨_, rfl⟩) (Or.inr ⟨_, rfl⟩) (fun t ht hW => ⟨⟨(), b_ret46_46, rfl, trivial, wQA_of ht hP9 hD9⟩, hS.F ht⟩) hS.2.2 dX9_rowText_49
  · have h := if_ c23 h
    refine lv_aload_n hx hb dX9_rowText_26 rfl (lv_at hl 1 rfl) ?_
    refine lv_aload_n hx hb dX9_rowText_27 rfl (lv_at hl 0 rfl) ?_
    refine va_get (D := D) (ci := 8) (v := .int c_t_cells) (C := RX9) (T := TX9) (N := 9) hx hb hts hinX9 hown hK hP 0 rfl rfl 4 (by decide) hfl22 (fun _ h9 => h9) rfl dX9_rowText_28 ?_
    refine lv_iload_n hx hb dX9_rowText_31 rfl (lv_at hl 2 rfl) ?_
    refine lv_ishr hx hb dX9_rowText_32 ?_
    refine lv_iconst (v := 1) hx hb dX9_rowText_33 (by decide) ?_
    refine lv_iand hx hb dX9_rowText_34 ?_
    obtain ⟨c_n5_count_35, n_n5_value_35, f_n5_value_35, hc35, h⟩ := obn3_h h
    have hPc := hP.sub (ws' := [(a_n5, .inr (1, [.ref q_n5_value_15, .int c_n5_coder_9, .int 0, .int c_n5_count_15])), (q_n5_value_15, .inl (cyB, n_n5_value_15, .inl f_n5_value_15))]) [1, 2] rfl
    have hDc := hD.sub (ws' := [(a_n5, .inr (1, [.ref q_n5_value_15, .int c_n5_coder_9, .int 0, .int c_n5_count_15])), (q_n5_value_15, .inl (cyB, n_n5_value_15, .inl f_n5_value_15))]) [1, 2] (by decide) rfl
    refine hp_t (wr := [(a_t, .inr (8, [.ref a_t_forms, .ref a_t_roll, .int c_t_many, .long c_t_taps, .int c_t_cells, .int c_t_acts, .int c_t_refused, .int c_t_knocks, .int (0 : Int32)]))]) (va_runV (As := [.int ((c_t_cells >>> (y2_15 &&& 31)) &&& (1 : Int32))]) (rest := []) hcf (c_J4_append_bf812 l D cyJ cyB adK adV H.size a_n5 q_n5_value_15 c_n5_coder_9 0 c_n5_count_15 n_n5_value_15 f_n5_value_15 ((c_t_cells >>> (y2_15 &&& 31)) &&& (1 : Int32)) c_n5_count_35 n_n5_value_35 f_n5_value_35 hc35) (cwV 1 hts gX9_rowText_J4_append_bf812 rfl rfl rfl ydJ4_append_bf812 ⟨Nat.le_of_ble_eq_true rfl, Nat.le_of_ble_eq_true rfl⟩) ⟨bl_PDT, (va_recv hK hP (ci := 1) (q0 := 1) rfl rfl), pr_PDT hPc hK0 hDc hnw hT hS (va_free hD hS hA [1, 2] rfl)⟩ rfl rfl hl.1 rfl (lv_room (Nat.le_of_ble_eq_true rfl)) dX9_rowText_35 ⟨Nat.le_trans (m := 68) (by omega) (Nat.le_of_ble_eq_true rfl), Nat.le_trans (m := 20104) (by omega) (Nat.le_of_ble_eq_true rfl)⟩) hP hD hS hA [1, 2] [0] rfl rfl (by decide) (by decide) (fun u35 H locs hP hD hS => ?_)
    obtain ⟨b_n5_value_35, rfl⟩ : ∃ z : Nat, z = u35 := ⟨_, rfl⟩
    have hP : va_P D vwCl [(a_t, .inr (8, [.ref a_t_forms, .ref a_t_roll, .int c_t_many, .long c_t_taps, .int c_t_cells, .int c_t_acts, .int c_t_refused, .int c_t_knocks, .int (0 : Int32)])), (a_n5, .inr (1, [.ref b_n5_value_35, .int c_n5_coder_9, .int 0, .int c_n5_count_35])), (b_n5_value_35, .inl (cyB, n_n5_value_35, .inl f_n5_value_35))] H := hP
    have hD : va_D A [(a_t, .inr (8, [.ref a_t_forms, .ref a_t_roll, .int c_t_many, .long c_t_taps, .int c_t_cells, .int c_t_acts, .int c_t_refused, .int c_t_knocks, .int (0 : Int32)])), (a_n5, .inr (1, [.ref b_n5_value_35, .int c_n5_coder_9, .int 0, .int c_n5_count_35])), (b_n5_value_35, .inl (cyB, n_n5_value_35, .inl f_n5_value_35))] := hD
    refine lv_pop hx hb dX9_rowText_38 rfl ?_
    obtain ⟨x2_39, e_x2_39⟩ : ∃ z : Int32, z = y2_15 + 1 := ⟨_, rfl⟩
    have h := bnd_h e_x2_39 h
    refine lv_iinc (v := x2_39) (lv' := [(2, .int x2_39), (0, .ref a_t), (1, .ref a_n5)]) hx hb dX9_rowText_39 hl (k := 2) rfl (by rw [e_x2_39]; rfl) (by decide) rfl (fun ls hl => ?_)
    refine lv_goto (tgt := 15) hx hb dX9_rowText_42 (by decide) ?_
    exact hih15 x2_39 c_n5_count_35 n_n5_value_35 f_n5_value_35 h _ _ (by omega) (by omega) _ _ _ (hP.sub [0, 1, 2] rfl) (hD.sub [0, 1, 2] (by decide) rfl) hS ls (lv_sub hl [1, 2, 0] rfl)

noncomputable abbrev rmX9_again : Room := { frames := 4, cells := 0, slots := 0, locals := 87 }
theorem ydX9_again : yX9_again.cls = RX9 ∧ yX9_again.cls ≠ "java/lang/invoke/MethodHandle" ∧ yX9_again.cls ≠ "java/lang/invoke/VarHandle" ∧ (parseMethodDescriptor yX9_again.desc).map (fun d => d.parameters.length) = some 0 := by decide +kernel
noncomputable def S_X9_again_16 (c_t_taps_z16 : Int64) (c_t_cells_z16 : Int32) (k36 : Int32 → Option (Int32 × Int32)) (ih16 : Int32 → Int32 → Option (Int32 × Int32)) (y1_16 : Int32) (y2_16 : Int32) : Option (Int32 × Int32) :=
 (if y2_16 = c_t_cells_z16 then
 k36 y1_16
else
 bnd (y1_16 + 1) (fun x1_24 =>
 obn (F_X9_next c_t_taps_z16 y2_16) (fun r29 =>
 ih16 x1_24 r29)))
noncomputable def F_X9_again (c_t_taps : Int64) (c_t_cells : Int32) : Option (Int32 × Int32) :=
 obn (F_X9_next c_t_taps c_t_cells) (fun r12 =>
 LQ2 (S_X9_again_16 c_t_taps c_t_cells (fun y1_16_36 =>
 some (y1_16_36, (0 : Int32)))) 20000 (1 : Int32) r12)
set_option maxHeartbeats 4000000 in
set_option maxRecDepth 100000 in
theorem c_X9_again (l : Launch) (D : va_G) (cyJ : ClassId) (sz : Nat) (a_t : Nat) (a_t_forms : Nat) (a_t_roll : Nat) (c_t_many : Int32) (c_t_taps : Int64) (c_t_cells : Int32) (c_t_acts : Int32) (c_t_refused : Int32) (c_t_knocks : Int32) (c_t_thrown : Int32) (r0 : Int32) (o_c_t_thrown : Int32) (hF : F_X9_again c_t_taps c_t_cells = some (r0, o_c_t_thrown)) : Met l yX9_again wsX9_again rmX9_again (va_Pc [.ref a_t] (wPD D [(cyJ, .long)] [(a_t, .inr (8, [.ref a_t_forms, .ref a_t_roll, .int c_t_many, .long c_t_taps, .int c_t_cells, .int c_t_acts, .int c_t_refused, .int c_t_knocks, .int c_t_thrown]))] sz)) (va_Qi (fun (r : Int32) (_ : Unit) => r = r0) (fun _ t => wQA D [(a_t, .inr (8, [.ref a_t_forms, .ref a_t_roll, .int c_t_many, .long c_t_taps, .int c_t_cells, .int c_t_acts, .int c_t_refused, .int c_t_knocks, .int o_c_t_thrown]))] (va_A [(a_t, .inr (8, [.ref a_t_forms, .ref a_t_roll, .int c_t_many, .long c_t_taps, .int c_t_cells, .int c_t_acts, .int c_t_refused, .int c_t_knocks, .int c_t_thrown]))] sz) t) (va_A [(a_t, .inr (8, [.ref a_t_forms, .ref a_t_roll, .int c_t_many, .long c_t_taps, .int c_t_cells, .int c_t_acts, .int c_t_refused, .int c_t_knocks, .int c_t_thrown]))] sz)) 0 0 (va_A [(a_t, .inr (8, [.ref a_t_forms, .ref a_t_roll, .int c_t_many, .long c_t_taps, .int c_t_cells, .int c_t_acts, .int c_t_refused, .int c_t_knocks, .int c_t_thrown]))] sz) := by
  refine Met.ofW (cc := cX9_again) (maxL := 3) (ret := (some .int)) (by decide) rfl ?_
  intro p e s m args below meth c s₁ B hml hv
  obtain ⟨rfl, hsz, hP, hK, hD0, hnw⟩ := hv
  have hx := B.exec
  have hb := B.bytes
  have hr := B.returns
  have hts := atoms_spec (ws := wsX9_again) B.pre
  have hown : s.vm.findClass RX9 = some m.cls := findClass_of_methodNamed B.named
  have hlocks := B.notSynchronized
  have hcf : CallFix _ _ _ _ _ _ _ _ _ := ⟨hx, hb, hml, hown, hts⟩
  have hinX9 : ∀ w ∈ u_ws RX9 TX9 9, w ∈ wsX9_again := by decide +kernel
  have hfl26 := hts (.fieldLink RX9 26 "FormwheelModel" "thrown" "I") (by decide +kernel)
  have hfl22 := hts (.fieldLink RX9 22 "FormwheelModel" "cells" "I") (by decide +kernel)
  subst hsz
  have hD := hD0.self (sz := s.heap.size)
  generalize hAe : va_A [(a_t, .inr (8, [.ref a_t_forms, .ref a_t_roll, .int c_t_many, .long c_t_taps, .int c_t_cells, .int c_t_acts, .int c_t_refused, .int c_t_knocks, .int c_t_thrown]))] s.heap.size = A at hD ⊢
  have hA : ∀ q : Nat, s.heap.size ≤ q → A q := fun q h => by rw [← hAe]; exact Or.inr h
  have hS : va_S A s.heap s.heap [] := va_S.rf
  have hP : va_P D vwCl [(a_t, .inr (8, [.ref a_t_forms, .ref a_t_roll, .int c_t_many, .long c_t_taps, .int c_t_cells, .int c_t_acts, .int c_t_refused, .int c_t_knocks, .int c_t_thrown]))] s.heap := hP
  have hK0 := hK
  have hl := lv_entry ([.ref a_t]) (n := 3) (Nat.le_of_ble_eq_true rfl)
  rw [lg_entry_eq]
  generalize (lg_sl ([.ref a_t]) ++ List.replicate (3 - (lg_sl ([.ref a_t])).length) Slot.unset).toArray = ls at hl ⊢
  have hl : lv_has ls 3 [(0, .ref a_t)] := hl
  have h := hF
  clear hF
  unfold F_X9_again at h
  refine lv_aload_n hx hb dX9_again_0 rfl (lv_at hl 0 rfl) ?_
  refine lv_iconst (v := 0) hx hb dX9_again_1 (by decide) ?_
  refine va_put (D := D) (ci := 8) (v := .int (0 : Int32)) (ty := .int) (C := RX9) (T := TX9) (N := 9) hx hb hts hinX9 tyX9 tyX9_ok nmX9 hown hK hP hD hS 0 rfl rfl 8 (by decide) hfl26 (fun _ h9 => h9) rfl (by decide +kernel) rfl rfl (Nat.le_of_ble_eq_true rfl) dX9_again_2 (fun H locs hP hD hS => ?_)
  have hP : va_P D vwCl [(a_t, .inr (8, [.ref a_t_forms, .ref a_t_roll, .int c_t_many, .long c_t_taps, .int c_t_cells, .int c_t_acts, .int c_t_refused, .int c_t_knocks, .int (0 : Int32)]))] H := hP
  have hD : va_D A [(a_t, .inr (8, [.ref a_t_forms, .ref a_t_roll, .int c_t_many, .long c_t_taps, .int c_t_cells, .int c_t_acts, .int c_t_refused, .int c_t_knocks, .int (0 : Int32)]))] := hD
  refine lv_iconst (v := 1) hx hb dX9_again_5 (by decide) ?_
  refine lv_istore_n (lv' := [(1, .int (1 : Int32)), (0, .ref a_t)]) hx hb dX9_again_6 rfl hl (by decide) rfl (fun ls hl => ?_)
  refine lv_aload_n hx hb dX9_again_7 rfl (lv_at hl 1 rfl) ?_
  refine lv_aload_n hx hb dX9_again_8 rfl (lv_at hl 1 rfl) ?_
  refine va_get (D := D) (ci := 8) (v := .int c_t_cells) (C := RX9) (T := TX9) (N := 9) hx hb hts hinX9 hown hK hP 0 rfl rfl 4 (by decide) hfl22 (fun _ h9 => h9) rfl dX9_again_9 ?_
  obtain ⟨r12, hc12, h⟩ := obn_h h
  have hPc : va_P D vwCl [(a_t, .inr (8, [.ref a_t_forms, .ref a_t_roll, .int c_t_many, .long c_t_taps, .int c_t_cells, .int c_t_acts, .int c_t_refused, .int c_t_knocks, .int (0 : Int32)]))] H := hP.sub [0] rfl
  refine rd_callV (As := [.int c_t_cells]) (rest := []) hcf (c_X9_next l D cyJ a_t a_t_forms a_t_roll c_t_many c_t_taps c_t_cells c_t_acts c_t_refused c_t_knocks (0 : Int32) c_t_cells r12 hc12) (cwV 1 hts gX9_again_X9_next rfl rfl rfl ydX9_next ⟨Nat.le_of_ble_eq_true rfl, Nat.le_of_ble_eq_true rfl⟩) hnw hPc hK0 (va_recv hK hP (ci := 8) (q0 := 0) rfl rfl) rfl hl.1 rfl (Nat.le_of_ble_eq_true rfl) dX9_again_12 ⟨Nat.le_of_ble_eq_true rfl, Nat.le_of_ble_eq_true rfl⟩ ?_
  refine lv_istore_n (lv' := [(2, .int r12), (1, .int (1 : Int32)), (0, .ref a_t)]) hx hb dX9_again_15 rfl hl (by decide) rfl (fun ls hl => ?_)
  refine LQ2_k1 (M := fun (y1_16 : Int32) (y2_16 : Int32) => ∀ (ls : Array Slot), lv_has ls 3 [(0, .ref a_t), (1, .int y1_16), (2, .int y2_16)] → W p l e rmX9_again s m ([.ref a_t] : List Value).toArray below meth c H locs 0 0 (MQ below (va_Qi (fun (r : Int32) (_ : Unit) => r = r0) (fun _ t => wQA D [(a_t, .inr (8, [.ref a_t_forms, .ref a_t_roll, .int c_t_many, .long c_t_taps, .int c_t_cells, .int c_t_acts, .int c_t_refused, .int c_t_knocks, .int o_c_t_thrown]))] A t) A) ([.ref a_t] : List Value).toArray s 0 0 A) (F0 m 16 ls [])) ?_ _ _ _ h ls (lv_sub hl [2, 1, 0] rfl)
  intro k36 hk36 ih16 hih16 y1_16 y2_16 h ls hl
  unfold S_X9_again_16 at h
  refine lv_iload_n hx hb dX9_again_16 rfl (lv_at hl 2 rfl) ?_
  refine lv_aload_n hx hb dX9_again_17 rfl (lv_at hl 0 rfl) ?_
  refine va_get (D := D) (ci := 8) (v := .int c_t_cells) (C := RX9) (T := TX9) (N := 9) hx hb hts hinX9 hown hK hP 0 rfl rfl 4 (by decide) hfl22 (fun _ h9 => h9) rfl dX9_again_18 ?_
  refine lv_icmp_eq (tgt := 36) hx hb dX9_again_21 (by decide) (fun c21 => ?_) (fun c21 => ?_)
  · have h := it_ c21 h
    rw [hk36] at h
    refine lv_iload_n hx hb dX9_again_36 rfl (lv_at hl 1 rfl) ?_
    obtain ⟨e0, e1⟩ := tup2 h
    subst e0
    subst e1
    have hP9 : va_P D vwCl [(a_t, .inr (8, [.ref a_t_forms, .ref a_t_roll, .int c_t_many, .long c_t_taps, .int c_t_cells, .int c_t_acts, .int c_t_refused, .int c_t_knocks, .int (0 : Int32)]))] H := hP.sub [0] rfl
    have hD9 : va_D A [(a_t, .inr (8, [.ref a_t_forms, .ref a_t_roll, .int c_t_many, .long c_t_taps, .int c_t_cells, .int c_t_acts, .int c_t_refused, .int c_t_knocks, .int (0 : Int32)]))] := hD.sub [0] (by decide) rfl
    exact W.iret hx hb hr (fun t ht hW => ⟨⟨_, (), rfl, rfl, wQA_of ht hP9 hD9⟩, hS.F ht⟩) hS.2.2 dX9_again_37
  · have h := if_ c21 h
    obtain ⟨x1_24, e_x1_24⟩ : ∃ z : Int32, z = y1_16 + 1 := ⟨_, rfl⟩
    have h := bnd_h e_x1_24 h
    refine lv_iinc (v := x1_24) (lv' := [(1, .int x1_24), (0, .ref a_t), (2, .int y2_16)]) hx hb dX9_again_24 hl (k := 1) rfl (by rw [e_x1_24]; rfl) (by decide) rfl (fun ls hl => ?_)
    refine lv_aload_n hx hb dX9_again_27 rfl (lv_at hl 1 rfl) ?_
    refine lv_iload_n hx hb dX9_again_28 rfl (lv_at hl 2 rfl) ?_
    obtain ⟨r29, hc29, h⟩ := obn_h h
    have hPc : va_P D vwCl [(a_t, .inr (8, [.ref a_t_forms, .ref a_t_roll, .int c_t_many, .long c_t_taps, .int c_t_cells, .int c_t_acts, .int c_t_refused, .int c_t_knocks, .int (0 : Int32)]))] H := hP.sub [0] rfl
    refine rd_callV (As := [.int y2_16]) (rest := []) hcf (c_X9_next l D cyJ a_t a_t_forms a_t_roll c_t_many c_t_taps c_t_cells c_t_acts c_t_refused c_t_knocks (0 : Int32) y2_16 r29 hc29) (cwV 1 hts gX9_again_X9_next rfl rfl rfl ydX9_next ⟨Nat.le_of_ble_eq_true rfl, Nat.le_of_ble_eq_true rfl⟩) hnw hPc hK0 (va_recv hK hP (ci := 8) (q0 := 0) rfl rfl) rfl hl.1 rfl (Nat.le_of_ble_eq_true rfl) dX9_again_29 ⟨Nat.le_of_ble_eq_true rfl, Nat.le_of_ble_eq_true rfl⟩ ?_
    refine lv_istore_n (lv' := [(2, .int r29), (1, .int x1_24), (0, .ref a_t)]) hx hb dX9_again_32 rfl hl (by decide) rfl (fun ls hl => ?_)
    refine lv_goto (tgt := 16) hx hb dX9_again_33 (by decide) ?_
    exact hih16 x1_24 r29 h ls (lv_sub hl [2, 1, 0] rfl)

noncomputable abbrev rmX9_told : Room := { frames := 2, cells := 0, slots := 0, locals := 42 }
theorem ydX9_told : yX9_told.cls = RX9 ∧ yX9_told.cls ≠ "java/lang/invoke/MethodHandle" ∧ yX9_told.cls ≠ "java/lang/invoke/VarHandle" ∧ (parseMethodDescriptor yX9_told.desc).map (fun d => d.parameters.length) = some 1 := by decide +kernel
noncomputable def S_X9_told_14 (z4_14 : Int32) (f_t_forms_z14 : Nat → Int64) (k41 : Int32 → Option (Int32)) (ih14 : Int32 → Int32 → Option (Int32)) (y2_14 : Int32) (y5_14 : Int32) : Option (Int32) :=
 (if z4_14 ≤ y5_14 then
 k41 y2_14
else
 chk (¬ (y5_14 < 0 ∨ 6 ≤ y5_14.toNatClampNeg)) (
 bnd (f_t_forms_z14 y5_14.toNatClampNeg) (fun x6_25 =>
 obn (F_X9_onesOf x6_25) (fun r30 =>
 bnd (y2_14 + r30) (fun x2_34 =>
 bnd (y5_14 + 1) (fun x5_35 =>
 ih14 x2_34 x5_35))))))
noncomputable def F_X9_told (c_t_many : Int32) (c_t_taps : Int64) (c_t_acts : Int32) (c_t_refused : Int32) (c_t_knocks : Int32) (f_t_forms : Nat → Int64) (p0 : Int32) : Option (Int32) :=
 LQ2 (S_X9_told_14 (6 : Int32) f_t_forms (fun y2_14_41 =>
 (if p0 = 0 then
 some c_t_acts
else
 (if p0 = (1 : Int32) then
 some c_t_refused
else
 (if p0 = (2 : Int32) then
 some c_t_knocks
else
 (if p0 = (3 : Int32) then
 some c_t_many
else
 (if p0 = (4 : Int32) then
 some c_t_taps.toInt32
else
 some y2_14_41))))))) 20000 (0 : Int32) (0 : Int32)
set_option maxHeartbeats 4000000 in
set_option maxRecDepth 100000 in
theorem c_X9_told (l : Launch) (D : va_G) (cyJ : ClassId) (a_t : Nat) (a_t_forms : Nat) (a_t_roll : Nat) (c_t_many : Int32) (c_t_taps : Int64) (c_t_cells : Int32) (c_t_acts : Int32) (c_t_refused : Int32) (c_t_knocks : Int32) (c_t_thrown : Int32) (f_t_forms : Nat → Int64) (p0 : Int32) (r0 : Int32) (hF : F_X9_told c_t_many c_t_taps c_t_acts c_t_refused c_t_knocks f_t_forms p0 = some r0) : Met l yX9_told wsX9_told rmX9_told (va_Pc [.ref a_t, .int p0] (wPK D [(cyJ, .long)] [(a_t, .inr (8, [.ref a_t_forms, .ref a_t_roll, .int c_t_many, .long c_t_taps, .int c_t_cells, .int c_t_acts, .int c_t_refused, .int c_t_knocks, .int c_t_thrown])), (a_t_forms, .inl (cyJ, 6, .inr (.inl f_t_forms)))])) (k2_QcV (.int r0)) 0 0 (fun _ => False) := by
  refine Met.ofW (cc := cX9_told) (maxL := 8) (ret := (some .int)) (by decide) rfl ?_
  intro p e s m args below meth c s₁ B hml hv
  obtain ⟨rfl, hP, hK, hnw⟩ := hv
  have hx := B.exec
  have hb := B.bytes
  have hr := B.returns
  have hts := atoms_spec (ws := wsX9_told) B.pre
  have hown : s.vm.findClass RX9 = some m.cls := findClass_of_methodNamed B.named
  have hlocks := B.notSynchronized
  have hcf : CallFix _ _ _ _ _ _ _ _ _ := ⟨hx, hb, hml, hown, hts⟩
  have hinX9 : ∀ w ∈ u_ws RX9 TX9 9, w ∈ wsX9_told := by decide +kernel
  have hfl9 := hts (.fieldLink RX9 9 "FormwheelModel" "forms" "[J") (by decide +kernel)
  have hfl74 := hts (.fieldLink RX9 74 "FormwheelModel" "acts" "I") (by decide +kernel)
  have hfl77 := hts (.fieldLink RX9 77 "FormwheelModel" "refused" "I") (by decide +kernel)
  have hfl172 := hts (.fieldLink RX9 172 "FormwheelModel" "knocks" "I") (by decide +kernel)
  have hfl123 := hts (.fieldLink RX9 123 "FormwheelModel" "many" "I") (by decide +kernel)
  have hfl18 := hts (.fieldLink RX9 18 "FormwheelModel" "taps" "J") (by decide +kernel)
  have hK0 := hK
  have hl := lv_entry ([.ref a_t, .int p0]) (n := 8) (Nat.le_of_ble_eq_true rfl)
  rw [lg_entry_eq]
  generalize (lg_sl ([.ref a_t, .int p0]) ++ List.replicate (8 - (lg_sl ([.ref a_t, .int p0])).length) Slot.unset).toArray = ls at hl ⊢
  have hl : lv_has ls 8 [(0, .ref a_t), (1, .int p0)] := hl
  have h := hF
  clear hF
  unfold F_X9_told at h
  refine lv_iconst (v := 0) hx hb dX9_told_0 (by decide) ?_
  refine lv_istore_n (lv' := [(2, .int (0 : Int32)), (0, .ref a_t), (1, .int p0)]) hx hb dX9_told_1 rfl hl (by decide) rfl (fun ls hl => ?_)
  refine lv_aload_n hx hb dX9_told_2 rfl (lv_at hl 1 rfl) ?_
  refine va_get (D := D) (ci := 8) (v := .ref a_t_forms) (C := RX9) (T := TX9) (N := 9) hx hb hts hinX9 hown hK hP 0 rfl rfl 0 (by decide) hfl9 (fun _ h9 => h9) rfl dX9_told_3 ?_
  refine lv_astore_n (lv' := [(3, .ref a_t_forms), (2, .int (0 : Int32)), (0, .ref a_t), (1, .int p0)]) hx hb dX9_told_6 rfl hl (by decide) rfl (fun ls hl => ?_)
  refine lv_aload_n hx hb dX9_told_7 rfl (lv_at hl 0 rfl) ?_
  refine va_alen hx hb hK hP 1 0 rfl rfl (v := (6 : Int32)) (show Int32.ofNat 6 = 6 from by decide) dX9_told_8 ?_
  refine lv_istore (lv' := [(4, .int (6 : Int32)), (3, .ref a_t_forms), (2, .int (0 : Int32)), (0, .ref a_t), (1, .int p0)]) hx hb dX9_told_9 hl (by decide) rfl (fun ls hl => ?_)
  refine lv_iconst (v := 0) hx hb dX9_told_11 (by decide) ?_
  refine lv_istore (lv' := [(5, .int (0 : Int32)), (4, .int (6 : Int32)), (3, .ref a_t_forms), (2, .int (0 : Int32)), (0, .ref a_t), (1, .int p0)]) hx hb dX9_told_12 hl (by decide) rfl (fun ls hl => ?_)
  refine LQ2_k1 (M := fun (y2_14 : Int32) (y5_14 : Int32) => ∀ (ls : Array Slot), lv_has ls 8 [(0, .ref a_t), (1, .int p0), (2, .int y2_14), (3, .ref a_t_forms), (4, .int (6 : Int32)), (5, .int y5_14)] → W p l e rmX9_told s m ([.ref a_t, .int p0] : List Value).toArray below meth c s.heap [] 0 0 (MQ below (k2_QcV (.int r0)) ([.ref a_t, .int p0] : List Value).toArray s 0 0 (fun _ => False)) (F0 m 14 ls [])) ?_ _ _ _ h ls (lv_sub hl [4, 5, 3, 2, 1, 0] rfl)
  intro k41 hk41 ih14 hih14 y2_14 y5_14 h ls hl
  unfold S_X9_told_14 at h
  refine lv_iload hx hb dX9_told_14 (lv_at hl 5 rfl) ?_
  refine lv_iload hx hb dX9_told_16 (lv_at hl 4 rfl) ?_
  refine lv_icmp_ge (tgt := 41) hx hb dX9_told_18 (by decide) (fun c18 => ?_) (fun c18 => ?_)
  · have h := it_ c18 h
    rw [hk41] at h
    refine lv_iload_n hx hb dX9_told_41 rfl (lv_at hl 1 rfl) ?_
    refine lv_if_ne (tgt := 52) hx hb dX9_told_42 (by decide) (fun c42 => ?_) (fun c42 => ?_)
    · have h := if_ c42 h
      refine lv_iload_n hx hb dX9_told_52 rfl (lv_at hl 1 rfl) ?_
      refine lv_iconst (v := 1) hx hb dX9_told_53 (by decide) ?_
      refine lv_icmp_ne (tgt := 64) hx hb dX9_told_54 (by decide) (fun c54 => ?_) (fun c54 => ?_)
      · have h := if_ c54 h
        refine lv_iload_n hx hb dX9_told_64 rfl (lv_at hl 1 rfl) ?_
        refine lv_iconst (v := 2) hx hb dX9_told_65 (by decide) ?_
        refine lv_icmp_ne (tgt := 76) hx hb dX9_told_66 (by decide) (fun c66 => ?_) (fun c66 => ?_)
        · have h := if_ c66 h
          refine lv_iload_n hx hb dX9_told_76 rfl (lv_at hl 1 rfl) ?_
          refine lv_iconst (v := 3) hx hb dX9_told_77 (by decide) ?_
          refine lv_icmp_ne (tgt := 88) hx hb dX9_told_78 (by decide) (fun c78 => ?_) (fun c78 => ?_)
          · have h := if_ c78 h
            refine lv_iload_n hx hb dX9_told_88 rfl (lv_at hl 1 rfl) ?_
            refine lv_iconst (v := 4) hx hb dX9_told_89 (by decide) ?_
            refine lv_icmp_ne (tgt := 101) hx hb dX9_told_90 (by decide) (fun c90 => ?_) (fun c90 => ?_)
            · have h := if_ c90 h
              refine lv_iload_n hx hb dX9_told_101 rfl (lv_at hl 2 rfl) ?_
              have e1 := Option.some.inj h
              subst e1
              exact W.iret hx hb hr (fun t ht _ => ⟨rfl, ht⟩) no_q dX9_told_102
            · have h := it_ c90 h
              refine lv_aload_n hx hb dX9_told_93 rfl (lv_at hl 0 rfl) ?_
              refine va_get (D := D) (ci := 8) (v := .long c_t_taps) (C := RX9) (T := TX9) (N := 9) hx hb hts hinX9 hown hK hP 0 rfl rfl 3 (by decide) hfl18 (fun _ h9 => h9) rfl dX9_told_94 ?_
              refine lv_l2i (v := c_t_taps.toInt32) hx hb dX9_told_97 rfl ?_
              refine lv_goto (tgt := 102) hx hb dX9_told_98 (by decide) ?_
              have e1 := Option.some.inj h
              subst e1
              exact W.iret hx hb hr (fun t ht _ => ⟨rfl, ht⟩) no_q dX9_told_102
          · have h := it_ c78 h
            refine lv_aload_n hx hb dX9_told_81 rfl (lv_at hl 0 rfl) ?_
            refine va_get (D := D) (ci := 8) (v := .int c_t_many) (C := RX9) (T := TX9) (N := 9) hx hb hts hinX9 hown hK hP 0 rfl rfl 2 (by decide) hfl123 (fun _ h9 => h9) rfl dX9_told_82 ?_
            refine lv_goto (tgt := 102) hx hb dX9_told_85 (by decide) ?_
            have e1 := Option.some.inj h
            subst e1
            exact W.iret hx hb hr (fun t ht _ => ⟨rfl, ht⟩) no_q dX9_told_102
        · have h := it_ c66 h
          refine lv_aload_n hx hb dX9_told_69 rfl (lv_at hl 0 rfl) ?_
          refine va_get (D := D) (ci := 8) (v := .int c_t_knocks) (C := RX9) (T := TX9) (N := 9) hx hb hts hinX9 hown hK hP 0 rfl rfl 7 (by decide) hfl172 (fun _ h9 => h9) rfl dX9_told_70 ?_
          refine lv_goto (tgt := 102) hx hb dX9_told_73 (by decide) ?_
          have e1 := Option.some.inj h
          subst e1
          exact W.iret hx hb hr (fun t ht _ => ⟨rfl, ht⟩) no_q dX9_told_102
      · have h := it_ c54 h
        refine lv_aload_n hx hb dX9_told_57 rfl (lv_at hl 0 rfl) ?_
        refine va_get (D := D) (ci := 8) (v := .int c_t_refused) (C := RX9) (T := TX9) (N := 9) hx hb hts hinX9 hown hK hP 0 rfl rfl 6 (by decide) hfl77 (fun _ h9 => h9) rfl dX9_told_58 ?_
        refine lv_goto (tgt := 102) hx hb dX9_told_61 (by decide) ?_
        have e1 := Option.some.inj h
        subst e1
        exact W.iret hx hb hr (fun t ht _ => ⟨rfl, ht⟩) no_q dX9_told_102
    · have h := it_ c42 h
      refine lv_aload_n hx hb dX9_told_45 rfl (lv_at hl 0 rfl) ?_
      refine va_get (D := D) (ci := 8) (v := .int c_t_acts) (C := RX9) (T := TX9) (N := 9) hx hb hts hinX9 hown hK hP 0 rfl rfl 5 (by decide) hfl74 (fun _ h9 => h9) rfl dX9_told_46 ?_
      refine lv_goto (tgt := 102) hx hb dX9_told_49 (by decide) ?_
      have e1 := Option.some.inj h
      subst e1
      exact W.iret hx hb hr (fun t ht _ => ⟨rfl, ht⟩) no_q dX9_told_102
  · have h := if_ c18 h
    refine lv_aload_n hx hb dX9_told_21 rfl (lv_at hl 3 rfl) ?_
    refine lv_iload hx hb dX9_told_22 (lv_at hl 5 rfl) ?_
    obtain ⟨hq24, h⟩ := chk_h h
    refine va_lald hx hb hK hP 1 0 rfl rfl hq24 dX9_told_24 ?_
    refine lv_topl (fun x6_25 e_x6_25 => ?_)
    have h := bnd_h e_x6_25 h
    refine lv_lstore (lv' := [(6, .long x6_25), (0, .ref a_t), (1, .int p0), (2, .int y2_14), (3, .ref a_t_forms), (4, .int (6 : Int32)), (5, .int y5_14)]) hx hb dX9_told_25 hl (by decide) rfl (fun ls hl => ?_)
    refine lv_iload_n hx hb dX9_told_27 rfl (lv_at hl 3 rfl) ?_
    refine lv_lload hx hb dX9_told_28 (lv_at hl 0 rfl) ?_
    obtain ⟨r30, hc30, h⟩ := obn_h h
    refine pz_callS (As := [.long x6_25]) (rest := [.int y2_14]) hcf (c_X9_onesOf l x6_25 r30 hc30) (va_cwS 1 hts gX9_told_X9_onesOf rfl rfl rfl ydX9_onesOf ⟨Nat.le_of_ble_eq_true rfl, Nat.le_of_ble_eq_true rfl⟩) hnw rfl hl.1 rfl (Nat.le_of_ble_eq_true rfl) dX9_told_30 ⟨Nat.le_of_ble_eq_true rfl, Nat.le_of_ble_eq_true rfl⟩ ?_
    refine lv_iadd hx hb dX9_told_33 ?_
    refine lv_topi (fun x2_34 e_x2_34 => ?_)
    have h := bnd_h e_x2_34 h
    refine lv_istore_n (lv' := [(2, .int x2_34), (6, .long x6_25), (0, .ref a_t), (1, .int p0), (3, .ref a_t_forms), (4, .int (6 : Int32)), (5, .int y5_14)]) hx hb dX9_told_34 rfl hl (by decide) rfl (fun ls hl => ?_)
    obtain ⟨x5_35, e_x5_35⟩ : ∃ z : Int32, z = y5_14 + 1 := ⟨_, rfl⟩
    have h := bnd_h e_x5_35 h
    refine lv_iinc (v := x5_35) (lv' := [(5, .int x5_35), (2, .int x2_34), (6, .long x6_25), (0, .ref a_t), (1, .int p0), (3, .ref a_t_forms), (4, .int (6 : Int32))]) hx hb dX9_told_35 hl (k := 6) rfl (by rw [e_x5_35]; rfl) (by decide) rfl (fun ls hl => ?_)
    refine lv_goto (tgt := 14) hx hb dX9_told_38 (by decide) ?_
    exact hih14 x2_34 x5_35 h ls (lv_sub hl [3, 4, 1, 5, 6, 0] rfl)

noncomputable abbrev rmX9_house : Room := { frames := 3, cells := 0, slots := 0, locals := 69 }
theorem ydX9_house : yX9_house.cls = RX9 ∧ yX9_house.cls ≠ "java/lang/invoke/MethodHandle" ∧ yX9_house.cls ≠ "java/lang/invoke/VarHandle" ∧ (parseMethodDescriptor yX9_house.desc).map (fun d => d.parameters.length) = some 1 := by decide +kernel
noncomputable def F_X9_house (c_t_many : Int32) (c_t_taps : Int64) (c_t_acts : Int32) (c_t_refused : Int32) (c_t_knocks : Int32) (f_t_forms : Nat → Int64) (p0 : Int32) : Option (Int32 × Int32) :=
 (if p0 < 0 then
 obn2 (F_X9_isThrown_ (1 : Int32)) (fun r15 c_t_thrown_15 =>
 (if r15 = 0 then
 obn (F_X9_told c_t_many c_t_taps c_t_acts c_t_refused c_t_knocks f_t_forms p0) (fun r27 =>
 some (r27, c_t_thrown_15))
else
 some ((0 : Int32), c_t_thrown_15)))
else
 (if p0 ≤ (5 : Int32) then
 obn2 (F_X9_isThrown_ (0 : Int32)) (fun r15 c_t_thrown_15 =>
 (if r15 = 0 then
 obn (F_X9_told c_t_many c_t_taps c_t_acts c_t_refused c_t_knocks f_t_forms p0) (fun r27 =>
 some (r27, c_t_thrown_15))
else
 some ((0 : Int32), c_t_thrown_15)))
else
 obn2 (F_X9_isThrown_ (1 : Int32)) (fun r15 c_t_thrown_15 =>
 (if r15 = 0 then
 obn (F_X9_told c_t_many c_t_taps c_t_acts c_t_refused c_t_knocks f_t_forms p0) (fun r27 =>
 some (r27, c_t_thrown_15))
else
 some ((0 : Int32), c_t_thrown_15)))))
set_option maxHeartbeats 4000000 in
set_option maxRecDepth 100000 in
theorem c_X9_house (l : Launch) (D : va_G) (cyJ : ClassId) (sz : Nat) (a_t : Nat) (a_t_forms : Nat) (a_t_roll : Nat) (c_t_many : Int32) (c_t_taps : Int64) (c_t_cells : Int32) (c_t_acts : Int32) (c_t_refused : Int32) (c_t_knocks : Int32) (c_t_thrown : Int32) (f_t_forms : Nat → Int64) (p0 : Int32) (r0 : Int32) (o_c_t_thrown : Int32) (hF : F_X9_house c_t_many c_t_taps c_t_acts c_t_refused c_t_knocks f_t_forms p0 = some (r0, o_c_t_thrown)) : Met l yX9_house wsX9_house rmX9_house (va_Pc [.ref a_t, .int p0] (wPD D [(cyJ, .long)] [(a_t, .inr (8, [.ref a_t_forms, .ref a_t_roll, .int c_t_many, .long c_t_taps, .int c_t_cells, .int c_t_acts, .int c_t_refused, .int c_t_knocks, .int c_t_thrown])), (a_t_forms, .inl (cyJ, 6, .inr (.inl f_t_forms)))] sz)) (va_Qi (fun (r : Int32) (_ : Unit) => r = r0) (fun _ t => wQA D [(a_t, .inr (8, [.ref a_t_forms, .ref a_t_roll, .int c_t_many, .long c_t_taps, .int c_t_cells, .int c_t_acts, .int c_t_refused, .int c_t_knocks, .int o_c_t_thrown])), (a_t_forms, .inl (cyJ, 6, .inr (.inl f_t_forms)))] (va_A [(a_t, .inr (8, [.ref a_t_forms, .ref a_t_roll, .int c_t_many, .long c_t_taps, .int c_t_cells, .int c_t_acts, .int c_t_refused, .int c_t_knocks, .int c_t_thrown])), (a_t_forms, .inl (cyJ, 6, .inr (.inl f_t_forms)))] sz) t) (va_A [(a_t, .inr (8, [.ref a_t_forms, .ref a_t_roll, .int c_t_many, .long c_t_taps, .int c_t_cells, .int c_t_acts, .int c_t_refused, .int c_t_knocks, .int c_t_thrown])), (a_t_forms, .inl (cyJ, 6, .inr (.inl f_t_forms)))] sz)) 0 0 (va_A [(a_t, .inr (8, [.ref a_t_forms, .ref a_t_roll, .int c_t_many, .long c_t_taps, .int c_t_cells, .int c_t_acts, .int c_t_refused, .int c_t_knocks, .int c_t_thrown])), (a_t_forms, .inl (cyJ, 6, .inr (.inl f_t_forms)))] sz) := by
  refine Met.ofW (cc := cX9_house) (maxL := 2) (ret := (some .int)) (by decide) rfl ?_
  intro p e s m args below meth c s₁ B hml hv
  obtain ⟨rfl, hsz, hP, hK, hD0, hnw⟩ := hv
  have hx := B.exec
  have hb := B.bytes
  have hr := B.returns
  have hts := atoms_spec (ws := wsX9_house) B.pre
  have hown : s.vm.findClass RX9 = some m.cls := findClass_of_methodNamed B.named
  have hlocks := B.notSynchronized
  have hcf : CallFix _ _ _ _ _ _ _ _ _ := ⟨hx, hb, hml, hown, hts⟩
  subst hsz
  have hD := hD0.self (sz := s.heap.size)
  generalize hAe : va_A [(a_t, .inr (8, [.ref a_t_forms, .ref a_t_roll, .int c_t_many, .long c_t_taps, .int c_t_cells, .int c_t_acts, .int c_t_refused, .int c_t_knocks, .int c_t_thrown])), (a_t_forms, .inl (cyJ, 6, .inr (.inl f_t_forms)))] s.heap.size = A at hD ⊢
  have hA : ∀ q : Nat, s.heap.size ≤ q → A q := fun q h => by rw [← hAe]; exact Or.inr h
  have hS : va_S A s.heap s.heap [] := va_S.rf
  have hP : va_P D vwCl [(a_t, .inr (8, [.ref a_t_forms, .ref a_t_roll, .int c_t_many, .long c_t_taps, .int c_t_cells, .int c_t_acts, .int c_t_refused, .int c_t_knocks, .int c_t_thrown])), (a_t_forms, .inl (cyJ, 6, .inr (.inl f_t_forms)))] s.heap := hP
  have hK0 := hK
  have hl := lv_entry ([.ref a_t, .int p0]) (n := 2) (Nat.le_of_ble_eq_true rfl)
  rw [lg_entry_eq]
  generalize (lg_sl ([.ref a_t, .int p0]) ++ List.replicate (2 - (lg_sl ([.ref a_t, .int p0])).length) Slot.unset).toArray = ls at hl ⊢
  have hl : lv_has ls 2 [(0, .ref a_t), (1, .int p0)] := hl
  have h := hF
  clear hF
  unfold F_X9_house at h
  refine lv_aload_n hx hb dX9_house_0 rfl (lv_at hl 0 rfl) ?_
  refine lv_iload_n hx hb dX9_house_1 rfl (lv_at hl 1 rfl) ?_
  refine lv_if_lt (tgt := 10) hx hb dX9_house_2 (by decide) (fun c2 => ?_) (fun c2 => ?_)
  · have h := it_ c2 h
    refine lv_iconst (v := 1) hx hb dX9_house_10 (by decide) ?_
    refine lv_goto (tgt := 15) hx hb dX9_house_11 (by decide) ?_
    obtain ⟨r15, c_t_thrown_15, hc15, h⟩ := obn2_h h
    have hPc := hP.sub (ws' := [(a_t, .inr (8, [.ref a_t_forms, .ref a_t_roll, .int c_t_many, .long c_t_taps, .int c_t_cells, .int c_t_acts, .int c_t_refused, .int c_t_knocks, .int c_t_thrown]))]) [0] rfl
    have hDc := hD.sub (ws' := [(a_t, .inr (8, [.ref a_t_forms, .ref a_t_roll, .int c_t_many, .long c_t_taps, .int c_t_cells, .int c_t_acts, .int c_t_refused, .int c_t_knocks, .int c_t_thrown]))]) [0] (by decide) rfl
    refine hp_i (w1 := [(a_t, .inr (8, [.ref a_t_forms, .ref a_t_roll, .int c_t_many, .long c_t_taps, .int c_t_cells, .int c_t_acts, .int c_t_refused, .int c_t_knocks, .int c_t_thrown_15]))]) (wr := [(a_t_forms, .inl (cyJ, 6, .inr (.inl f_t_forms)))]) (va_runV (As := [.int (1 : Int32)]) (rest := []) hcf (c_X9_isThrown_ l D cyJ s.heap.size a_t a_t_forms a_t_roll c_t_many c_t_taps c_t_cells c_t_acts c_t_refused c_t_knocks c_t_thrown (1 : Int32) r15 c_t_thrown_15 hc15) (cwV 1 hts gX9_house_X9_isThrown_ rfl rfl rfl ydX9_isThrown_ ⟨Nat.le_of_ble_eq_true rfl, Nat.le_of_ble_eq_true rfl⟩) ⟨bl_PD, va_recv hK hP (ci := 8) (q0 := 0) rfl rfl, pr_PD hPc hK0 hDc hnw⟩ rfl rfl hl.1 rfl (lv_room (Nat.le_of_ble_eq_true rfl)) dX9_house_15 ⟨Nat.le_of_ble_eq_true rfl, Nat.le_of_ble_eq_true rfl⟩) hP hD hS hA [0] [1] rfl rfl (by decide) (by decide) (fun H locs hP hD hS => ?_)
    have hP : va_P D vwCl [(a_t_forms, .inl (cyJ, 6, .inr (.inl f_t_forms))), (a_t, .inr (8, [.ref a_t_forms, .ref a_t_roll, .int c_t_many, .long c_t_taps, .int c_t_cells, .int c_t_acts, .int c_t_refused, .int c_t_knocks, .int c_t_thrown_15]))] H := hP
    have hD : va_D A [(a_t_forms, .inl (cyJ, 6, .inr (.inl f_t_forms))), (a_t, .inr (8, [.ref a_t_forms, .ref a_t_roll, .int c_t_many, .long c_t_taps, .int c_t_cells, .int c_t_acts, .int c_t_refused, .int c_t_knocks, .int c_t_thrown_15]))] := hD
    refine lv_if_eq (tgt := 25) hx hb dX9_house_18 (by decide) (fun c18 => ?_) (fun c18 => ?_)
    · have h := it_ c18 h
      refine lv_aload_n hx hb dX9_house_25 rfl (lv_at hl 0 rfl) ?_
      refine lv_iload_n hx hb dX9_house_26 rfl (lv_at hl 1 rfl) ?_
      obtain ⟨r27, hc27, h⟩ := obn_h h
      have hPc : va_P D vwCl [(a_t, .inr (8, [.ref a_t_forms, .ref a_t_roll, .int c_t_many, .long c_t_taps, .int c_t_cells, .int c_t_acts, .int c_t_refused, .int c_t_knocks, .int c_t_thrown_15])), (a_t_forms, .inl (cyJ, 6, .inr (.inl f_t_forms)))] H := hP.sub [1, 0] rfl
      refine rd_callV (As := [.int p0]) (rest := []) hcf (c_X9_told l D cyJ a_t a_t_forms a_t_roll c_t_many c_t_taps c_t_cells c_t_acts c_t_refused c_t_knocks c_t_thrown_15 f_t_forms p0 r27 hc27) (cwV 1 hts gX9_house_X9_told rfl rfl rfl ydX9_told ⟨Nat.le_of_ble_eq_true rfl, Nat.le_of_ble_eq_true rfl⟩) hnw hPc hK0 (va_recv hK hP (ci := 8) (q0 := 1) rfl rfl) rfl hl.1 rfl (Nat.le_of_ble_eq_true rfl) dX9_house_27 ⟨Nat.le_of_ble_eq_true rfl, Nat.le_of_ble_eq_true rfl⟩ ?_
      obtain ⟨e0, e1⟩ := tup2 h
      subst e0
      subst e1
      have hP9 : va_P D vwCl [(a_t, .inr (8, [.ref a_t_forms, .ref a_t_roll, .int c_t_many, .long c_t_taps, .int c_t_cells, .int c_t_acts, .int c_t_refused, .int c_t_knocks, .int c_t_thrown_15])), (a_t_forms, .inl (cyJ, 6, .inr (.inl f_t_forms)))] H := hP.sub [1, 0] rfl
      have hD9 : va_D A [(a_t, .inr (8, [.ref a_t_forms, .ref a_t_roll, .int c_t_many, .long c_t_taps, .int c_t_cells, .int c_t_acts, .int c_t_refused, .int c_t_knocks, .int c_t_thrown_15])), (a_t_forms, .inl (cyJ, 6, .inr (.inl f_t_forms)))] := hD.sub [1, 0] (by decide) rfl
      exact W.iret hx hb hr (fun t ht hW => ⟨⟨_, (), rfl, rfl, wQA_of ht hP9 hD9⟩, hS.F ht⟩) hS.2.2 dX9_house_30
    · have h := if_ c18 h
      refine lv_iconst (v := 0) hx hb dX9_house_21 (by decide) ?_
      refine lv_goto (tgt := 30) hx hb dX9_house_22 (by decide) ?_
      obtain ⟨e0, e1⟩ := tup2 h
      subst e0
      subst e1
      have hP9 : va_P D vwCl [(a_t, .inr (8, [.ref a_t_forms, .ref a_t_roll, .int c_t_many, .long c_t_taps, .int c_t_cells, .int c_t_acts, .int c_t_refused, .int c_t_knocks, .int c_t_thrown_15])), (a_t_forms, .inl (cyJ, 6, .inr (.inl f_t_forms)))] H := hP.sub [1, 0] rfl
      have hD9 : va_D A [(a_t, .inr (8, [.ref a_t_forms, .ref a_t_roll, .int c_t_many, .long c_t_taps, .int c_t_cells, .int c_t_acts, .int c_t_refused, .int c_t_knocks, .int c_t_thrown_15])), (a_t_forms, .inl (cyJ, 6, .inr (.inl f_t_forms)))] := hD.sub [1, 0] (by decide) rfl
      exact W.iret hx hb hr (fun t ht hW => ⟨⟨_, (), rfl, rfl, wQA_of ht hP9 hD9⟩, hS.F ht⟩) hS.2.2 dX9_house_30
  · have h := if_ c2 h
    refine lv_iload_n hx hb dX9_house_5 rfl (lv_at hl 1 rfl) ?_
    refine lv_iconst (v := 5) hx hb dX9_house_6 (by decide) ?_
    refine lv_icmp_le (tgt := 14) hx hb dX9_house_7 (by decide) (fun c7 => ?_) (fun c7 => ?_)
    · have h := it_ c7 h
      refine lv_iconst (v := 0) hx hb dX9_house_14 (by decide) ?_
      obtain ⟨r15, c_t_thrown_15, hc15, h⟩ := obn2_h h
      have hPc := hP.sub (ws' := [(a_t, .inr (8, [.ref a_t_forms, .ref a_t_roll, .int c_t_many, .long c_t_taps, .int c_t_cells, .int c_t_acts, .int c_t_refused, .int c_t_knocks, .int c_t_thrown]))]) [0] rfl
      have hDc := hD.sub (ws' := [(a_t, .inr (8, [.ref a_t_forms, .ref a_t_roll, .int c_t_many, .long c_t_taps, .int c_t_cells, .int c_t_acts, .int c_t_refused, .int c_t_knocks, .int c_t_thrown]))]) [0] (by decide) rfl
      refine hp_i (w1 := [(a_t, .inr (8, [.ref a_t_forms, .ref a_t_roll, .int c_t_many, .long c_t_taps, .int c_t_cells, .int c_t_acts, .int c_t_refused, .int c_t_knocks, .int c_t_thrown_15]))]) (wr := [(a_t_forms, .inl (cyJ, 6, .inr (.inl f_t_forms)))]) (va_runV (As := [.int (0 : Int32)]) (rest := []) hcf (c_X9_isThrown_ l D cyJ s.heap.size a_t a_t_forms a_t_roll c_t_many c_t_taps c_t_cells c_t_acts c_t_refused c_t_knocks c_t_thrown (0 : Int32) r15 c_t_thrown_15 hc15) (cwV 1 hts gX9_house_X9_isThrown_ rfl rfl rfl ydX9_isThrown_ ⟨Nat.le_of_ble_eq_true rfl, Nat.le_of_ble_eq_true rfl⟩) ⟨bl_PD, va_recv hK hP (ci := 8) (q0 := 0) rfl rfl, pr_PD hPc hK0 hDc hnw⟩ rfl rfl hl.1 rfl (lv_room (Nat.le_of_ble_eq_true rfl)) dX9_house_15 ⟨Nat.le_of_ble_eq_true rfl, Nat.le_of_ble_eq_true rfl⟩) hP hD hS hA [0] [1] rfl rfl (by decide) (by decide) (fun H locs hP hD hS => ?_)
      have hP : va_P D vwCl [(a_t_forms, .inl (cyJ, 6, .inr (.inl f_t_forms))), (a_t, .inr (8, [.ref a_t_forms, .ref a_t_roll, .int c_t_many, .long c_t_taps, .int c_t_cells, .int c_t_acts, .int c_t_refused, .int c_t_knocks, .int c_t_thrown_15]))] H := hP
      have hD : va_D A [(a_t_forms, .inl (cyJ, 6, .inr (.inl f_t_forms))), (a_t, .inr (8, [.ref a_t_forms, .ref a_t_roll, .int c_t_many, .long c_t_taps, .int c_t_cells, .int c_t_acts, .int c_t_refused, .int c_t_knocks, .int c_t_thrown_15]))] := hD
      refine lv_if_eq (tgt := 25) hx hb dX9_house_18 (by decide) (fun c18 => ?_) (fun c18 => ?_)
      · have h := it_ c18 h
        refine lv_aload_n hx hb dX9_house_25 rfl (lv_at hl 0 rfl) ?_
        refine lv_iload_n hx hb dX9_house_26 rfl (lv_at hl 1 rfl) ?_
        obtain ⟨r27, hc27, h⟩ := obn_h h
        have hPc : va_P D vwCl [(a_t, .inr (8, [.ref a_t_forms, .ref a_t_roll, .int c_t_many, .long c_t_taps, .int c_t_cells, .int c_t_acts, .int c_t_refused, .int c_t_knocks, .int c_t_thrown_15])), (a_t_forms, .inl (cyJ, 6, .inr (.inl f_t_forms)))] H := hP.sub [1, 0] rfl
        refine rd_callV (As := [.int p0]) (rest := []) hcf (c_X9_told l D cyJ a_t a_t_forms a_t_roll c_t_many c_t_taps c_t_cells c_t_acts c_t_refused c_t_knocks c_t_thrown_15 f_t_forms p0 r27 hc27) (cwV 1 hts gX9_house_X9_told rfl rfl rfl ydX9_told ⟨Nat.le_of_ble_eq_true rfl, Nat.le_of_ble_eq_true rfl⟩) hnw hPc hK0 (va_recv hK hP (ci := 8) (q0 := 1) rfl rfl) rfl hl.1 rfl (Nat.le_of_ble_eq_true rfl) dX9_house_27 ⟨Nat.le_of_ble_eq_true rfl, Nat.le_of_ble_eq_true rfl⟩ ?_
        obtain ⟨e0, e1⟩ := tup2 h
        subst e0
        subst e1
        have hP9 : va_P D vwCl [(a_t, .inr (8, [.ref a_t_forms, .ref a_t_roll, .int c_t_many, .long c_t_taps, .int c_t_cells, .int c_t_acts, .int c_t_refused, .int c_t_knocks, .int c_t_thrown_15])), (a_t_forms, .inl (cyJ, 6, .inr (.inl f_t_forms)))] H := hP.sub [1, 0] rfl
        have hD9 : va_D A [(a_t, .inr (8, [.ref a_t_forms, .ref a_t_roll, .int c_t_many, .long c_t_taps, .int c_t_cells, .int c_t_acts, .int c_t_refused, .int c_t_knocks, .int c_t_thrown_15])), (a_t_forms, .inl (cyJ, 6, .inr (.inl f_t_forms)))] := hD.sub [1, 0] (by decide) rfl
        exact W.iret hx hb hr (fun t ht hW => ⟨⟨_, (), rfl, rfl, wQA_of ht hP9 hD9⟩, hS.F ht⟩) hS.2.2 dX9_house_30
      · have h := if_ c18 h
        refine lv_iconst (v := 0) hx hb dX9_house_21 (by decide) ?_
        refine lv_goto (tgt := 30) hx hb dX9_house_22 (by decide) ?_
        obtain ⟨e0, e1⟩ := tup2 h
        subst e0
        subst e1
        have hP9 : va_P D vwCl [(a_t, .inr (8, [.ref a_t_forms, .ref a_t_roll, .int c_t_many, .long c_t_taps, .int c_t_cells, .int c_t_acts, .int c_t_refused, .int c_t_knocks, .int c_t_thrown_15])), (a_t_forms, .inl (cyJ, 6, .inr (.inl f_t_forms)))] H := hP.sub [1, 0] rfl
        have hD9 : va_D A [(a_t, .inr (8, [.ref a_t_forms, .ref a_t_roll, .int c_t_many, .long c_t_taps, .int c_t_cells, .int c_t_acts, .int c_t_refused, .int c_t_knocks, .int c_t_thrown_15])), (a_t_forms, .inl (cyJ, 6, .inr (.inl f_t_forms)))] := hD.sub [1, 0] (by decide) rfl
        exact W.iret hx hb hr (fun t ht hW => ⟨⟨_, (), rfl, rfl, wQA_of ht hP9 hD9⟩, hS.F ht⟩) hS.2.2 dX9_house_30
    · have h := if_ c7 h
      refine lv_iconst (v := 1) hx hb dX9_house_10 (by decide) ?_
      refine lv_goto (tgt := 15) hx hb dX9_house_11 (by decide) ?_
      obtain ⟨r15, c_t_thrown_15, hc15, h⟩ := obn2_h h
      have hPc := hP.sub (ws' := [(a_t, .inr (8, [.ref a_t_forms, .ref a_t_roll, .int c_t_many, .long c_t_taps, .int c_t_cells, .int c_t_acts, .int c_t_refused, .int c_t_knocks, .int c_t_thrown]))]) [0] rfl
      have hDc := hD.sub (ws' := [(a_t, .inr (8, [.ref a_t_forms, .ref a_t_roll, .int c_t_many, .long c_t_taps, .int c_t_cells, .int c_t_acts, .int c_t_refused, .int c_t_knocks, .int c_t_thrown]))]) [0] (by decide) rfl
      refine hp_i (w1 := [(a_t, .inr (8, [.ref a_t_forms, .ref a_t_roll, .int c_t_many, .long c_t_taps, .int c_t_cells, .int c_t_acts, .int c_t_refused, .int c_t_knocks, .int c_t_thrown_15]))]) (wr := [(a_t_forms, .inl (cyJ, 6, .inr (.inl f_t_forms)))]) (va_runV (As := [.int (1 : Int32)]) (rest := []) hcf (c_X9_isThrown_ l D cyJ s.heap.size a_t a_t_forms a_t_roll c_t_many c_t_taps c_t_cells c_t_acts c_t_refused c_t_knocks c_t_thrown (1 : Int32) r15 c_t_thrown_15 hc15) (cwV 1 hts gX9_house_X9_isThrown_ rfl rfl rfl ydX9_isThrown_ ⟨Nat.le_of_ble_eq_true rfl, Nat.le_of_ble_eq_true rfl⟩) ⟨bl_PD, va_recv hK hP (ci := 8) (q0 := 0) rfl rfl, pr_PD hPc hK0 hDc hnw⟩ rfl rfl hl.1 rfl (lv_room (Nat.le_of_ble_eq_true rfl)) dX9_house_15 ⟨Nat.le_of_ble_eq_true rfl, Nat.le_of_ble_eq_true rfl⟩) hP hD hS hA [0] [1] rfl rfl (by decide) (by decide) (fun H locs hP hD hS => ?_)
      have hP : va_P D vwCl [(a_t_forms, .inl (cyJ, 6, .inr (.inl f_t_forms))), (a_t, .inr (8, [.ref a_t_forms, .ref a_t_roll, .int c_t_many, .long c_t_taps, .int c_t_cells, .int c_t_acts, .int c_t_refused, .int c_t_knocks, .int c_t_thrown_15]))] H := hP
      have hD : va_D A [(a_t_forms, .inl (cyJ, 6, .inr (.inl f_t_forms))), (a_t, .inr (8, [.ref a_t_forms, .ref a_t_roll, .int c_t_many, .long c_t_taps, .int c_t_cells, .int c_t_acts, .int c_t_refused, .int c_t_knocks, .int c_t_thrown_15]))] := hD
      refine lv_if_eq (tgt := 25) hx hb dX9_house_18 (by decide) (fun c18 => ?_) (fun c18 => ?_)
      · have h := it_ c18 h
        refine lv_aload_n hx hb dX9_house_25 rfl (lv_at hl 0 rfl) ?_
        refine lv_iload_n hx hb dX9_house_26 rfl (lv_at hl 1 rfl) ?_
        obtain ⟨r27, hc27, h⟩ := obn_h h
        have hPc : va_P D vwCl [(a_t, .inr (8, [.ref a_t_forms, .ref a_t_roll, .int c_t_many, .long c_t_taps, .int c_t_cells, .int c_t_acts, .int c_t_refused, .int c_t_knocks, .int c_t_thrown_15])), (a_t_forms, .inl (cyJ, 6, .inr (.inl f_t_forms)))] H := hP.sub [1, 0] rfl
        refine rd_callV (As := [.int p0]) (rest := []) hcf (c_X9_told l D cyJ a_t a_t_forms a_t_roll c_t_many c_t_taps c_t_cells c_t_acts c_t_refused c_t_knocks c_t_thrown_15 f_t_forms p0 r27 hc27) (cwV 1 hts gX9_house_X9_told rfl rfl rfl ydX9_told ⟨Nat.le_of_ble_eq_true rfl, Nat.le_of_ble_eq_true rfl⟩) hnw hPc hK0 (va_recv hK hP (ci := 8) (q0 := 1) rfl rfl) rfl hl.1 rfl (Nat.le_of_ble_eq_true rfl) dX9_house_27 ⟨Nat.le_of_ble_eq_true rfl, Nat.le_of_ble_eq_true rfl⟩ ?_
        obtain ⟨e0, e1⟩ := tup2 h
        subst e0
        subst e1
        have hP9 : va_P D vwCl [(a_t, .inr (8, [.ref a_t_forms, .ref a_t_roll, .int c_t_many, .long c_t_taps, .int c_t_cells, .int c_t_acts, .int c_t_refused, .int c_t_knocks, .int c_t_thrown_15])), (a_t_forms, .inl (cyJ, 6, .inr (.inl f_t_forms)))] H := hP.sub [1, 0] rfl
        have hD9 : va_D A [(a_t, .inr (8, [.ref a_t_forms, .ref a_t_roll, .int c_t_many, .long c_t_taps, .int c_t_cells, .int c_t_acts, .int c_t_refused, .int c_t_knocks, .int c_t_thrown_15])), (a_t_forms, .inl (cyJ, 6, .inr (.inl f_t_forms)))] := hD.sub [1, 0] (by decide) rfl
        exact W.iret hx hb hr (fun t ht hW => ⟨⟨_, (), rfl, rfl, wQA_of ht hP9 hD9⟩, hS.F ht⟩) hS.2.2 dX9_house_30
      · have h := if_ c18 h
        refine lv_iconst (v := 0) hx hb dX9_house_21 (by decide) ?_
        refine lv_goto (tgt := 30) hx hb dX9_house_22 (by decide) ?_
        obtain ⟨e0, e1⟩ := tup2 h
        subst e0
        subst e1
        have hP9 : va_P D vwCl [(a_t, .inr (8, [.ref a_t_forms, .ref a_t_roll, .int c_t_many, .long c_t_taps, .int c_t_cells, .int c_t_acts, .int c_t_refused, .int c_t_knocks, .int c_t_thrown_15])), (a_t_forms, .inl (cyJ, 6, .inr (.inl f_t_forms)))] H := hP.sub [1, 0] rfl
        have hD9 : va_D A [(a_t, .inr (8, [.ref a_t_forms, .ref a_t_roll, .int c_t_many, .long c_t_taps, .int c_t_cells, .int c_t_acts, .int c_t_refused, .int c_t_knocks, .int c_t_thrown_15])), (a_t_forms, .inl (cyJ, 6, .inr (.inl f_t_forms)))] := hD.sub [1, 0] (by decide) rfl
        exact W.iret hx hb hr (fun t ht hW => ⟨⟨_, (), rfl, rfl, wQA_of ht hP9 hD9⟩, hS.F ht⟩) hS.2.2 dX9_house_30

noncomputable abbrev rmX9_knock : Room := { frames := 0, cells := 0, slots := 0, locals := 0 }
theorem ydX9_knock : yX9_knock.cls = RX9 ∧ yX9_knock.cls ≠ "java/lang/invoke/MethodHandle" ∧ yX9_knock.cls ≠ "java/lang/invoke/VarHandle" ∧ (parseMethodDescriptor yX9_knock.desc).map (fun d => d.parameters.length) = some 0 := by decide +kernel
noncomputable def F_X9_knock (c_t_knocks : Int32) : Option (Int32 × Int32 × Int32) :=
 bnd (c_t_knocks + (1 : Int32)) (fun c_t_knocks_12 =>
 some (c_t_knocks_12, c_t_knocks_12, (0 : Int32)))
set_option maxHeartbeats 4000000 in
set_option maxRecDepth 100000 in
theorem c_X9_knock (l : Launch) (D : va_G) (cyJ : ClassId) (sz : Nat) (a_t : Nat) (a_t_forms : Nat) (a_t_roll : Nat) (c_t_many : Int32) (c_t_taps : Int64) (c_t_cells : Int32) (c_t_acts : Int32) (c_t_refused : Int32) (c_t_knocks : Int32) (c_t_thrown : Int32) (r0 : Int32) (o_c_t_knocks : Int32) (o_c_t_thrown : Int32) (hF : F_X9_knock c_t_knocks = some (r0, o_c_t_knocks, o_c_t_thrown)) : Met l yX9_knock wsX9_knock rmX9_knock (va_Pc [.ref a_t] (wPD D [(cyJ, .long)] [(a_t, .inr (8, [.ref a_t_forms, .ref a_t_roll, .int c_t_many, .long c_t_taps, .int c_t_cells, .int c_t_acts, .int c_t_refused, .int c_t_knocks, .int c_t_thrown]))] sz)) (va_Qi (fun (r : Int32) (_ : Unit) => r = r0) (fun _ t => wQA D [(a_t, .inr (8, [.ref a_t_forms, .ref a_t_roll, .int c_t_many, .long c_t_taps, .int c_t_cells, .int c_t_acts, .int c_t_refused, .int o_c_t_knocks, .int o_c_t_thrown]))] (va_A [(a_t, .inr (8, [.ref a_t_forms, .ref a_t_roll, .int c_t_many, .long c_t_taps, .int c_t_cells, .int c_t_acts, .int c_t_refused, .int c_t_knocks, .int c_t_thrown]))] sz) t) (va_A [(a_t, .inr (8, [.ref a_t_forms, .ref a_t_roll, .int c_t_many, .long c_t_taps, .int c_t_cells, .int c_t_acts, .int c_t_refused, .int c_t_knocks, .int c_t_thrown]))] sz)) 0 0 (va_A [(a_t, .inr (8, [.ref a_t_forms, .ref a_t_roll, .int c_t_many, .long c_t_taps, .int c_t_cells, .int c_t_acts, .int c_t_refused, .int c_t_knocks, .int c_t_thrown]))] sz) := by
  refine Met.ofW (cc := cX9_knock) (maxL := 1) (ret := (some .int)) (by decide) rfl ?_
  intro p e s m args below meth c s₁ B hml hv
  obtain ⟨rfl, hsz, hP, hK, hD0, hnw⟩ := hv
  have hx := B.exec
  have hb := B.bytes
  have hr := B.returns
  have hts := atoms_spec (ws := wsX9_knock) B.pre
  have hown : s.vm.findClass RX9 = some m.cls := findClass_of_methodNamed B.named
  have hlocks := B.notSynchronized
  have hcf : CallFix _ _ _ _ _ _ _ _ _ := ⟨hx, hb, hml, hown, hts⟩
  have hinX9 : ∀ w ∈ u_ws RX9 TX9 9, w ∈ wsX9_knock := by decide +kernel
  have hfl26 := hts (.fieldLink RX9 26 "FormwheelModel" "thrown" "I") (by decide +kernel)
  have hfl172 := hts (.fieldLink RX9 172 "FormwheelModel" "knocks" "I") (by decide +kernel)
  subst hsz
  have hD := hD0.self (sz := s.heap.size)
  generalize hAe : va_A [(a_t, .inr (8, [.ref a_t_forms, .ref a_t_roll, .int c_t_many, .long c_t_taps, .int c_t_cells, .int c_t_acts, .int c_t_refused, .int c_t_knocks, .int c_t_thrown]))] s.heap.size = A at hD ⊢
  have hA : ∀ q : Nat, s.heap.size ≤ q → A q := fun q h => by rw [← hAe]; exact Or.inr h
  have hS : va_S A s.heap s.heap [] := va_S.rf
  have hP : va_P D vwCl [(a_t, .inr (8, [.ref a_t_forms, .ref a_t_roll, .int c_t_many, .long c_t_taps, .int c_t_cells, .int c_t_acts, .int c_t_refused, .int c_t_knocks, .int c_t_thrown]))] s.heap := hP
  have hK0 := hK
  have hl := lv_entry ([.ref a_t]) (n := 1) (Nat.le_of_ble_eq_true rfl)
  rw [lg_entry_eq]
  generalize (lg_sl ([.ref a_t]) ++ List.replicate (1 - (lg_sl ([.ref a_t])).length) Slot.unset).toArray = ls at hl ⊢
  have hl : lv_has ls 1 [(0, .ref a_t)] := hl
  have h := hF
  clear hF
  unfold F_X9_knock at h
  refine lv_aload_n hx hb dX9_knock_0 rfl (lv_at hl 0 rfl) ?_
  refine lv_iconst (v := 0) hx hb dX9_knock_1 (by decide) ?_
  refine va_put (D := D) (ci := 8) (v := .int (0 : Int32)) (ty := .int) (C := RX9) (T := TX9) (N := 9) hx hb hts hinX9 tyX9 tyX9_ok nmX9 hown hK hP hD hS 0 rfl rfl 8 (by decide) hfl26 (fun _ h9 => h9) rfl (by decide +kernel) rfl rfl (Nat.le_of_ble_eq_true rfl) dX9_knock_2 (fun H locs hP hD hS => ?_)
  have hP : va_P D vwCl [(a_t, .inr (8, [.ref a_t_forms, .ref a_t_roll, .int c_t_many, .long c_t_taps, .int c_t_cells, .int c_t_acts, .int c_t_refused, .int c_t_knocks, .int (0 : Int32)]))] H := hP
  have hD : va_D A [(a_t, .inr (8, [.ref a_t_forms, .ref a_t_roll, .int c_t_many, .long c_t_taps, .int c_t_cells, .int c_t_acts, .int c_t_refused, .int c_t_knocks, .int (0 : Int32)]))] := hD
  refine lv_aload_n hx hb dX9_knock_5 rfl (lv_at hl 0 rfl) ?_
  refine lv_dup hx hb dX9_knock_6 rfl ?_
  refine va_get (D := D) (ci := 8) (v := .int c_t_knocks) (C := RX9) (T := TX9) (N := 9) hx hb hts hinX9 hown hK hP 0 rfl rfl 7 (by decide) hfl172 (fun _ h9 => h9) rfl dX9_knock_7 ?_
  refine lv_iconst (v := 1) hx hb dX9_knock_10 (by decide) ?_
  refine lv_iadd hx hb dX9_knock_11 ?_
  refine lv_topi (fun c_t_knocks_12 e_c_t_knocks_12 => ?_)
  have h := bnd_h e_c_t_knocks_12 h
  refine va_put (D := D) (ci := 8) (v := .int c_t_knocks_12) (ty := .int) (C := RX9) (T := TX9) (N := 9) hx hb hts hinX9 tyX9 tyX9_ok nmX9 hown hK hP hD hS 0 rfl rfl 7 (by decide) hfl172 (fun _ h9 => h9) rfl (by decide +kernel) rfl rfl (Nat.le_of_ble_eq_true rfl) dX9_knock_12 (fun H locs hP hD hS => ?_)
  have hP : va_P D vwCl [(a_t, .inr (8, [.ref a_t_forms, .ref a_t_roll, .int c_t_many, .long c_t_taps, .int c_t_cells, .int c_t_acts, .int c_t_refused, .int c_t_knocks_12, .int (0 : Int32)]))] H := hP
  have hD : va_D A [(a_t, .inr (8, [.ref a_t_forms, .ref a_t_roll, .int c_t_many, .long c_t_taps, .int c_t_cells, .int c_t_acts, .int c_t_refused, .int c_t_knocks_12, .int (0 : Int32)]))] := hD
  refine lv_aload_n hx hb dX9_knock_15 rfl (lv_at hl 0 rfl) ?_
  refine va_get (D := D) (ci := 8) (v := .int c_t_knocks_12) (C := RX9) (T := TX9) (N := 9) hx hb hts hinX9 hown hK hP 0 rfl rfl 7 (by decide) hfl172 (fun _ h9 => h9) rfl dX9_knock_16 ?_
  obtain ⟨e0, e1, e2⟩ := tup3 h
  subst e0
  subst e1
  subst e2
  have hP9 : va_P D vwCl [(a_t, .inr (8, [.ref a_t_forms, .ref a_t_roll, .int c_t_many, .long c_t_taps, .int c_t_cells, .int c_t_acts, .int c_t_refused, .int c_t_knocks_12, .int (0 : Int32)]))] H := hP.sub [0] rfl
  have hD9 : va_D A [(a_t, .inr (8, [.ref a_t_forms, .ref a_t_roll, .int c_t_many, .long c_t_taps, .int c_t_cells, .int c_t_acts, .int c_t_refused, .int c_t_knocks_12, .int (0 : Int32)]))] := hD.sub [0] (by decide) rfl
  exact W.iret hx hb hr (fun t ht hW => ⟨⟨_, (), rfl, rfl, wQA_of ht hP9 hD9⟩, hS.F ht⟩) hS.2.2 dX9_knock_19

noncomputable abbrev rmX9_isSound : Room := { frames := 0, cells := 0, slots := 0, locals := 0 }
theorem ydX9_isSound : yX9_isSound.cls = RX9 ∧ yX9_isSound.cls ≠ "java/lang/invoke/MethodHandle" ∧ yX9_isSound.cls ≠ "java/lang/invoke/VarHandle" ∧ (parseMethodDescriptor yX9_isSound.desc).map (fun d => d.parameters.length) = some 0 := by decide +kernel
noncomputable def F_X9_isSound : Option (Int32 × Int32) :=
 some ((1 : Int32), (0 : Int32))
set_option maxHeartbeats 4000000 in
set_option maxRecDepth 100000 in
theorem c_X9_isSound (l : Launch) (D : va_G) (cyJ : ClassId) (sz : Nat) (a_t : Nat) (a_t_forms : Nat) (a_t_roll : Nat) (c_t_many : Int32) (c_t_taps : Int64) (c_t_cells : Int32) (c_t_acts : Int32) (c_t_refused : Int32) (c_t_knocks : Int32) (c_t_thrown : Int32) (r0 : Int32) (o_c_t_thrown : Int32) (hF : F_X9_isSound = some (r0, o_c_t_thrown)) : Met l yX9_isSound wsX9_isSound rmX9_isSound (va_Pc [.ref a_t] (wPD D [(cyJ, .long)] [(a_t, .inr (8, [.ref a_t_forms, .ref a_t_roll, .int c_t_many, .long c_t_taps, .int c_t_cells, .int c_t_acts, .int c_t_refused, .int c_t_knocks, .int c_t_thrown]))] sz)) (va_Qi (fun (r : Int32) (_ : Unit) => r = r0) (fun _ t => wQA D [(a_t, .inr (8, [.ref a_t_forms, .ref a_t_roll, .int c_t_many, .long c_t_taps, .int c_t_cells, .int c_t_acts, .int c_t_refused, .int c_t_knocks, .int o_c_t_thrown]))] (va_A [(a_t, .inr (8, [.ref a_t_forms, .ref a_t_roll, .int c_t_many, .long c_t_taps, .int c_t_cells, .int c_t_acts, .int c_t_refused, .int c_t_knocks, .int c_t_thrown]))] sz) t) (va_A [(a_t, .inr (8, [.ref a_t_forms, .ref a_t_roll, .int c_t_many, .long c_t_taps, .int c_t_cells, .int c_t_acts, .int c_t_refused, .int c_t_knocks, .int c_t_thrown]))] sz)) 0 0 (va_A [(a_t, .inr (8, [.ref a_t_forms, .ref a_t_roll, .int c_t_many, .long c_t_taps, .int c_t_cells, .int c_t_acts, .int c_t_refused, .int c_t_knocks, .int c_t_thrown]))] sz) := by
  refine Met.ofW (cc := cX9_isSound) (maxL := 1) (ret := (some .boolean)) (by decide) rfl ?_
  intro p e s m args below meth c s₁ B hml hv
  obtain ⟨rfl, hsz, hP, hK, hD0, hnw⟩ := hv
  have hx := B.exec
  have hb := B.bytes
  have hr := B.returns
  have hts := atoms_spec (ws := wsX9_isSound) B.pre
  have hown : s.vm.findClass RX9 = some m.cls := findClass_of_methodNamed B.named
  have hlocks := B.notSynchronized
  have hcf : CallFix _ _ _ _ _ _ _ _ _ := ⟨hx, hb, hml, hown, hts⟩
  have hinX9 : ∀ w ∈ u_ws RX9 TX9 9, w ∈ wsX9_isSound := by decide +kernel
  have hfl26 := hts (.fieldLink RX9 26 "FormwheelModel" "thrown" "I") (by decide +kernel)
  subst hsz
  have hD := hD0.self (sz := s.heap.size)
  generalize hAe : va_A [(a_t, .inr (8, [.ref a_t_forms, .ref a_t_roll, .int c_t_many, .long c_t_taps, .int c_t_cells, .int c_t_acts, .int c_t_refused, .int c_t_knocks, .int c_t_thrown]))] s.heap.size = A at hD ⊢
  have hA : ∀ q : Nat, s.heap.size ≤ q → A q := fun q h => by rw [← hAe]; exact Or.inr h
  have hS : va_S A s.heap s.heap [] := va_S.rf
  have hP : va_P D vwCl [(a_t, .inr (8, [.ref a_t_forms, .ref a_t_roll, .int c_t_many, .long c_t_taps, .int c_t_cells, .int c_t_acts, .int c_t_refused, .int c_t_knocks, .int c_t_thrown]))] s.heap := hP
  have hK0 := hK
  have hl := lv_entry ([.ref a_t]) (n := 1) (Nat.le_of_ble_eq_true rfl)
  rw [lg_entry_eq]
  generalize (lg_sl ([.ref a_t]) ++ List.replicate (1 - (lg_sl ([.ref a_t])).length) Slot.unset).toArray = ls at hl ⊢
  have hl : lv_has ls 1 [(0, .ref a_t)] := hl
  have h := hF
  clear hF
  unfold F_X9_isSound at h
  refine lv_aload_n hx hb dX9_isSound_0 rfl (lv_at hl 0 rfl) ?_
  refine lv_iconst (v := 0) hx hb dX9_isSound_1 (by decide) ?_
  refine va_put (D := D) (ci := 8) (v := .int (0 : Int32)) (ty := .int) (C := RX9) (T := TX9) (N := 9) hx hb hts hinX9 tyX9 tyX9_ok nmX9 hown hK hP hD hS 0 rfl rfl 8 (by decide) hfl26 (fun _ h9 => h9) rfl (by decide +kernel) rfl rfl (Nat.le_of_ble_eq_true rfl) dX9_isSound_2 (fun H locs hP hD hS => ?_)
  have hP : va_P D vwCl [(a_t, .inr (8, [.ref a_t_forms, .ref a_t_roll, .int c_t_many, .long c_t_taps, .int c_t_cells, .int c_t_acts, .int c_t_refused, .int c_t_knocks, .int (0 : Int32)]))] H := hP
  have hD : va_D A [(a_t, .inr (8, [.ref a_t_forms, .ref a_t_roll, .int c_t_many, .long c_t_taps, .int c_t_cells, .int c_t_acts, .int c_t_refused, .int c_t_knocks, .int (0 : Int32)]))] := hD
  refine lv_iconst (v := 1) hx hb dX9_isSound_5 (by decide) ?_
  obtain ⟨e0, e1⟩ := tup2 h
  subst e0
  subst e1
  have hP9 : va_P D vwCl [(a_t, .inr (8, [.ref a_t_forms, .ref a_t_roll, .int c_t_many, .long c_t_taps, .int c_t_cells, .int c_t_acts, .int c_t_refused, .int c_t_knocks, .int (0 : Int32)]))] H := hP.sub [0] rfl
  have hD9 : va_D A [(a_t, .inr (8, [.ref a_t_forms, .ref a_t_roll, .int c_t_many, .long c_t_taps, .int c_t_cells, .int c_t_acts, .int c_t_refused, .int c_t_knocks, .int (0 : Int32)]))] := hD.sub [0] (by decide) rfl
  exact W.zret hx hb hr narrow_b1 (fun t ht hW => ⟨⟨_, (), rfl, rfl, wQA_of ht hP9 hD9⟩, hS.F ht⟩) hS.2.2 dX9_isSound_6

noncomputable abbrev rmX9_add_ : Room := { frames := 0, cells := 0, slots := 0, locals := 0 }
theorem ydX9_add_ : yX9_add_.cls ≠ "java/lang/invoke/MethodHandle" ∧ yX9_add_.cls ≠ "java/lang/invoke/VarHandle" ∧ (parseMethodDescriptor yX9_add_.desc).map (fun d => d.parameters.length) = some 2 := by decide +kernel
noncomputable def F_X9_add_ (p0 : Int64) (p1 : Int64) : Option (Int64) :=
 some ((p0 * (31 : Int64)) + p1)
set_option maxHeartbeats 4000000 in
set_option maxRecDepth 100000 in
theorem c_X9_add_ (l : Launch) (p0 : Int64) (p1 : Int64) (r0 : Int64) (hF : F_X9_add_ p0 p1 = some r0) : Met l yX9_add_ wsX9_add_ rmX9_add_ (va_Pc [.long p0, .long p1] NW) (k2_QcV (.long r0)) 0 0 (fun _ => False) := by
  refine Met.ofW (cc := cX9_add_) (maxL := 4) (ret := (some .long)) (by decide) rfl ?_
  intro p e s m args below meth c s₁ B hml hv
  obtain ⟨rfl, hnw⟩ := hv
  have hx := B.exec
  have hb := B.bytes
  have hr := B.returns
  have hts := atoms_spec (ws := wsX9_add_) B.pre
  have hown : s.vm.findClass RX9 = some m.cls := findClass_of_methodNamed B.named
  have hlocks := B.notSynchronized
  have hcf : CallFix _ _ _ _ _ _ _ _ _ := ⟨hx, hb, hml, hown, hts⟩
  have hl := lv_entry ([.long p0, .long p1]) (n := 4) (Nat.le_of_ble_eq_true rfl)
  rw [lg_entry_eq]
  generalize (lg_sl ([.long p0, .long p1]) ++ List.replicate (4 - (lg_sl ([.long p0, .long p1])).length) Slot.unset).toArray = ls at hl ⊢
  have hl : lv_has ls 4 [(0, .long p0), (2, .long p1)] := hl
  have h := hF
  clear hF
  unfold F_X9_add_ at h
  refine lv_lload_n hx hb dX9_add__0 rfl (lv_at hl 0 rfl) ?_
  refine lv_ldc2 hx hb hown (hts (.constantLong RX9 178 (31)) (by decide +kernel)) dX9_add__1 ?_
  refine lv_lmul hx hb dX9_add__4 ?_
  refine lv_lload_n hx hb dX9_add__5 rfl (lv_at hl 1 rfl) ?_
  refine lv_ladd hx hb dX9_add__6 ?_
  have e1 := Option.some.inj h
  subst e1
  exact W.lret hx hb hr (fun t ht _ => ⟨rfl, ht⟩) no_q dX9_add__7

noncomputable abbrev rmX9_digest : Room := { frames := 3, cells := 0, slots := 0, locals := 69 }
theorem ydX9_digest : yX9_digest.cls = RX9 ∧ yX9_digest.cls ≠ "java/lang/invoke/MethodHandle" ∧ yX9_digest.cls ≠ "java/lang/invoke/VarHandle" ∧ (parseMethodDescriptor yX9_digest.desc).map (fun d => d.parameters.length) = some 0 := by decide +kernel
noncomputable def J_X9_digest_86 (ih58 : Int64 → Int32 → Option (Int64 × Int32)) (j8_86 : Int32) (js0_86 : Int64) : Option (Int64 × Int32) :=
 bnd (j8_86 + (-1)) (fun x8_87 =>
 ih58 js0_86 x8_87)
noncomputable def S_X9_digest_58 (z6_58 : Int64) (k93 : Int64 → Option (Int64 × Int32)) (ih58 : Int64 → Int32 → Option (Int64 × Int32)) (y1_58 : Int64) (y8_58 : Int32) : Option (Int64 × Int32) :=
 (if y8_58 < 0 then
 k93 y1_58
else
 (if ((z6_58 >>> (y8_58.toInt64 &&& 63)) &&& (1 : Int64)) = (1 : Int64) then
 obn (F_X9_add_ y1_58 y8_58.toInt64) (fun r79 =>
 J_X9_digest_86 ih58 y8_58 r79)
else
 J_X9_digest_86 ih58 y8_58 y1_58))
noncomputable def S_X9_digest_21 (z4_21 : Int32) (f_t_forms_z21 : Nat → Int64) (k99 : Int64 → Option (Int64 × Int32)) (ih21 : Int64 → Int32 → Option (Int64 × Int32)) (y1_21 : Int64) (y5_21 : Int32) : Option (Int64 × Int32) :=
 (if z4_21 ≤ y5_21 then
 k99 y1_21
else
 chk (¬ (y5_21 < 0 ∨ 6 ≤ y5_21.toNatClampNeg)) (
 bnd (f_t_forms_z21 y5_21.toNatClampNeg) (fun x6_32 =>
 obn (F_X9_degreeOf x6_32) (fun r37 =>
 obn (F_X9_add_ y1_21 r37.toInt64) (fun r41 =>
 obn (F_X9_lowestOf x6_32) (fun r46 =>
 obn (F_X9_add_ r41 r46.toInt64) (fun r50 =>
 LQ2 (S_X9_digest_58 x6_32 (fun y1_58_93 =>
 bnd (y5_21 + 1) (fun x5_93 =>
 ih21 y1_58_93 x5_93))) 20000 r50 (39 : Int32))))))))
noncomputable def S_X9_digest_111 (c_t_many_z111 : Int32) (f_t_roll_z111 : Nat → Int64) (k153 : Int64 → Option (Int64 × Int32)) (ih111 : Int64 → Int32 → Option (Int64 × Int32)) (y1_111 : Int64) (y3_111 : Int32) : Option (Int64 × Int32) :=
 (if c_t_many_z111 ≤ y3_111 then
 k153 y1_111
else
 chk (¬ (y3_111 < 0 ∨ 12 ≤ y3_111.toNatClampNeg)) (
 obn (F_X9_degreeOf (f_t_roll_z111 y3_111.toNatClampNeg)) (fun r126 =>
 obn (F_X9_add_ y1_111 r126.toInt64) (fun r130 =>
 chk (¬ (y3_111 < 0 ∨ 12 ≤ y3_111.toNatClampNeg)) (
 obn (F_X9_onesOf (f_t_roll_z111 y3_111.toNatClampNeg)) (fun r139 =>
 obn (F_X9_add_ r130 r139.toInt64) (fun r143 =>
 bnd (y3_111 + 1) (fun x3_147 =>
 ih111 r143 x3_147))))))))
noncomputable def S_X9_digest_164 (c_t_taps_z164 : Int64) (c_t_cells_z164 : Int32) (k195 : Int64 → Option (Int64 × Int32)) (ih164 : Int64 → Int32 → Option (Int64 × Int32)) (y1_164 : Int64) (y3_164 : Int32) : Option (Int64 × Int32) :=
 obn (F_X9_degreeOf c_t_taps_z164) (fun r169 =>
 (if r169 ≤ y3_164 then
 k195 y1_164
else
 obn (F_X9_add_ y1_164 (((c_t_cells_z164 >>> (y3_164 &&& 31)) &&& (1 : Int32)).toInt64)) (fun r185 =>
 bnd (y3_164 + 1) (fun x3_189 =>
 ih164 r185 x3_189))))
noncomputable def S_X9_digest_197 (c_t_many_z197 : Int32) (c_t_taps_z197 : Int64) (c_t_acts_z197 : Int32) (c_t_refused_z197 : Int32) (c_t_knocks_z197 : Int32) (f_t_forms_z197 : Nat → Int64) (k219 : Int64 → Option (Int64 × Int32)) (ih197 : Int64 → Int32 → Option (Int64 × Int32)) (y1_197 : Int64) (y3_197 : Int32) : Option (Int64 × Int32) :=
 (if (5 : Int32) < y3_197 then
 k219 y1_197
else
 obn (F_X9_told c_t_many_z197 c_t_taps_z197 c_t_acts_z197 c_t_refused_z197 c_t_knocks_z197 f_t_forms_z197 y3_197) (fun r205 =>
 obn (F_X9_add_ y1_197 r205.toInt64) (fun r209 =>
 bnd (y3_197 + 1) (fun x3_213 =>
 ih197 r209 x3_213))))
noncomputable def F_X9_digest (c_t_many : Int32) (c_t_taps : Int64) (c_t_cells : Int32) (c_t_acts : Int32) (c_t_refused : Int32) (c_t_knocks : Int32) (f_t_forms : Nat → Int64) (f_t_roll : Nat → Int64) : Option (Int64 × Int32) :=
 LQ2 (S_X9_digest_21 (6 : Int32) f_t_forms (fun y1_21_99 =>
 obn (F_X9_add_ y1_21_99 c_t_many.toInt64) (fun r105 =>
 LQ2 (S_X9_digest_111 c_t_many f_t_roll (fun y1_111_153 =>
 obn (F_X9_add_ y1_111_153 c_t_taps) (fun r158 =>
 LQ2 (S_X9_digest_164 c_t_taps c_t_cells (fun y1_164_195 =>
 LQ2 (S_X9_digest_197 c_t_many c_t_taps c_t_acts c_t_refused c_t_knocks f_t_forms (fun y1_197_219 =>
 obn (F_X9_add_ y1_197_219 (1 : Int64)) (fun r221 =>
 some (r221, (0 : Int32))))) 20000 y1_164_195 (0 : Int32))) 20000 r158 (0 : Int32)))) 20000 r105 (0 : Int32)))) 20000 (8029 : Int64) (0 : Int32)
set_option maxHeartbeats 4000000 in
set_option maxRecDepth 100000 in
theorem c_X9_digest (l : Launch) (D : va_G) (cyJ : ClassId) (sz : Nat) (a_t : Nat) (a_t_forms : Nat) (a_t_roll : Nat) (c_t_many : Int32) (c_t_taps : Int64) (c_t_cells : Int32) (c_t_acts : Int32) (c_t_refused : Int32) (c_t_knocks : Int32) (c_t_thrown : Int32) (f_t_forms : Nat → Int64) (f_t_roll : Nat → Int64) (r0 : Int64) (o_c_t_thrown : Int32) (hF : F_X9_digest c_t_many c_t_taps c_t_cells c_t_acts c_t_refused c_t_knocks f_t_forms f_t_roll = some (r0, o_c_t_thrown)) : Met l yX9_digest wsX9_digest rmX9_digest (va_Pc [.ref a_t] (wPD D [(cyJ, .long)] [(a_t, .inr (8, [.ref a_t_forms, .ref a_t_roll, .int c_t_many, .long c_t_taps, .int c_t_cells, .int c_t_acts, .int c_t_refused, .int c_t_knocks, .int c_t_thrown])), (a_t_forms, .inl (cyJ, 6, .inr (.inl f_t_forms))), (a_t_roll, .inl (cyJ, 12, .inr (.inl f_t_roll)))] sz)) (va_Ql (fun (r : Int64) (_ : Unit) => r = r0) (fun _ t => wQA D [(a_t, .inr (8, [.ref a_t_forms, .ref a_t_roll, .int c_t_many, .long c_t_taps, .int c_t_cells, .int c_t_acts, .int c_t_refused, .int c_t_knocks, .int o_c_t_thrown])), (a_t_forms, .inl (cyJ, 6, .inr (.inl f_t_forms))), (a_t_roll, .inl (cyJ, 12, .inr (.inl f_t_roll)))] (va_A [(a_t, .inr (8, [.ref a_t_forms, .ref a_t_roll, .int c_t_many, .long c_t_taps, .int c_t_cells, .int c_t_acts, .int c_t_refused, .int c_t_knocks, .int c_t_thrown])), (a_t_forms, .inl (cyJ, 6, .inr (.inl f_t_forms))), (a_t_roll, .inl (cyJ, 12, .inr (.inl f_t_roll)))] sz) t) (va_A [(a_t, .inr (8, [.ref a_t_forms, .ref a_t_roll, .int c_t_many, .long c_t_taps, .int c_t_cells, .int c_t_acts, .int c_t_refused, .int c_t_knocks, .int c_t_thrown])), (a_t_forms, .inl (cyJ, 6, .inr (.inl f_t_forms))), (a_t_roll, .inl (cyJ, 12, .inr (.inl f_t_roll)))] sz)) 0 0 (va_A [(a_t, .inr (8, [.ref a_t_forms, .ref a_t_roll, .int c_t_many, .long c_t_taps, .int c_t_cells, .int c_t_acts, .int c_t_refused, .int c_t_knocks, .int c_t_thrown])), (a_t_forms, .inl (cyJ, 6, .inr (.inl f_t_forms))), (a_t_roll, .inl (cyJ, 12, .inr (.inl f_t_roll)))] sz) := by
  refine Met.ofW (cc := cX9_digest) (maxL := 9) (ret := (some .long)) (by decide) rfl ?_
  intro p e s m args below meth c s₁ B hml hv
  obtain ⟨rfl, hsz, hP, hK, hD0, hnw⟩ := hv
  have hx := B.exec
  have hb := B.bytes
  have hr := B.returns
  have hts := atoms_spec (ws := wsX9_digest) B.pre
  have hown : s.vm.findClass RX9 = some m.cls := findClass_of_methodNamed B.named
  have hlocks := B.notSynchronized
  have hcf : CallFix _ _ _ _ _ _ _ _ _ := ⟨hx, hb, hml, hown, hts⟩
  have hinX9 : ∀ w ∈ u_ws RX9 TX9 9, w ∈ wsX9_digest := by decide +kernel
  have hfl26 := hts (.fieldLink RX9 26 "FormwheelModel" "thrown" "I") (by decide +kernel)
  have hfl9 := hts (.fieldLink RX9 9 "FormwheelModel" "forms" "[J") (by decide +kernel)
  have hfl123 := hts (.fieldLink RX9 123 "FormwheelModel" "many" "I") (by decide +kernel)
  have hfl13 := hts (.fieldLink RX9 13 "FormwheelModel" "roll" "[J") (by decide +kernel)
  have hfl18 := hts (.fieldLink RX9 18 "FormwheelModel" "taps" "J") (by decide +kernel)
  have hfl22 := hts (.fieldLink RX9 22 "FormwheelModel" "cells" "I") (by decide +kernel)
  subst hsz
  have hD := hD0.self (sz := s.heap.size)
  generalize hAe : va_A [(a_t, .inr (8, [.ref a_t_forms, .ref a_t_roll, .int c_t_many, .long c_t_taps, .int c_t_cells, .int c_t_acts, .int c_t_refused, .int c_t_knocks, .int c_t_thrown])), (a_t_forms, .inl (cyJ, 6, .inr (.inl f_t_forms))), (a_t_roll, .inl (cyJ, 12, .inr (.inl f_t_roll)))] s.heap.size = A at hD ⊢
  have hA : ∀ q : Nat, s.heap.size ≤ q → A q := fun q h => by rw [← hAe]; exact Or.inr h
  have hS : va_S A s.heap s.heap [] := va_S.rf
  have hP : va_P D vwCl [(a_t, .inr (8, [.ref a_t_forms, .ref a_t_roll, .int c_t_many, .long c_t_taps, .int c_t_cells, .int c_t_acts, .int c_t_refused, .int c_t_knocks, .int c_t_thrown])), (a_t_forms, .inl (cyJ, 6, .inr (.inl f_t_forms))), (a_t_roll, .inl (cyJ, 12, .inr (.inl f_t_roll)))] s.heap := hP
  have hK0 := hK
  have hl := lv_entry ([.ref a_t]) (n := 9) (Nat.le_of_ble_eq_true rfl)
  rw [lg_entry_eq]
  generalize (lg_sl ([.ref a_t]) ++ List.replicate (9 - (lg_sl ([.ref a_t])).length) Slot.unset).toArray = ls at hl ⊢
  have hl : lv_has ls 9 [(0, .ref a_t)] := hl
  have h := hF
  clear hF
  unfold F_X9_digest at h
  refine lv_aload_n hx hb dX9_digest_0 rfl (lv_at hl 0 rfl) ?_
  refine lv_iconst (v := 0) hx hb dX9_digest_1 (by decide) ?_
  refine va_put (D := D) (ci := 8) (v := .int (0 : Int32)) (ty := .int) (C := RX9) (T := TX9) (N := 9) hx hb hts hinX9 tyX9 tyX9_ok nmX9 hown hK hP hD hS 0 rfl rfl 8 (by decide) hfl26 (fun _ h9 => h9) rfl (by decide +kernel) rfl rfl (Nat.le_of_ble_eq_true rfl) dX9_digest_2 (fun H locs hP hD hS => ?_)
  have hP : va_P D vwCl [(a_t, .inr (8, [.ref a_t_forms, .ref a_t_roll, .int c_t_many, .long c_t_taps, .int c_t_cells, .int c_t_acts, .int c_t_refused, .int c_t_knocks, .int (0 : Int32)])), (a_t_forms, .inl (cyJ, 6, .inr (.inl f_t_forms))), (a_t_roll, .inl (cyJ, 12, .inr (.inl f_t_roll)))] H := hP
  have hD : va_D A [(a_t, .inr (8, [.ref a_t_forms, .ref a_t_roll, .int c_t_many, .long c_t_taps, .int c_t_cells, .int c_t_acts, .int c_t_refused, .int c_t_knocks, .int (0 : Int32)])), (a_t_forms, .inl (cyJ, 6, .inr (.inl f_t_forms))), (a_t_roll, .inl (cyJ, 12, .inr (.inl f_t_roll)))] := hD
  refine lv_ldc2 hx hb hown (hts (.constantLong RX9 180 (8029)) (by decide +kernel)) dX9_digest_5 ?_
  refine lv_lstore_n (lv' := [(1, .long (8029 : Int64)), (0, .ref a_t)]) hx hb dX9_digest_8 rfl hl (by decide) rfl (fun ls hl => ?_)
  refine lv_aload_n hx hb dX9_digest_9 rfl (lv_at hl 1 rfl) ?_
  refine va_get (D := D) (ci := 8) (v := .ref a_t_forms) (C := RX9) (T := TX9) (N := 9) hx hb hts hinX9 hown hK hP 0 rfl rfl 0 (by decide) hfl9 (fun _ h9 => h9) rfl dX9_digest_10 ?_
  refine lv_astore_n (lv' := [(3, .ref a_t_forms), (1, .long (8029 : Int64)), (0, .ref a_t)]) hx hb dX9_digest_13 rfl hl (by decide) rfl (fun ls hl => ?_)
  refine lv_aload_n hx hb dX9_digest_14 rfl (lv_at hl 0 rfl) ?_
  refine va_alen hx hb hK hP 1 0 rfl rfl (v := (6 : Int32)) (show Int32.ofNat 6 = 6 from by decide) dX9_digest_15 ?_
  refine lv_istore (lv' := [(4, .int (6 : Int32)), (3, .ref a_t_forms), (1, .long (8029 : Int64)), (0, .ref a_t)]) hx hb dX9_digest_16 hl (by decide) rfl (fun ls hl => ?_)
  refine lv_iconst (v := 0) hx hb dX9_digest_18 (by decide) ?_
  refine lv_istore (lv' := [(5, .int (0 : Int32)), (4, .int (6 : Int32)), (3, .ref a_t_forms), (1, .long (8029 : Int64)), (0, .ref a_t)]) hx hb dX9_digest_19 hl (by decide) rfl (fun ls hl => ?_)
  refine LQ2_k1 (M := fun (y1_21 : Int64) (y5_21 : Int32) => ∀ (ls : Array Slot), lv_has ls 9 [(0, .ref a_t), (1, .long y1_21), (3, .ref a_t_forms), (4, .int (6 : Int32)), (5, .int y5_21)] → W p l e rmX9_digest s m ([.ref a_t] : List Value).toArray below meth c H locs 0 0 (MQ below (va_Ql (fun (r : Int64) (_ : Unit) => r = r0) (fun _ t => wQA D [(a_t, .inr (8, [.ref a_t_forms, .ref a_t_roll, .int c_t_many, .long c_t_taps, .int c_t_cells, .int c_t_acts, .int c_t_refused, .int c_t_knocks, .int o_c_t_thrown])), (a_t_forms, .inl (cyJ, 6, .inr (.inl f_t_forms))), (a_t_roll, .inl (cyJ, 12, .inr (.inl f_t_roll)))] A t) A) ([.ref a_t] : List Value).toArray s 0 0 A) (F0 m 21 ls [])) ?_ _ _ _ h ls (lv_sub hl [4, 3, 2, 1, 0] rfl)
  intro k99 hk99 ih21 hih21 y1_21 y5_21 h ls hl
  unfold S_X9_digest_21 at h
  refine lv_iload hx hb dX9_digest_21 (lv_at hl 4 rfl) ?_
  refine lv_iload hx hb dX9_digest_23 (lv_at hl 3 rfl) ?_
  refine lv_icmp_ge (tgt := 99) hx hb dX9_digest_25 (by decide) (fun c25 => ?_) (fun c25 => ?_)
  · have h := it_ c25 h
    rw [hk99] at h
    refine lv_lload_n hx hb dX9_digest_99 rfl (lv_at hl 1 rfl) ?_
    refine lv_aload_n hx hb dX9_digest_100 rfl (lv_at hl 0 rfl) ?_
    refine va_get (D := D) (ci := 8) (v := .int c_t_many) (C := RX9) (T := TX9) (N := 9) hx hb hts hinX9 hown hK hP 0 rfl rfl 2 (by decide) hfl123 (fun _ h9 => h9) rfl dX9_digest_101 ?_
    refine lv_i2l (v := c_t_many.toInt64) hx hb dX9_digest_104 rfl ?_
    obtain ⟨r105, hc105, h⟩ := obn_h h
    refine pz_callS (As := [.long y1_21, .long c_t_many.toInt64]) (rest := []) hcf (c_X9_add_ l y1_21 c_t_many.toInt64 r105 hc105) (va_cwS 2 hts gX9_digest_X9_add_ rfl rfl rfl ydX9_add_ ⟨Nat.le_of_ble_eq_true rfl, Nat.le_of_ble_eq_true rfl⟩) hnw rfl hl.1 rfl (Nat.le_of_ble_eq_true rfl) dX9_digest_105 ⟨Nat.le_of_ble_eq_true rfl, Nat.le_of_ble_eq_true rfl⟩ ?_
    refine lv_lstore_n (lv' := [(1, .long r105), (0, .ref a_t), (3, .ref a_t_forms), (4, .int (6 : Int32)), (5, .int y5_21)]) hx hb dX9_digest_108 rfl hl (by decide) rfl (fun ls hl => ?_)
    refine lv_iconst (v := 0) hx hb dX9_digest_109 (by decide) ?_
    refine lv_istore_n (lv' := [(3, .int (0 : Int32)), (1, .long r105), (0, .ref a_t), (4, .int (6 : Int32)), (5, .int y5_21)]) hx hb dX9_digest_110 rfl hl (by decide) rfl (fun ls hl => ?_)
    refine LQ2_k1 (M := fun (y1_111 : Int64) (y3_111 : Int32) => ∀ (ls : Array Slot), lv_has ls 9 [(0, .ref a_t), (1, .long y1_111), (3, .int y3_111)] → W p l e rmX9_digest s m ([.ref a_t] : List Value).toArray below meth c H locs 0 0 (MQ below (va_Ql (fun (r : Int64) (_ : Unit) => r = r0) (fun _ t => wQA D [(a_t, .inr (8, [.ref a_t_forms, .ref a_t_roll, .int c_t_many, .long c_t_taps, .int c_t_cells, .int c_t_acts, .int c_t_refused, .int c_t_knocks, .int o_c_t_thrown])), (a_t_forms, .inl (cyJ, 6, .inr (.inl f_t_forms))), (a_t_roll, .inl (cyJ, 12, .inr (.inl f_t_roll)))] A t) A) ([.ref a_t] : List Value).toArray s 0 0 A) (F0 m 111 ls [])) ?_ _ _ _ h ls (lv_sub hl [2, 1, 0] rfl)
    intro k153 hk153 ih111 hih111 y1_111 y3_111 h ls hl
    unfold S_X9_digest_111 at h
    refine lv_iload_n hx hb dX9_digest_111 rfl (lv_at hl 2 rfl) ?_
    refine lv_aload_n hx hb dX9_digest_112 rfl (lv_at hl 0 rfl) ?_
    refine va_get (D := D) (ci := 8) (v := .int c_t_many) (C := RX9) (T := TX9) (N := 9) hx hb hts hinX9 hown hK hP 0 rfl rfl 2 (by decide) hfl123 (fun _ h9 => h9) rfl dX9_digest_113 ?_
    refine lv_icmp_ge (tgt := 153) hx hb dX9_digest_116 (by decide) (fun c116 => ?_) (fun c116 => ?_)
    · have h := it_ c116 h
      rw [hk153] at h
      refine lv_lload_n hx hb dX9_digest_153 rfl (lv_at hl 1 rfl) ?_
      refine lv_aload_n hx hb dX9_digest_154 rfl (lv_at hl 0 rfl) ?_
      refine va_get (D := D) (ci := 8) (v := .long c_t_taps) (C := RX9) (T := TX9) (N := 9) hx hb hts hinX9 hown hK hP 0 rfl rfl 3 (by decide) hfl18 (fun _ h9 => h9) rfl dX9_digest_155 ?_
      obtain ⟨r158, hc158, h⟩ := obn_h h
      refine pz_callS (As := [.long y1_111, .long c_t_taps]) (rest := []) hcf (c_X9_add_ l y1_111 c_t_taps r158 hc158) (va_cwS 2 hts gX9_digest_X9_add_ rfl rfl rfl ydX9_add_ ⟨Nat.le_of_ble_eq_true rfl, Nat.le_of_ble_eq_true rfl⟩) hnw rfl hl.1 rfl (Nat.le_of_ble_eq_true rfl) dX9_digest_158 ⟨Nat.le_of_ble_eq_true rfl, Nat.le_of_ble_eq_true rfl⟩ ?_
      refine lv_lstore_n (lv' := [(1, .long r158), (0, .ref a_t), (3, .int y3_111)]) hx hb dX9_digest_161 rfl hl (by decide) rfl (fun ls hl => ?_)
      refine lv_iconst (v := 0) hx hb dX9_digest_162 (by decide) ?_
      refine lv_istore_n (lv' := [(3, .int (0 : Int32)), (1, .long r158), (0, .ref a_t)]) hx hb dX9_digest_163 rfl hl (by decide) rfl (fun ls hl => ?_)
      refine LQ2_k1 (M := fun (y1_164 : Int64) (y3_164 : Int32) => ∀ (ls : Array Slot), lv_has ls 9 [(0, .ref a_t), (1, .long y1_164), (3, .int y3_164)] → W p l e rmX9_digest s m ([.ref a_t] : List Value).toArray below meth c H locs 0 0 (MQ below (va_Ql (fun (r : Int64) (_ : Unit) => r = r0) (fun _ t => wQA D [(a_t, .inr (8, [.ref a_t_forms, .ref a_t_roll, .int c_t_many, .long c_t_taps, .int c_t_cells, .int c_t_acts, .int c_t_refused, .int c_t_knocks, .int o_c_t_thrown])), (a_t_forms, .inl (cyJ, 6, .inr (.inl f_t_forms))), (a_t_roll, .inl (cyJ, 12, .inr (.inl f_t_roll)))] A t) A) ([.ref a_t] : List Value).toArray s 0 0 A) (F0 m 164 ls [])) ?_ _ _ _ h ls (lv_sub hl [2, 1, 0] rfl)
      intro k195 hk195 ih164 hih164 y1_164 y3_164 h ls hl
      unfold S_X9_digest_164 at h
      refine lv_iload_n hx hb dX9_digest_164 rfl (lv_at hl 2 rfl) ?_
      refine lv_aload_n hx hb dX9_digest_165 rfl (lv_at hl 0 rfl) ?_
      refine va_get (D := D) (ci := 8) (v := .long c_t_taps) (C := RX9) (T := TX9) (N := 9) hx hb hts hinX9 hown hK hP 0 rfl rfl 3 (by decide) hfl18 (fun _ h9 => h9) rfl dX9_digest_166 ?_
      obtain ⟨r169, hc169, h⟩ := obn_h h
      refine pz_callS (As := [.long c_t_taps]) (rest := [.int y3_164]) hcf (c_X9_degreeOf l c_t_taps r169 hc169) (va_cwS 1 hts gX9_digest_X9_degreeOf rfl rfl rfl ydX9_degreeOf ⟨Nat.le_of_ble_eq_true rfl, Nat.le_of_ble_eq_true rfl⟩) hnw rfl hl.1 rfl (Nat.le_of_ble_eq_true rfl) dX9_digest_169 ⟨Nat.le_of_ble_eq_true rfl, Nat.le_of_ble_eq_true rfl⟩ ?_
      refine lv_icmp_ge (tgt := 195) hx hb dX9_digest_172 (by decide) (fun c172 => ?_) (fun c172 => ?_)
      · have h := it_ c172 h
        rw [hk195] at h
        refine lv_iconst (v := 0) hx hb dX9_digest_195 (by decide) ?_
        refine lv_istore_n (lv' := [(3, .int (0 : Int32)), (0, .ref a_t), (1, .long y1_164)]) hx hb dX9_digest_196 rfl hl (by decide) rfl (fun ls hl => ?_)
        refine LQ2_k1 (M := fun (y1_197 : Int64) (y3_197 : Int32) => ∀ (ls : Array Slot), lv_has ls 9 [(0, .ref a_t), (1, .long y1_197), (3, .int y3_197)] → W p l e rmX9_digest s m ([.ref a_t] : List Value).toArray below meth c H locs 0 0 (MQ below (va_Ql (fun (r : Int64) (_ : Unit) => r = r0) (fun _ t => wQA D [(a_t, .inr (8, [.ref a_t_forms, .ref a_t_roll, .int c_t_many, .long c_t_taps, .int c_t_cells, .int c_t_acts, .int c_t_refused, .int c_t_knocks, .int o_c_t_thrown])), (a_t_forms, .inl (cyJ, 6, .inr (.inl f_t_forms))), (a_t_roll, .inl (cyJ, 12, .inr (.inl f_t_roll)))] A t) A) ([.ref a_t] : List Value).toArray s 0 0 A) (F0 m 197 ls [])) ?_ _ _ _ h ls (lv_sub hl [1, 2, 0] rfl)
        intro k219 hk219 ih197 hih197 y1_197 y3_197 h ls hl
        unfold S_X9_digest_197 at h
        refine lv_iload_n hx hb dX9_digest_197 rfl (lv_at hl 2 rfl) ?_
        refine lv_iconst (v := 5) hx hb dX9_digest_198 (by decide) ?_
        refine lv_icmp_gt (tgt := 219) hx hb dX9_digest_199 (by decide) (fun c199 => ?_) (fun c199 => ?_)
        · have h := it_ c199 h
          rw [hk219] at h
          refine lv_lload_n hx hb dX9_digest_219 rfl (lv_at hl 1 rfl) ?_
          refine lv_lconst (v := 1) hx hb dX9_digest_220 (by decide) ?_
          obtain ⟨r221, hc221, h⟩ := obn_h h
          refine pz_callS (As := [.long y1_197, .long (1 : Int64)]) (rest := []) hcf (c_X9_add_ l y1_197 (1 : Int64) r221 hc221) (va_cwS 2 hts gX9_digest_X9_add_ rfl rfl rfl ydX9_add_ ⟨Nat.le_of_ble_eq_true rfl, Nat.le_of_ble_eq_true rfl⟩) hnw rfl hl.1 rfl (Nat.le_of_ble_eq_true rfl) dX9_digest_221 ⟨Nat.le_of_ble_eq_true rfl, Nat.le_of_ble_eq_true rfl⟩ ?_
          obtain ⟨e0, e1⟩ := tup2 h
          subst e0
          subst e1
          have hP9 : va_P D vwCl [(a_t, .inr (8, [.ref a_t_forms, .ref a_t_roll, .int c_t_many, .long c_t_taps, .int c_t_cells, .int c_t_acts, .int c_t_refused, .int c_t_knocks, .int (0 : Int32)])), (a_t_forms, .inl (cyJ, 6, .inr (.inl f_t_forms))), (a_t_roll, .inl (cyJ, 12, .inr (.inl f_t_roll)))] H := hP.sub [0, 1, 2] rfl
          have hD9 : va_D A [(a_t, .inr (8, [.ref a_t_forms, .ref a_t_roll, .int c_t_many, .long c_t_taps, .int c_t_cells, .int c_t_acts, .int c_t_refused, .int c_t_knocks, .int (0 : Int32)])), (a_t_forms, .inl (cyJ, 6, .inr (.inl f_t_forms))), (a_t_roll, .inl (cyJ, 12, .inr (.inl f_t_roll)))] := hD.sub [0, 1, 2] (by decide) rfl
          exact W.lret hx hb hr (fun t ht hW => ⟨⟨_, (), rfl, rfl, wQA_of ht hP9 hD9⟩, hS.F ht⟩) hS.2.2 dX9_digest_224
        · have h := if_ c199 h
          refine lv_lload_n hx hb dX9_digest_202 rfl (lv_at hl 1 rfl) ?_
          refine lv_aload_n hx hb dX9_digest_203 rfl (lv_at hl 0 rfl) ?_
          refine lv_iload_n hx hb dX9_digest_204 rfl (lv_at hl 2 rfl) ?_
          obtain ⟨r205, hc205, h⟩ := obn_h h
          have hPc : va_P D vwCl [(a_t, .inr (8, [.ref a_t_forms, .ref a_t_roll, .int c_t_many, .long c_t_taps, .int c_t_cells, .int c_t_acts, .int c_t_refused, .int c_t_knocks, .int (0 : Int32)])), (a_t_forms, .inl (cyJ, 6, .inr (.inl f_t_forms)))] H := hP.sub [0, 1] rfl
          refine rd_callV (As := [.int y3_197]) (rest := [.long y1_197]) hcf (c_X9_told l D cyJ a_t a_t_forms a_t_roll c_t_many c_t_taps c_t_cells c_t_acts c_t_refused c_t_knocks (0 : Int32) f_t_forms y3_197 r205 hc205) (cwV 1 hts gX9_digest_X9_told rfl rfl rfl ydX9_told ⟨Nat.le_of_ble_eq_true rfl, Nat.le_of_ble_eq_true rfl⟩) hnw hPc hK0 (va_recv hK hP (ci := 8) (q0 := 0) rfl rfl) rfl hl.1 rfl (Nat.le_of_ble_eq_true rfl) dX9_digest_205 ⟨Nat.le_of_ble_eq_true rfl, Nat.le_of_ble_eq_true rfl⟩ ?_
          refine lv_i2l (v := r205.toInt64) hx hb dX9_digest_208 rfl ?_
          obtain ⟨r209, hc209, h⟩ := obn_h h
          refine pz_callS (As := [.long y1_197, .long r205.toInt64]) (rest := []) hcf (c_X9_add_ l y1_197 r205.toInt64 r209 hc209) (va_cwS 2 hts gX9_digest_X9_add_ rfl rfl rfl ydX9_add_ ⟨Nat.le_of_ble_eq_true rfl, Nat.le_of_ble_eq_true rfl⟩) hnw rfl hl.1 rfl (Nat.le_of_ble_eq_true rfl) dX9_digest_209 ⟨Nat.le_of_ble_eq_true rfl, Nat.le_of_ble_eq_true rfl⟩ ?_
          refine lv_lstore_n (lv' := [(1, .long r209), (0, .ref a_t), (3, .int y3_197)]) hx hb dX9_digest_212 rfl hl (by decide) rfl (fun ls hl => ?_)
          obtain ⟨x3_213, e_x3_213⟩ : ∃ z : Int32, z = y3_197 + 1 := ⟨_, rfl⟩
          have h := bnd_h e_x3_213 h
          refine lv_iinc (v := x3_213) (lv' := [(3, .int x3_213), (1, .long r209), (0, .ref a_t)]) hx hb dX9_digest_213 hl (k := 2) rfl (by rw [e_x3_213]; rfl) (by decide) rfl (fun ls hl => ?_)
          refine lv_goto (tgt := 197) hx hb dX9_digest_216 (by decide) ?_
          exact hih197 r209 x3_213 h ls (lv_sub hl [2, 1, 0] rfl)
      · have h := if_ c172 h
        refine lv_lload_n hx hb dX9_digest_175 rfl (lv_at hl 1 rfl) ?_
        refine lv_aload_n hx hb dX9_digest_176 rfl (lv_at hl 0 rfl) ?_
        refine va_get (D := D) (ci := 8) (v := .int c_t_cells) (C := RX9) (T := TX9) (N := 9) hx hb hts hinX9 hown hK hP 0 rfl rfl 4 (by decide) hfl22 (fun _ h9 => h9) rfl dX9_digest_177 ?_
        refine lv_iload_n hx hb dX9_digest_180 rfl (lv_at hl 2 rfl) ?_
        refine lv_ishr hx hb dX9_digest_181 ?_
        refine lv_iconst (v := 1) hx hb dX9_digest_182 (by decide) ?_
        refine lv_iand hx hb dX9_digest_183 ?_
        refine lv_i2l (v := ((c_t_cells >>> (y3_164 &&& 31)) &&& (1 : Int32)).toInt64) hx hb dX9_digest_184 rfl ?_
        obtain ⟨r185, hc185, h⟩ := obn_h h
        refine pz_callS (As := [.long y1_164, .long (((c_t_cells >>> (y3_164 &&& 31)) &&& (1 : Int32)).toInt64)]) (rest := []) hcf (c_X9_add_ l y1_164 (((c_t_cells >>> (y3_164 &&& 31)) &&& (1 : Int32)).toInt64) r185 hc185) (va_cwS 2 hts gX9_digest_X9_add_ rfl rfl rfl ydX9_add_ ⟨Nat.le_of_ble_eq_true rfl, Nat.le_of_ble_eq_true rfl⟩) hnw rfl hl.1 rfl (Nat.le_of_ble_eq_true rfl) dX9_digest_185 ⟨Nat.le_of_ble_eq_true rfl, Nat.le_of_ble_eq_true rfl⟩ ?_
        refine lv_lstore_n (lv' := [(1, .long r185), (0, .ref a_t), (3, .int y3_164)]) hx hb dX9_digest_188 rfl hl (by decide) rfl (fun ls hl => ?_)
        obtain ⟨x3_189, e_x3_189⟩ : ∃ z : Int32, z = y3_164 + 1 := ⟨_, rfl⟩
        have h := bnd_h e_x3_189 h
        refine lv_iinc (v := x3_189) (lv' := [(3, .int x3_189), (1, .long r185), (0, .ref a_t)]) hx hb dX9_digest_189 hl (k := 2) rfl (by rw [e_x3_189]; rfl) (by decide) rfl (fun ls hl => ?_)
        refine lv_goto (tgt := 164) hx hb dX9_digest_192 (by decide) ?_
        exact hih164 r185 x3_189 h ls (lv_sub hl [2, 1, 0] rfl)
    · have h := if_ c116 h
      refine lv_lload_n hx hb dX9_digest_119 rfl (lv_at hl 1 rfl) ?_
      refine lv_aload_n hx hb dX9_digest_120 rfl (lv_at hl 0 rfl) ?_
      refine va_get (D := D) (ci := 8) (v := .ref a_t_roll) (C := RX9) (T := TX9) (N := 9) hx hb hts hinX9 hown hK hP 0 rfl rfl 1 (by decide) hfl13 (fun _ h9 => h9) rfl dX9_digest_121 ?_
      refine lv_iload_n hx hb dX9_digest_124 rfl (lv_at hl 2 rfl) ?_
      obtain ⟨hq125, h⟩ := chk_h h
      refine va_lald hx hb hK hP 2 0 rfl rfl hq125 dX9_digest_125 ?_
      obtain ⟨r126, hc126, h⟩ := obn_h h
      refine pz_callS (As := [.long (f_t_roll y3_111.toNatClampNeg)]) (rest := [.long y1_111]) hcf (c_X9_degreeOf l (f_t_roll y3_111.toNatClampNeg) r126 hc126) (va_cwS 1 hts gX9_digest_X9_degreeOf rfl rfl rfl ydX9_degreeOf ⟨Nat.le_of_ble_eq_true rfl, Nat.le_of_ble_eq_true rfl⟩) hnw rfl hl.1 rfl (Nat.le_of_ble_eq_true rfl) dX9_digest_126 ⟨Nat.le_of_ble_eq_true rfl, Nat.le_of_ble_eq_true rfl⟩ ?_
      refine lv_i2l (v := r126.toInt64) hx hb dX9_digest_129 rfl ?_
      obtain ⟨r130, hc130, h⟩ := obn_h h
      refine pz_callS (As := [.long y1_111, .long r126.toInt64]) (rest := []) hcf (c_X9_add_ l y1_111 r126.toInt64 r130 hc130) (va_cwS 2 hts gX9_digest_X9_add_ rfl rfl rfl ydX9_add_ ⟨Nat.le_of_ble_eq_true rfl, Nat.le_of_ble_eq_true rfl⟩) hnw rfl hl.1 rfl (Nat.le_of_ble_eq_true rfl) dX9_digest_130 ⟨Nat.le_of_ble_eq_true rfl, Nat.le_of_ble_eq_true rfl⟩ ?_
      refine lv_aload_n hx hb dX9_digest_133 rfl (lv_at hl 0 rfl) ?_
      refine va_get (D := D) (ci := 8) (v := .ref a_t_roll) (C := RX9) (T := TX9) (N := 9) hx hb hts hinX9 hown hK hP 0 rfl rfl 1 (by decide) hfl13 (fun _ h9 => h9) rfl dX9_digest_134 ?_
      refine lv_iload_n hx hb dX9_digest_137 rfl (lv_at hl 2 rfl) ?_
      obtain ⟨hq138, h⟩ := chk_h h
      refine va_lald hx hb hK hP 2 0 rfl rfl hq138 dX9_digest_138 ?_
      obtain ⟨r139, hc139, h⟩ := obn_h h
      refine pz_callS (As := [.long (f_t_roll y3_111.toNatClampNeg)]) (rest := [.long r130]) hcf (c_X9_onesOf l (f_t_roll y3_111.toNatClampNeg) r139 hc139) (va_cwS 1 hts gX9_digest_X9_onesOf rfl rfl rfl ydX9_onesOf ⟨Nat.le_of_ble_eq_true rfl, Nat.le_of_ble_eq_true rfl⟩) hnw rfl hl.1 rfl (Nat.le_of_ble_eq_true rfl) dX9_digest_139 ⟨Nat.le_of_ble_eq_true rfl, Nat.le_of_ble_eq_true rfl⟩ ?_
      refine lv_i2l (v := r139.toInt64) hx hb dX9_digest_142 rfl ?_
      obtain ⟨r143, hc143, h⟩ := obn_h h
      refine pz_callS (As := [.long r130, .long r139.toInt64]) (rest := []) hcf (c_X9_add_ l r130 r139.toInt64 r143 hc143) (va_cwS 2 hts gX9_digest_X9_add_ rfl rfl rfl ydX9_add_ ⟨Nat.le_of_ble_eq_true rfl, Nat.le_of_ble_eq_true rfl⟩) hnw rfl hl.1 rfl (Nat.le_of_ble_eq_true rfl) dX9_digest_143 ⟨Nat.le_of_ble_eq_true rfl, Nat.le_of_ble_eq_true rfl⟩ ?_
      refine lv_lstore_n (lv' := [(1, .long r143), (0, .ref a_t), (3, .int y3_111)]) hx hb dX9_digest_146 rfl hl (by decide) rfl (fun ls hl => ?_)
      obtain ⟨x3_147, e_x3_147⟩ : ∃ z : Int32, z = y3_111 + 1 := ⟨_, rfl⟩
      have h := bnd_h e_x3_147 h
      refine lv_iinc (v := x3_147) (lv' := [(3, .int x3_147), (1, .long r143), (0, .ref a_t)]) hx hb dX9_digest_147 hl (k := 2) rfl (by rw [e_x3_147]; rfl) (by decide) rfl (fun ls hl => ?_)
      refine lv_goto (tgt := 111) hx hb dX9_digest_150 (by decide) ?_
      exact hih111 r143 x3_147 h ls (lv_sub hl [2, 1, 0] rfl)
  · have h := if_ c25 h
    refine lv_aload_n hx hb dX9_digest_28 rfl (lv_at hl 2 rfl) ?_
    refine lv_iload hx hb dX9_digest_29 (lv_at hl 4 rfl) ?_
    obtain ⟨hq31, h⟩ := chk_h h
    refine va_lald hx hb hK hP 1 0 rfl rfl hq31 dX9_digest_31 ?_
    refine lv_topl (fun x6_32 e_x6_32 => ?_)
    have h := bnd_h e_x6_32 h
    refine lv_lstore (lv' := [(6, .long x6_32), (0, .ref a_t), (1, .long y1_21), (3, .ref a_t_forms), (4, .int (6 : Int32)), (5, .int y5_21)]) hx hb dX9_digest_32 hl (by decide) rfl (fun ls hl => ?_)
    refine lv_lload_n hx hb dX9_digest_34 rfl (lv_at hl 2 rfl) ?_
    refine lv_lload hx hb dX9_digest_35 (lv_at hl 0 rfl) ?_
    obtain ⟨r37, hc37, h⟩ := obn_h h
    refine pz_callS (As := [.long x6_32]) (rest := [.long y1_21]) hcf (c_X9_degreeOf l x6_32 r37 hc37) (va_cwS 1 hts gX9_digest_X9_degreeOf rfl rfl rfl ydX9_degreeOf ⟨Nat.le_of_ble_eq_true rfl, Nat.le_of_ble_eq_true rfl⟩) hnw rfl hl.1 rfl (Nat.le_of_ble_eq_true rfl) dX9_digest_37 ⟨Nat.le_of_ble_eq_true rfl, Nat.le_of_ble_eq_true rfl⟩ ?_
    refine lv_i2l (v := r37.toInt64) hx hb dX9_digest_40 rfl ?_
    obtain ⟨r41, hc41, h⟩ := obn_h h
    refine pz_callS (As := [.long y1_21, .long r37.toInt64]) (rest := []) hcf (c_X9_add_ l y1_21 r37.toInt64 r41 hc41) (va_cwS 2 hts gX9_digest_X9_add_ rfl rfl rfl ydX9_add_ ⟨Nat.le_of_ble_eq_true rfl, Nat.le_of_ble_eq_true rfl⟩) hnw rfl hl.1 rfl (Nat.le_of_ble_eq_true rfl) dX9_digest_41 ⟨Nat.le_of_ble_eq_true rfl, Nat.le_of_ble_eq_true rfl⟩ ?_
    refine lv_lload hx hb dX9_digest_44 (lv_at hl 0 rfl) ?_
    obtain ⟨r46, hc46, h⟩ := obn_h h
    refine pz_callS (As := [.long x6_32]) (rest := [.long r41]) hcf (c_X9_lowestOf l x6_32 r46 hc46) (va_cwS 1 hts gX9_digest_X9_lowestOf rfl rfl rfl ydX9_lowestOf ⟨Nat.le_of_ble_eq_true rfl, Nat.le_of_ble_eq_true rfl⟩) hnw rfl hl.1 rfl (Nat.le_of_ble_eq_true rfl) dX9_digest_46 ⟨Nat.le_of_ble_eq_true rfl, Nat.le_of_ble_eq_true rfl⟩ ?_
    refine lv_i2l (v := r46.toInt64) hx hb dX9_digest_49 rfl ?_
    obtain ⟨r50, hc50, h⟩ := obn_h h
    refine pz_callS (As := [.long r41, .long r46.toInt64]) (rest := []) hcf (c_X9_add_ l r41 r46.toInt64 r50 hc50) (va_cwS 2 hts gX9_digest_X9_add_ rfl rfl rfl ydX9_add_ ⟨Nat.le_of_ble_eq_true rfl, Nat.le_of_ble_eq_true rfl⟩) hnw rfl hl.1 rfl (Nat.le_of_ble_eq_true rfl) dX9_digest_50 ⟨Nat.le_of_ble_eq_true rfl, Nat.le_of_ble_eq_true rfl⟩ ?_
    refine lv_lstore_n (lv' := [(1, .long r50), (6, .long x6_32), (0, .ref a_t), (3, .ref a_t_forms), (4, .int (6 : Int32)), (5, .int y5_21)]) hx hb dX9_digest_53 rfl hl (by decide) rfl (fun ls hl => ?_)
    refine lv_bipush (v := 39) hx hb dX9_digest_54 (by decide) ?_
    refine lv_istore (lv' := [(8, .int (39 : Int32)), (1, .long r50), (6, .long x6_32), (0, .ref a_t), (3, .ref a_t_forms), (4, .int (6 : Int32)), (5, .int y5_21)]) hx hb dX9_digest_56 hl (by decide) rfl (fun ls hl => ?_)
    refine LQ2_k1 (M := fun (y1_58 : Int64) (y8_58 : Int32) => ∀ (ls : Array Slot), lv_has ls 9 [(0, .ref a_t), (1, .long y1_58), (3, .ref a_t_forms), (4, .int (6 : Int32)), (5, .int y5_21), (6, .long x6_32), (8, .int y8_58)] → W p l e rmX9_digest s m ([.ref a_t] : List Value).toArray below meth c H locs 0 0 (MQ below (va_Ql (fun (r : Int64) (_ : Unit) => r = r0) (fun _ t => wQA D [(a_t, .inr (8, [.ref a_t_forms, .ref a_t_roll, .int c_t_many, .long c_t_taps, .int c_t_cells, .int c_t_acts, .int c_t_refused, .int c_t_knocks, .int o_c_t_thrown])), (a_t_forms, .inl (cyJ, 6, .inr (.inl f_t_forms))), (a_t_roll, .inl (cyJ, 12, .inr (.inl f_t_roll)))] A t) A) ([.ref a_t] : List Value).toArray s 0 0 A) (F0 m 58 ls [])) ?_ _ _ _ h ls (lv_sub hl [3, 1, 4, 5, 6, 2, 0] rfl)
    intro k93 hk93 ih58 hih58 y1_58 y8_58 h ls hl
    unfold S_X9_digest_58 at h
    have hj86 : ∀ (j8_86 : Int32) (js0_86 : Int64), J_X9_digest_86 ih58 j8_86 js0_86 = some (r0, o_c_t_thrown) → ∀ (ls : Array Slot), lv_has ls 9 [(0, .ref a_t), (3, .ref a_t_forms), (4, .int (6 : Int32)), (5, .int y5_21), (6, .long x6_32), (8, .int j8_86)] → W p l e rmX9_digest s m ([.ref a_t] : List Value).toArray below meth c H locs 0 0 (MQ below (va_Ql (fun (r : Int64) (_ : Unit) => r = r0) (fun _ t => wQA D [(a_t, .inr (8, [.ref a_t_forms, .ref a_t_roll, .int c_t_many, .long c_t_taps, .int c_t_cells, .int c_t_acts, .int c_t_refused, .int c_t_knocks, .int o_c_t_thrown])), (a_t_forms, .inl (cyJ, 6, .inr (.inl f_t_forms))), (a_t_roll, .inl (cyJ, 12, .inr (.inl f_t_roll)))] A t) A) ([.ref a_t] : List Value).toArray s 0 0 A) (F0 m 86 ls [.long js0_86]) := by
      intro j8_86 js0_86 h ls hl
      unfold J_X9_digest_86 at h
      refine lv_lstore_n (lv' := [(1, .long js0_86), (0, .ref a_t), (3, .ref a_t_forms), (4, .int (6 : Int32)), (5, .int y5_21), (6, .long x6_32), (8, .int j8_86)]) hx hb dX9_digest_86 rfl hl (by decide) rfl (fun ls hl => ?_)
      obtain ⟨x8_87, e_x8_87⟩ : ∃ z : Int32, z = j8_86 + (-1) := ⟨_, rfl⟩
      have h := bnd_h e_x8_87 h
      refine lv_iinc (v := x8_87) (lv' := [(8, .int x8_87), (1, .long js0_86), (0, .ref a_t), (3, .ref a_t_forms), (4, .int (6 : Int32)), (5, .int y5_21), (6, .long x6_32)]) hx hb dX9_digest_87 hl (k := 6) rfl (by rw [e_x8_87]; rfl) (by decide) rfl (fun ls hl => ?_)
      refine lv_goto (tgt := 58) hx hb dX9_digest_90 (by decide) ?_
      exact hih58 js0_86 x8_87 h ls (lv_sub hl [2, 1, 3, 4, 5, 6, 0] rfl)
    refine lv_iload hx hb dX9_digest_58 (lv_at hl 6 rfl) ?_
    refine lv_if_lt (tgt := 93) hx hb dX9_digest_60 (by decide) (fun c60 => ?_) (fun c60 => ?_)
    · have h := it_ c60 h
      rw [hk93] at h
      obtain ⟨x5_93, e_x5_93⟩ : ∃ z : Int32, z = y5_21 + 1 := ⟨_, rfl⟩
      have h := bnd_h e_x5_93 h
      refine lv_iinc (v := x5_93) (lv' := [(5, .int x5_93), (0, .ref a_t), (1, .long y1_58), (3, .ref a_t_forms), (4, .int (6 : Int32)), (6, .long x6_32), (8, .int y8_58)]) hx hb dX9_digest_93 hl (k := 4) rfl (by rw [e_x5_93]; rfl) (by decide) rfl (fun ls hl => ?_)
      refine lv_goto (tgt := 21) hx hb dX9_digest_96 (by decide) ?_
      exact hih21 y1_58 x5_93 h ls (lv_sub hl [1, 2, 3, 4, 0] rfl)
    · have h := if_ c60 h
      refine lv_lload hx hb dX9_digest_63 (lv_at hl 5 rfl) ?_
      refine lv_iload hx hb dX9_digest_65 (lv_at hl 6 rfl) ?_
      refine lv_lshr (v := x6_32 >>> (y8_58.toInt64 &&& 63)) hx hb dX9_digest_67 rfl ?_
      refine lv_lconst (v := 1) hx hb dX9_digest_68 (by decide) ?_
      refine lv_land hx hb dX9_digest_69 ?_
      refine lv_lconst (v := 1) hx hb dX9_digest_70 (by decide) ?_
      refine W.lcmp hx hb dX9_digest_71 ?_
      refine lv_if_ne (tgt := 85) hx hb dX9_digest_72 (by decide) (fun c72 => ?_) (fun c72 => ?_)
      · have c72 := fun z => c72 ((lg_cmp_eq _ _).mpr z)
        have h := if_ c72 h
        refine lv_lload_n hx hb dX9_digest_85 rfl (lv_at hl 1 rfl) ?_
        exact hj86 y8_58 y1_58 h ls (lv_sub hl [0, 2, 3, 4, 5, 6] rfl)
      · have c72 := (lg_cmp_eq _ _).mp c72
        have h := it_ c72 h
        refine lv_lload_n hx hb dX9_digest_75 rfl (lv_at hl 1 rfl) ?_
        refine lv_iload hx hb dX9_digest_76 (lv_at hl 6 rfl) ?_
        refine lv_i2l (v := y8_58.toInt64) hx hb dX9_digest_78 rfl ?_
        obtain ⟨r79, hc79, h⟩ := obn_h h
        refine pz_callS (As := [.long y1_58, .long y8_58.toInt64]) (rest := []) hcf (c_X9_add_ l y1_58 y8_58.toInt64 r79 hc79) (va_cwS 2 hts gX9_digest_X9_add_ rfl rfl rfl ydX9_add_ ⟨Nat.le_of_ble_eq_true rfl, Nat.le_of_ble_eq_true rfl⟩) hnw rfl hl.1 rfl (Nat.le_of_ble_eq_true rfl) dX9_digest_79 ⟨Nat.le_of_ble_eq_true rfl, Nat.le_of_ble_eq_true rfl⟩ ?_
        refine lv_goto (tgt := 86) hx hb dX9_digest_82 (by decide) ?_
        exact hj86 y8_58 r79 h ls (lv_sub hl [0, 2, 3, 4, 5, 6] rfl)
