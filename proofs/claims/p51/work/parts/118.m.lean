noncomputable abbrev rmX9_burst : Room := { frames := 3, cells := 0, slots := 0, locals := 64 }
theorem ydX9_burst : yX9_burst.cls = RX9 ∧ yX9_burst.cls ≠ "java/lang/invoke/MethodHandle" ∧ yX9_burst.cls ≠ "java/lang/invoke/VarHandle" ∧ (parseMethodDescriptor yX9_burst.desc).map (fun d => d.parameters.length) = some 3 := by decide +kernel
noncomputable def J_X9_burst_65 (jl1_65 : Int32) (jl2_65 : Int32) (jl3_65 : Int32) (c_t_acts_j65 : Int32) (c_t_refused_j65 : Int32) (c_t_thrown_j65 : Int32) (f_t_forms_j65 : Nat → Int64) : Option (Int32 × Int32 × Int32 × Int32 × (Nat → Int64)) :=
 chk (¬ (jl1_65 < 0 ∨ 6 ≤ jl1_65.toNatClampNeg)) (
 chk (¬ (jl1_65 < 0 ∨ 6 ≤ jl1_65.toNatClampNeg)) (
 bnd (vp_updL f_t_forms_j65 jl1_65.toNatClampNeg ((f_t_forms_j65 jl1_65.toNatClampNeg) ^^^ (jl3_65.toInt64 <<< (jl2_65.toInt64 &&& 63)))) (fun f_t_forms_77 =>
 chk (¬ (jl1_65 < 0 ∨ 6 ≤ jl1_65.toNatClampNeg)) (
 obn (F_X9_onesOf (f_t_forms_77 jl1_65.toNatClampNeg)) (fun r85 =>
 obn2 (F_X9_done c_t_acts_j65 r85) (fun r88 c_t_acts_88 =>
 some (r88, c_t_acts_88, c_t_refused_j65, c_t_thrown_j65, f_t_forms_77)))))))
noncomputable def J_X9_burst_36 (jl1_36 : Int32) (jl2_36 : Int32) (jl3_36 : Int32) (js1_36 : Int32) (js2_36 : Int32) (c_t_acts_j36 : Int32) (c_t_refused_j36 : Int32) (c_t_thrown_j36 : Int32) (f_t_forms_j36 : Nat → Int64) : Option (Int32 × Int32 × Int32 × Int32 × (Nat → Int64)) :=
 obn2 (F_X9_isThrown js1_36 js2_36) (fun r36 c_t_thrown_36 =>
 (if r36 = 0 then
 (if jl3_36 ≤ 0 then
 J_X9_burst_65 jl1_36 jl2_36 jl3_36 c_t_acts_j36 c_t_refused_j36 c_t_thrown_36 f_t_forms_j36
else
 obn (F_X9_degreeOf jl3_36.toInt64) (fun r50 =>
 (if (r50 + jl2_36) < (40 : Int32) then
 J_X9_burst_65 jl1_36 jl2_36 jl3_36 c_t_acts_j36 c_t_refused_j36 c_t_thrown_36 f_t_forms_j36
else
 obn2 (F_X9_no c_t_refused_j36) (fun r61 c_t_refused_61 =>
 some (r61, c_t_acts_j36, c_t_refused_61, c_t_thrown_36, f_t_forms_j36)))))
else
 some ((0 : Int32), c_t_acts_j36, c_t_refused_j36, c_t_thrown_36, f_t_forms_j36)))
noncomputable def J_X9_burst_31 (jl1_31 : Int32) (jl2_31 : Int32) (jl3_31 : Int32) (js1_31 : Int32) (c_t_acts_j31 : Int32) (c_t_refused_j31 : Int32) (c_t_thrown_j31 : Int32) (f_t_forms_j31 : Nat → Int64) : Option (Int32 × Int32 × Int32 × Int32 × (Nat → Int64)) :=
 J_X9_burst_36 jl1_31 jl2_31 jl3_31 js1_31 (1 : Int32) c_t_acts_j31 c_t_refused_j31 c_t_thrown_j31 f_t_forms_j31
noncomputable def J_X9_burst_20 (jl1_20 : Int32) (jl2_20 : Int32) (jl3_20 : Int32) (js1_20 : Int32) (c_t_acts_j20 : Int32) (c_t_refused_j20 : Int32) (c_t_thrown_j20 : Int32) (f_t_forms_j20 : Nat → Int64) : Option (Int32 × Int32 × Int32 × Int32 × (Nat → Int64)) :=
 (if jl3_20 < 0 then
 J_X9_burst_31 jl1_20 jl2_20 jl3_20 js1_20 c_t_acts_j20 c_t_refused_j20 c_t_thrown_j20 f_t_forms_j20
else
 (if jl3_20 ≤ (4095 : Int32) then
 J_X9_burst_36 jl1_20 jl2_20 jl3_20 js1_20 (0 : Int32) c_t_acts_j20 c_t_refused_j20 c_t_thrown_j20 f_t_forms_j20
else
 J_X9_burst_31 jl1_20 jl2_20 jl3_20 js1_20 c_t_acts_j20 c_t_refused_j20 c_t_thrown_j20 f_t_forms_j20))
noncomputable def J_X9_burst_15 (jl1_15 : Int32) (jl2_15 : Int32) (jl3_15 : Int32) (c_t_acts_j15 : Int32) (c_t_refused_j15 : Int32) (c_t_thrown_j15 : Int32) (f_t_forms_j15 : Nat → Int64) : Option (Int32 × Int32 × Int32 × Int32 × (Nat → Int64)) :=
 J_X9_burst_20 jl1_15 jl2_15 jl3_15 (1 : Int32) c_t_acts_j15 c_t_refused_j15 c_t_thrown_j15 f_t_forms_j15
noncomputable def F_X9_burst (c_t_acts : Int32) (c_t_refused : Int32) (c_t_thrown : Int32) (f_t_forms : Nat → Int64) (p0 : Int32) (p1 : Int32) (p2 : Int32) : Option (Int32 × Int32 × Int32 × Int32 × (Nat → Int64)) :=
 obn (F_X9_isForm p0) (fun r2 =>
 (if r2 = 0 then
 J_X9_burst_15 p0 p1 p2 c_t_acts c_t_refused c_t_thrown f_t_forms
else
 obn (F_X9_isPlace p1) (fun r9 =>
 (if r9 = 0 then
 J_X9_burst_15 p0 p1 p2 c_t_acts c_t_refused c_t_thrown f_t_forms
else
 J_X9_burst_20 p0 p1 p2 (0 : Int32) c_t_acts c_t_refused c_t_thrown f_t_forms))))
set_option maxHeartbeats 4000000 in
set_option maxRecDepth 100000 in
theorem c_X9_burst (l : Launch) (D : va_G) (cyJ : ClassId) (sz : Nat) (a_t : Nat) (a_t_forms : Nat) (a_t_roll : Nat) (c_t_many : Int32) (c_t_taps : Int64) (c_t_cells : Int32) (c_t_acts : Int32) (c_t_refused : Int32) (c_t_knocks : Int32) (c_t_thrown : Int32) (f_t_forms : Nat → Int64) (p0 : Int32) (p1 : Int32) (p2 : Int32) (r0 : Int32) (o_c_t_acts : Int32) (o_c_t_refused : Int32) (o_c_t_thrown : Int32) (o_f_t_forms : Nat → Int64) (hF : F_X9_burst c_t_acts c_t_refused c_t_thrown f_t_forms p0 p1 p2 = some (r0, o_c_t_acts, o_c_t_refused, o_c_t_thrown, o_f_t_forms)) : Met l yX9_burst wsX9_burst rmX9_burst (va_Pc [.ref a_t, .int p0, .int p1, .int p2] (wPD D [(cyJ, .long)] [(a_t, .inr (8, [.ref a_t_forms, .ref a_t_roll, .int c_t_many, .long c_t_taps, .int c_t_cells, .int c_t_acts, .int c_t_refused, .int c_t_knocks, .int c_t_thrown])), (a_t_forms, .inl (cyJ, 6, .inr (.inl f_t_forms)))] sz)) (va_Qi (fun (r : Int32) (_ : Unit) => r = r0) (fun _ t => wQA D [(a_t, .inr (8, [.ref a_t_forms, .ref a_t_roll, .int c_t_many, .long c_t_taps, .int c_t_cells, .int o_c_t_acts, .int o_c_t_refused, .int c_t_knocks, .int o_c_t_thrown])), (a_t_forms, .inl (cyJ, 6, .inr (.inl o_f_t_forms)))] (va_A [(a_t, .inr (8, [.ref a_t_forms, .ref a_t_roll, .int c_t_many, .long c_t_taps, .int c_t_cells, .int c_t_acts, .int c_t_refused, .int c_t_knocks, .int c_t_thrown])), (a_t_forms, .inl (cyJ, 6, .inr (.inl f_t_forms)))] sz) t) (va_A [(a_t, .inr (8, [.ref a_t_forms, .ref a_t_roll, .int c_t_many, .long c_t_taps, .int c_t_cells, .int c_t_acts, .int c_t_refused, .int c_t_knocks, .int c_t_thrown])), (a_t_forms, .inl (cyJ, 6, .inr (.inl f_t_forms)))] sz)) 0 0 (va_A [(a_t, .inr (8, [.ref a_t_forms, .ref a_t_roll, .int c_t_many, .long c_t_taps, .int c_t_cells, .int c_t_acts, .int c_t_refused, .int c_t_knocks, .int c_t_thrown])), (a_t_forms, .inl (cyJ, 6, .inr (.inl f_t_forms)))] sz) := by
  refine Met.ofW (cc := cX9_burst) (maxL := 4) (ret := (some .int)) (by decide) rfl ?_
  intro p e s m args below meth c s₁ B hml hv
  obtain ⟨rfl, hsz, hP, hK, hD0, hnw⟩ := hv
  have hx := B.exec
  have hb := B.bytes
  have hr := B.returns
  have hts := atoms_spec (ws := wsX9_burst) B.pre
  have hown : s.vm.findClass RX9 = some m.cls := findClass_of_methodNamed B.named
  have hlocks := B.notSynchronized
  have hcf : CallFix _ _ _ _ _ _ _ _ _ := ⟨hx, hb, hml, hown, hts⟩
  have hinX9 : ∀ w ∈ u_ws RX9 TX9 9, w ∈ wsX9_burst := by decide +kernel
  have hfl9 := hts (.fieldLink RX9 9 "FormwheelModel" "forms" "[J") (by decide +kernel)
  subst hsz
  have hD := hD0.self (sz := s.heap.size)
  generalize hAe : va_A [(a_t, .inr (8, [.ref a_t_forms, .ref a_t_roll, .int c_t_many, .long c_t_taps, .int c_t_cells, .int c_t_acts, .int c_t_refused, .int c_t_knocks, .int c_t_thrown])), (a_t_forms, .inl (cyJ, 6, .inr (.inl f_t_forms)))] s.heap.size = A at hD ⊢
  have hA : ∀ q : Nat, s.heap.size ≤ q → A q := fun q h => by rw [← hAe]; exact Or.inr h
  have hS : va_S A s.heap s.heap [] := va_S.rf
  have hP : va_P D vwCl [(a_t, .inr (8, [.ref a_t_forms, .ref a_t_roll, .int c_t_many, .long c_t_taps, .int c_t_cells, .int c_t_acts, .int c_t_refused, .int c_t_knocks, .int c_t_thrown])), (a_t_forms, .inl (cyJ, 6, .inr (.inl f_t_forms)))] s.heap := hP
  have hK0 := hK
  have hl := lv_entry ([.ref a_t, .int p0, .int p1, .int p2]) (n := 4) (Nat.le_of_ble_eq_true rfl)
  rw [lg_entry_eq]
  generalize (lg_sl ([.ref a_t, .int p0, .int p1, .int p2]) ++ List.replicate (4 - (lg_sl ([.ref a_t, .int p0, .int p1, .int p2])).length) Slot.unset).toArray = ls at hl ⊢
  have hl : lv_has ls 4 [(0, .ref a_t), (1, .int p0), (2, .int p1), (3, .int p2)] := hl
  have h := hF
  clear hF
  unfold F_X9_burst at h
  have hj65 : ∀ (c_t_acts_j65 : Int32) (c_t_refused_j65 : Int32) (c_t_thrown_j65 : Int32) (f_t_forms_j65 : Nat → Int64), J_X9_burst_65 p0 p1 p2 c_t_acts_j65 c_t_refused_j65 c_t_thrown_j65 f_t_forms_j65 = some (r0, o_c_t_acts, o_c_t_refused, o_c_t_thrown, o_f_t_forms) → ∀ (H : Heap) (locs : List Loc), va_P D vwCl [(a_t, .inr (8, [.ref a_t_forms, .ref a_t_roll, .int c_t_many, .long c_t_taps, .int c_t_cells, .int c_t_acts_j65, .int c_t_refused_j65, .int c_t_knocks, .int c_t_thrown_j65])), (a_t_forms, .inl (cyJ, 6, .inr (.inl f_t_forms_j65)))] H → va_D A [(a_t, .inr (8, [.ref a_t_forms, .ref a_t_roll, .int c_t_many, .long c_t_taps, .int c_t_cells, .int c_t_acts_j65, .int c_t_refused_j65, .int c_t_knocks, .int c_t_thrown_j65])), (a_t_forms, .inl (cyJ, 6, .inr (.inl f_t_forms_j65)))] → va_S A s.heap H locs → ∀ (ls : Array Slot), lv_has ls 4 [(0, .ref a_t), (1, .int p0), (2, .int p1), (3, .int p2)] → W p l e rmX9_burst s m ([.ref a_t, .int p0, .int p1, .int p2] : List Value).toArray below meth c H locs 0 0 (MQ below (va_Qi (fun (r : Int32) (_ : Unit) => r = r0) (fun _ t => wQA D [(a_t, .inr (8, [.ref a_t_forms, .ref a_t_roll, .int c_t_many, .long c_t_taps, .int c_t_cells, .int o_c_t_acts, .int o_c_t_refused, .int c_t_knocks, .int o_c_t_thrown])), (a_t_forms, .inl (cyJ, 6, .inr (.inl o_f_t_forms)))] A t) A) ([.ref a_t, .int p0, .int p1, .int p2] : List Value).toArray s 0 0 A) (F0 m 65 ls []) := by
    intro c_t_acts_j65 c_t_refused_j65 c_t_thrown_j65 f_t_forms_j65 h H locs hP hD hS ls hl
    unfold J_X9_burst_65 at h
    refine lv_aload_n hx hb dX9_burst_65 rfl (lv_at hl 0 rfl) ?_
    refine va_get (D := D) (ci := 8) (v := .ref a_t_forms) (C := RX9) (T := TX9) (N := 9) hx hb hts hinX9 hown hK hP 0 rfl rfl 0 (by decide) hfl9 (fun _ h9 => h9) rfl dX9_burst_66 ?_
    refine lv_iload_n hx hb dX9_burst_69 rfl (lv_at hl 1 rfl) ?_
    refine lv_dup2_11 hx hb dX9_burst_70 rfl rfl ?_
    obtain ⟨hq71, h⟩ := chk_h h
    refine va_lald hx hb hK hP 1 0 rfl rfl hq71 dX9_burst_71 ?_
    refine lv_iload_n hx hb dX9_burst_72 rfl (lv_at hl 3 rfl) ?_
    refine lv_i2l (v := p2.toInt64) hx hb dX9_burst_73 rfl ?_
    refine lv_iload_n hx hb dX9_burst_74 rfl (lv_at hl 2 rfl) ?_
    refine lv_lshl (v := p2.toInt64 <<< (p1.toInt64 &&& 63)) hx hb dX9_burst_75 rfl ?_
    refine lv_lxor hx hb dX9_burst_76 ?_
    obtain ⟨hq77, h⟩ := chk_h h
    refine va_last hx hb hK hP hD hS 1 0 rfl rfl hq77 dX9_burst_77 (fun H locs hP hD hS => ?_)
    obtain ⟨f_t_forms_77, e_f_t_forms_77⟩ : ∃ z, z = vp_updL f_t_forms_j65 p0.toNatClampNeg ((f_t_forms_j65 p0.toNatClampNeg) ^^^ (p2.toInt64 <<< (p1.toInt64 &&& 63))) := ⟨_, rfl⟩
    have h := bnd_h e_f_t_forms_77 h
    have hP : va_P D vwCl [(a_t, .inr (8, [.ref a_t_forms, .ref a_t_roll, .int c_t_many, .long c_t_taps, .int c_t_cells, .int c_t_acts_j65, .int c_t_refused_j65, .int c_t_knocks, .int c_t_thrown_j65])), (a_t_forms, .inl (cyJ, 6, .inr (.inl f_t_forms_77)))] H := by rw [e_f_t_forms_77]; exact hP
    have hD : va_D A [(a_t, .inr (8, [.ref a_t_forms, .ref a_t_roll, .int c_t_many, .long c_t_taps, .int c_t_cells, .int c_t_acts_j65, .int c_t_refused_j65, .int c_t_knocks, .int c_t_thrown_j65])), (a_t_forms, .inl (cyJ, 6, .inr (.inl f_t_forms_77)))] := by rw [e_f_t_forms_77]; exact hD
    refine lv_aload_n hx hb dX9_burst_78 rfl (lv_at hl 0 rfl) ?_
    refine lv_aload_n hx hb dX9_burst_79 rfl (lv_at hl 0 rfl) ?_
    refine va_get (D := D) (ci := 8) (v := .ref a_t_forms) (C := RX9) (T := TX9) (N := 9) hx hb hts hinX9 hown hK hP 0 rfl rfl 0 (by decide) hfl9 (fun _ h9 => h9) rfl dX9_burst_80 ?_
    refine lv_iload_n hx hb dX9_burst_83 rfl (lv_at hl 1 rfl) ?_
    obtain ⟨hq84, h⟩ := chk_h h
    refine va_lald hx hb hK hP 1 0 rfl rfl hq84 dX9_burst_84 ?_
    obtain ⟨r85, hc85, h⟩ := obn_h h
    refine pz_callS (As := [.long (f_t_forms_77 p0.toNatClampNeg)]) (rest := [.ref a_t]) hcf (c_X9_onesOf l (f_t_forms_77 p0.toNatClampNeg) r85 hc85) (va_cwS 1 hts gX9_burst_X9_onesOf rfl rfl rfl ydX9_onesOf ⟨Nat.le_of_ble_eq_true rfl, Nat.le_of_ble_eq_true rfl⟩) hnw rfl hl.1 rfl (Nat.le_of_ble_eq_true rfl) dX9_burst_85 ⟨Nat.le_of_ble_eq_true rfl, Nat.le_of_ble_eq_true rfl⟩ ?_
    obtain ⟨r88, c_t_acts_88, hc88, h⟩ := obn2_h h
    have hPc := hP.sub (ws' := [(a_t, .inr (8, [.ref a_t_forms, .ref a_t_roll, .int c_t_many, .long c_t_taps, .int c_t_cells, .int c_t_acts_j65, .int c_t_refused_j65, .int c_t_knocks, .int c_t_thrown_j65]))]) [0] rfl
    have hDc := hD.sub (ws' := [(a_t, .inr (8, [.ref a_t_forms, .ref a_t_roll, .int c_t_many, .long c_t_taps, .int c_t_cells, .int c_t_acts_j65, .int c_t_refused_j65, .int c_t_knocks, .int c_t_thrown_j65]))]) [0] (by decide) rfl
    refine hp_i (w1 := [(a_t, .inr (8, [.ref a_t_forms, .ref a_t_roll, .int c_t_many, .long c_t_taps, .int c_t_cells, .int c_t_acts_88, .int c_t_refused_j65, .int c_t_knocks, .int c_t_thrown_j65]))]) (wr := [(a_t_forms, .inl (cyJ, 6, .inr (.inl f_t_forms_77)))]) (va_runV (As := [.int r85]) (rest := []) hcf (c_X9_done l D cyJ H.size a_t a_t_forms a_t_roll c_t_many c_t_taps c_t_cells c_t_acts_j65 c_t_refused_j65 c_t_knocks c_t_thrown_j65 r85 r88 c_t_acts_88 hc88) (cwV 1 hts gX9_burst_X9_done rfl rfl rfl ydX9_done ⟨Nat.le_of_ble_eq_true rfl, Nat.le_of_ble_eq_true rfl⟩) ⟨bl_PD, va_recv hK hP (ci := 8) (q0 := 0) rfl rfl, pr_PD hPc hK0 hDc hnw⟩ rfl rfl hl.1 rfl (lv_room (Nat.le_of_ble_eq_true rfl)) dX9_burst_88 ⟨Nat.le_of_ble_eq_true rfl, Nat.le_of_ble_eq_true rfl⟩) hP hD hS hA [0] [1] rfl rfl (by decide) (by decide) (fun H locs hP hD hS => ?_)
    have hP : va_P D vwCl [(a_t_forms, .inl (cyJ, 6, .inr (.inl f_t_forms_77))), (a_t, .inr (8, [.ref a_t_forms, .ref a_t_roll, .int c_t_many, .long c_t_taps, .int c_t_cells, .int c_t_acts_88, .int c_t_refused_j65, .int c_t_knocks, .int c_t_thrown_j65]))] H := hP
    have hD : va_D A [(a_t_forms, .inl (cyJ, 6, .inr (.inl f_t_forms_77))), (a_t, .inr (8, [.ref a_t_forms, .ref a_t_roll, .int c_t_many, .long c_t_taps, .int c_t_cells, .int c_t_acts_88, .int c_t_refused_j65, .int c_t_knocks, .int c_t_thrown_j65]))] := hD
    obtain ⟨e0, e1, e2, e3, e4⟩ := tup5 h
    subst e0
    subst e1
    subst e2
    subst e3
    subst e4
    have hP9 : va_P D vwCl [(a_t, .inr (8, [.ref a_t_forms, .ref a_t_roll, .int c_t_many, .long c_t_taps, .int c_t_cells, .int c_t_acts_88, .int c_t_refused_j65, .int c_t_knocks, .int c_t_thrown_j65])), (a_t_forms, .inl (cyJ, 6, .inr (.inl f_t_forms_77)))] H := hP.sub [1, 0] rfl
    have hD9 : va_D A [(a_t, .inr (8, [.ref a_t_forms, .ref a_t_roll, .int c_t_many, .long c_t_taps, .int c_t_cells, .int c_t_acts_88, .int c_t_refused_j65, .int c_t_knocks, .int c_t_thrown_j65])), (a_t_forms, .inl (cyJ, 6, .inr (.inl f_t_forms_77)))] := hD.sub [1, 0] (by decide) rfl
    exact W.iret hx hb hr (fun t ht hW => ⟨⟨_, (), rfl, rfl, wQA_of ht hP9 hD9⟩, hS.F ht⟩) hS.2.2 dX9_burst_91
  have hj36 : ∀ (js1_36 : Int32) (js2_36 : Int32) (c_t_acts_j36 : Int32) (c_t_refused_j36 : Int32) (c_t_thrown_j36 : Int32) (f_t_forms_j36 : Nat → Int64), J_X9_burst_36 p0 p1 p2 js1_36 js2_36 c_t_acts_j36 c_t_refused_j36 c_t_thrown_j36 f_t_forms_j36 = some (r0, o_c_t_acts, o_c_t_refused, o_c_t_thrown, o_f_t_forms) → ∀ (H : Heap) (locs : List Loc), va_P D vwCl [(a_t, .inr (8, [.ref a_t_forms, .ref a_t_roll, .int c_t_many, .long c_t_taps, .int c_t_cells, .int c_t_acts_j36, .int c_t_refused_j36, .int c_t_knocks, .int c_t_thrown_j36])), (a_t_forms, .inl (cyJ, 6, .inr (.inl f_t_forms_j36)))] H → va_D A [(a_t, .inr (8, [.ref a_t_forms, .ref a_t_roll, .int c_t_many, .long c_t_taps, .int c_t_cells, .int c_t_acts_j36, .int c_t_refused_j36, .int c_t_knocks, .int c_t_thrown_j36])), (a_t_forms, .inl (cyJ, 6, .inr (.inl f_t_forms_j36)))] → va_S A s.heap H locs → ∀ (ls : Array Slot), lv_has ls 4 [(0, .ref a_t), (1, .int p0), (2, .int p1), (3, .int p2)] → W p l e rmX9_burst s m ([.ref a_t, .int p0, .int p1, .int p2] : List Value).toArray below meth c H locs 0 0 (MQ below (va_Qi (fun (r : Int32) (_ : Unit) => r = r0) (fun _ t => wQA D [(a_t, .inr (8, [.ref a_t_forms, .ref a_t_roll, .int c_t_many, .long c_t_taps, .int c_t_cells, .int o_c_t_acts, .int o_c_t_refused, .int c_t_knocks, .int o_c_t_thrown])), (a_t_forms, .inl (cyJ, 6, .inr (.inl o_f_t_forms)))] A t) A) ([.ref a_t, .int p0, .int p1, .int p2] : List Value).toArray s 0 0 A) (F0 m 36 ls [.int js2_36, .int js1_36, .ref a_t]) := by
    intro js1_36 js2_36 c_t_acts_j36 c_t_refused_j36 c_t_thrown_j36 f_t_forms_j36 h H locs hP hD hS ls hl
    unfold J_X9_burst_36 at h
    obtain ⟨r36, c_t_thrown_36, hc36, h⟩ := obn2_h h
    have hPc := hP.sub (ws' := [(a_t, .inr (8, [.ref a_t_forms, .ref a_t_roll, .int c_t_many, .long c_t_taps, .int c_t_cells, .int c_t_acts_j36, .int c_t_refused_j36, .int c_t_knocks, .int c_t_thrown_j36]))]) [0] rfl
    have hDc := hD.sub (ws' := [(a_t, .inr (8, [.ref a_t_forms, .ref a_t_roll, .int c_t_many, .long c_t_taps, .int c_t_cells, .int c_t_acts_j36, .int c_t_refused_j36, .int c_t_knocks, .int c_t_thrown_j36]))]) [0] (by decide) rfl
    refine hp_i (w1 := [(a_t, .inr (8, [.ref a_t_forms, .ref a_t_roll, .int c_t_many, .long c_t_taps, .int c_t_cells, .int c_t_acts_j36, .int c_t_refused_j36, .int c_t_knocks, .int c_t_thrown_36]))]) (wr := [(a_t_forms, .inl (cyJ, 6, .inr (.inl f_t_forms_j36)))]) (va_runV (As := [.int js1_36, .int js2_36]) (rest := []) hcf (c_X9_isThrown l D cyJ H.size a_t a_t_forms a_t_roll c_t_many c_t_taps c_t_cells c_t_acts_j36 c_t_refused_j36 c_t_knocks c_t_thrown_j36 js1_36 js2_36 r36 c_t_thrown_36 hc36) (cwV 2 hts gX9_burst_X9_isThrown rfl rfl rfl ydX9_isThrown ⟨Nat.le_of_ble_eq_true rfl, Nat.le_of_ble_eq_true rfl⟩) ⟨bl_PD, va_recv hK hP (ci := 8) (q0 := 0) rfl rfl, pr_PD hPc hK0 hDc hnw⟩ rfl rfl hl.1 rfl (lv_room (Nat.le_of_ble_eq_true rfl)) dX9_burst_36 ⟨Nat.le_of_ble_eq_true rfl, Nat.le_of_ble_eq_true rfl⟩) hP hD hS hA [0] [1] rfl rfl (by decide) (by decide) (fun H locs hP hD hS => ?_)
    have hP : va_P D vwCl [(a_t_forms, .inl (cyJ, 6, .inr (.inl f_t_forms_j36))), (a_t, .inr (8, [.ref a_t_forms, .ref a_t_roll, .int c_t_many, .long c_t_taps, .int c_t_cells, .int c_t_acts_j36, .int c_t_refused_j36, .int c_t_knocks, .int c_t_thrown_36]))] H := hP
    have hD : va_D A [(a_t_forms, .inl (cyJ, 6, .inr (.inl f_t_forms_j36))), (a_t, .inr (8, [.ref a_t_forms, .ref a_t_roll, .int c_t_many, .long c_t_taps, .int c_t_cells, .int c_t_acts_j36, .int c_t_refused_j36, .int c_t_knocks, .int c_t_thrown_36]))] := hD
    refine lv_if_eq (tgt := 44) hx hb dX9_burst_39 (by decide) (fun c39 => ?_) (fun c39 => ?_)
    · have h := it_ c39 h
      refine lv_iload_n hx hb dX9_burst_44 rfl (lv_at hl 3 rfl) ?_
      refine lv_if_le (tgt := 65) hx hb dX9_burst_45 (by decide) (fun c45 => ?_) (fun c45 => ?_)
      · have h := it_ c45 h
        exact hj65 c_t_acts_j36 c_t_refused_j36 c_t_thrown_36 f_t_forms_j36 h _ _ (hP.sub [1, 0] rfl) (hD.sub [1, 0] (by decide) rfl) hS ls (lv_sub hl [0, 1, 2, 3] rfl)
      · have h := if_ c45 h
        refine lv_iload_n hx hb dX9_burst_48 rfl (lv_at hl 3 rfl) ?_
        refine lv_i2l (v := p2.toInt64) hx hb dX9_burst_49 rfl ?_
        obtain ⟨r50, hc50, h⟩ := obn_h h
        refine pz_callS (As := [.long p2.toInt64]) (rest := []) hcf (c_X9_degreeOf l p2.toInt64 r50 hc50) (va_cwS 1 hts gX9_burst_X9_degreeOf rfl rfl rfl ydX9_degreeOf ⟨Nat.le_of_ble_eq_true rfl, Nat.le_of_ble_eq_true rfl⟩) hnw rfl hl.1 rfl (Nat.le_of_ble_eq_true rfl) dX9_burst_50 ⟨Nat.le_of_ble_eq_true rfl, Nat.le_of_ble_eq_true rfl⟩ ?_
        refine lv_iload_n hx hb dX9_burst_53 rfl (lv_at hl 2 rfl) ?_
        refine lv_iadd hx hb dX9_burst_54 ?_
        refine lv_bipush (v := 40) hx hb dX9_burst_55 (by decide) ?_
        refine lv_icmp_lt (tgt := 65) hx hb dX9_burst_57 (by decide) (fun c57 => ?_) (fun c57 => ?_)
        · have h := it_ c57 h
          exact hj65 c_t_acts_j36 c_t_refused_j36 c_t_thrown_36 f_t_forms_j36 h _ _ (hP.sub [1, 0] rfl) (hD.sub [1, 0] (by decide) rfl) hS ls (lv_sub hl [0, 1, 2, 3] rfl)
        · have h := if_ c57 h
          refine lv_aload_n hx hb dX9_burst_60 rfl (lv_at hl 0 rfl) ?_
          obtain ⟨r61, c_t_refused_61, hc61, h⟩ := obn2_h h
          have hPc := hP.sub (ws' := [(a_t, .inr (8, [.ref a_t_forms, .ref a_t_roll, .int c_t_many, .long c_t_taps, .int c_t_cells, .int c_t_acts_j36, .int c_t_refused_j36, .int c_t_knocks, .int c_t_thrown_36]))]) [1] rfl
          have hDc := hD.sub (ws' := [(a_t, .inr (8, [.ref a_t_forms, .ref a_t_roll, .int c_t_many, .long c_t_taps, .int c_t_cells, .int c_t_acts_j36, .int c_t_refused_j36, .int c_t_knocks, .int c_t_thrown_36]))]) [1] (by decide) rfl
          refine hp_i (w1 := [(a_t, .inr (8, [.ref a_t_forms, .ref a_t_roll, .int c_t_many, .long c_t_taps, .int c_t_cells, .int c_t_acts_j36, .int c_t_refused_61, .int c_t_knocks, .int c_t_thrown_36]))]) (wr := [(a_t_forms, .inl (cyJ, 6, .inr (.inl f_t_forms_j36)))]) (va_runV (As := []) (rest := []) hcf (c_X9_no l D cyJ H.size a_t a_t_forms a_t_roll c_t_many c_t_taps c_t_cells c_t_acts_j36 c_t_refused_j36 c_t_knocks c_t_thrown_36 r61 c_t_refused_61 hc61) (cwV 0 hts gX9_burst_X9_no rfl rfl rfl ydX9_no ⟨Nat.le_of_ble_eq_true rfl, Nat.le_of_ble_eq_true rfl⟩) ⟨bl_PD, va_recv hK hP (ci := 8) (q0 := 1) rfl rfl, pr_PD hPc hK0 hDc hnw⟩ rfl rfl hl.1 rfl (lv_room (Nat.le_of_ble_eq_true rfl)) dX9_burst_61 ⟨Nat.le_of_ble_eq_true rfl, Nat.le_of_ble_eq_true rfl⟩) hP hD hS hA [1] [0] rfl rfl (by decide) (by decide) (fun H locs hP hD hS => ?_)
          have hP : va_P D vwCl [(a_t_forms, .inl (cyJ, 6, .inr (.inl f_t_forms_j36))), (a_t, .inr (8, [.ref a_t_forms, .ref a_t_roll, .int c_t_many, .long c_t_taps, .int c_t_cells, .int c_t_acts_j36, .int c_t_refused_61, .int c_t_knocks, .int c_t_thrown_36]))] H := hP
          have hD : va_D A [(a_t_forms, .inl (cyJ, 6, .inr (.inl f_t_forms_j36))), (a_t, .inr (8, [.ref a_t_forms, .ref a_t_roll, .int c_t_many, .long c_t_taps, .int c_t_cells, .int c_t_acts_j36, .int c_t_refused_61, .int c_t_knocks, .int c_t_thrown_36]))] := hD
          obtain ⟨e0, e1, e2, e3, e4⟩ := tup5 h
          subst e0
          subst e1
          subst e2
          subst e3
          subst e4
          have hP9 : va_P D vwCl [(a_t, .inr (8, [.ref a_t_forms, .ref a_t_roll, .int c_t_many, .long c_t_taps, .int c_t_cells, .int c_t_acts_j36, .int c_t_refused_61, .int c_t_knocks, .int c_t_thrown_36])), (a_t_forms, .inl (cyJ, 6, .inr (.inl f_t_forms_j36)))] H := hP.sub [1, 0] rfl
          have hD9 : va_D A [(a_t, .inr (8, [.ref a_t_forms, .ref a_t_roll, .int c_t_many, .long c_t_taps, .int c_t_cells, .int c_t_acts_j36, .int c_t_refused_61, .int c_t_knocks, .int c_t_thrown_36])), (a_t_forms, .inl (cyJ, 6, .inr (.inl f_t_forms_j36)))] := hD.sub [1, 0] (by decide) rfl
          exact W.iret hx hb hr (fun t ht hW => ⟨⟨_, (), rfl, rfl, wQA_of ht hP9 hD9⟩, hS.F ht⟩) hS.2.2 dX9_burst_64
    · have h := if_ c39 h
      refine lv_iconst (v := 0) hx hb dX9_burst_42 (by decide) ?_
      obtain ⟨e0, e1, e2, e3, e4⟩ := tup5 h
      subst e0
      subst e1
      subst e2
      subst e3
      subst e4
      have hP9 : va_P D vwCl [(a_t, .inr (8, [.ref a_t_forms, .ref a_t_roll, .int c_t_many, .long c_t_taps, .int c_t_cells, .int c_t_acts_j36, .int c_t_refused_j36, .int c_t_knocks, .int c_t_thrown_36])), (a_t_forms, .inl (cyJ, 6, .inr (.inl f_t_forms_j36)))] H := hP.sub [1, 0] rfl
      have hD9 : va_D A [(a_t, .inr (8, [.ref a_t_forms, .ref a_t_roll, .int c_t_many, .long c_t_taps, .int c_t_cells, .int c_t_acts_j36, .int c_t_refused_j36, .int c_t_knocks, .int c_t_thrown_36])), (a_t_forms, .inl (cyJ, 6, .inr (.inl f_t_forms_j36)))] := hD.sub [1, 0] (by decide) rfl
      exact W.iret hx hb hr (fun t ht hW => ⟨⟨_, (), rfl, rfl, wQA_of ht hP9 hD9⟩, hS.F ht⟩) hS.2.2 dX9_burst_43
  have hj31 : ∀ (js1_31 : Int32) (c_t_acts_j31 : Int32) (c_t_refused_j31 : Int32) (c_t_thrown_j31 : Int32) (f_t_forms_j31 : Nat → Int64), J_X9_burst_31 p0 p1 p2 js1_31 c_t_acts_j31 c_t_refused_j31 c_t_thrown_j31 f_t_forms_j31 = some (r0, o_c_t_acts, o_c_t_refused, o_c_t_thrown, o_f_t_forms) → ∀ (H : Heap) (locs : List Loc), va_P D vwCl [(a_t, .inr (8, [.ref a_t_forms, .ref a_t_roll, .int c_t_many, .long c_t_taps, .int c_t_cells, .int c_t_acts_j31, .int c_t_refused_j31, .int c_t_knocks, .int c_t_thrown_j31])), (a_t_forms, .inl (cyJ, 6, .inr (.inl f_t_forms_j31)))] H → va_D A [(a_t, .inr (8, [.ref a_t_forms, .ref a_t_roll, .int c_t_many, .long c_t_taps, .int c_t_cells, .int c_t_acts_j31, .int c_t_refused_j31, .int c_t_knocks, .int c_t_thrown_j31])), (a_t_forms, .inl (cyJ, 6, .inr (.inl f_t_forms_j31)))] → va_S A s.heap H locs → ∀ (ls : Array Slot), lv_has ls 4 [(0, .ref a_t), (1, .int p0), (2, .int p1), (3, .int p2)] → W p l e rmX9_burst s m ([.ref a_t, .int p0, .int p1, .int p2] : List Value).toArray below meth c H locs 0 0 (MQ below (va_Qi (fun (r : Int32) (_ : Unit) => r = r0) (fun _ t => wQA D [(a_t, .inr (8, [.ref a_t_forms, .ref a_t_roll, .int c_t_many, .long c_t_taps, .int c_t_cells, .int o_c_t_acts, .int o_c_t_refused, .int c_t_knocks, .int o_c_t_thrown])), (a_t_forms, .inl (cyJ, 6, .inr (.inl o_f_t_forms)))] A t) A) ([.ref a_t, .int p0, .int p1, .int p2] : List Value).toArray s 0 0 A) (F0 m 31 ls [.int js1_31, .ref a_t]) := by
    intro js1_31 c_t_acts_j31 c_t_refused_j31 c_t_thrown_j31 f_t_forms_j31 h H locs hP hD hS ls hl
    unfold J_X9_burst_31 at h
    refine lv_iconst (v := 1) hx hb dX9_burst_31 (by decide) ?_
    refine lv_goto (tgt := 36) hx hb dX9_burst_32 (by decide) ?_
    exact hj36 js1_31 (1 : Int32) c_t_acts_j31 c_t_refused_j31 c_t_thrown_j31 f_t_forms_j31 h _ _ (hP.sub [0, 1] rfl) (hD.sub [0, 1] (by decide) rfl) hS ls (lv_sub hl [0, 1, 2, 3] rfl)
  have hj20 : ∀ (js1_20 : Int32) (c_t_acts_j20 : Int32) (c_t_refused_j20 : Int32) (c_t_thrown_j20 : Int32) (f_t_forms_j20 : Nat → Int64), J_X9_burst_20 p0 p1 p2 js1_20 c_t_acts_j20 c_t_refused_j20 c_t_thrown_j20 f_t_forms_j20 = some (r0, o_c_t_acts, o_c_t_refused, o_c_t_thrown, o_f_t_forms) → ∀ (H : Heap) (locs : List Loc), va_P D vwCl [(a_t, .inr (8, [.ref a_t_forms, .ref a_t_roll, .int c_t_many, .long c_t_taps, .int c_t_cells, .int c_t_acts_j20, .int c_t_refused_j20, .int c_t_knocks, .int c_t_thrown_j20])), (a_t_forms, .inl (cyJ, 6, .inr (.inl f_t_forms_j20)))] H → va_D A [(a_t, .inr (8, [.ref a_t_forms, .ref a_t_roll, .int c_t_many, .long c_t_taps, .int c_t_cells, .int c_t_acts_j20, .int c_t_refused_j20, .int c_t_knocks, .int c_t_thrown_j20])), (a_t_forms, .inl (cyJ, 6, .inr (.inl f_t_forms_j20)))] → va_S A s.heap H locs → ∀ (ls : Array Slot), lv_has ls 4 [(0, .ref a_t), (1, .int p0), (2, .int p1), (3, .int p2)] → W p l e rmX9_burst s m ([.ref a_t, .int p0, .int p1, .int p2] : List Value).toArray below meth c H locs 0 0 (MQ below (va_Qi (fun (r : Int32) (_ : Unit) => r = r0) (fun _ t => wQA D [(a_t, .inr (8, [.ref a_t_forms, .ref a_t_roll, .int c_t_many, .long c_t_taps, .int c_t_cells, .int o_c_t_acts, .int o_c_t_refused, .int c_t_knocks, .int o_c_t_thrown])), (a_t_forms, .inl (cyJ, 6, .inr (.inl o_f_t_forms)))] A t) A) ([.ref a_t, .int p0, .int p1, .int p2] : List Value).toArray s 0 0 A) (F0 m 20 ls [.int js1_20, .ref a_t]) := by
    intro js1_20 c_t_acts_j20 c_t_refused_j20 c_t_thrown_j20 f_t_forms_j20 h H locs hP hD hS ls hl
    unfold J_X9_burst_20 at h
    refine lv_iload_n hx hb dX9_burst_20 rfl (lv_at hl 3 rfl) ?_
    refine lv_if_lt (tgt := 31) hx hb dX9_burst_21 (by decide) (fun c21 => ?_) (fun c21 => ?_)
    · have h := it_ c21 h
      exact hj31 js1_20 c_t_acts_j20 c_t_refused_j20 c_t_thrown_j20 f_t_forms_j20 h _ _ (hP.sub [0, 1] rfl) (hD.sub [0, 1] (by decide) rfl) hS ls (lv_sub hl [0, 1, 2, 3] rfl)
    · have h := if_ c21 h
      refine lv_iload_n hx hb dX9_burst_24 rfl (lv_at hl 3 rfl) ?_
      refine lv_sipush (v := 4095) hx hb dX9_burst_25 (by decide) ?_
      refine lv_icmp_le (tgt := 35) hx hb dX9_burst_28 (by decide) (fun c28 => ?_) (fun c28 => ?_)
      · have h := it_ c28 h
        refine lv_iconst (v := 0) hx hb dX9_burst_35 (by decide) ?_
        exact hj36 js1_20 (0 : Int32) c_t_acts_j20 c_t_refused_j20 c_t_thrown_j20 f_t_forms_j20 h _ _ (hP.sub [0, 1] rfl) (hD.sub [0, 1] (by decide) rfl) hS ls (lv_sub hl [0, 1, 2, 3] rfl)
      · have h := if_ c28 h
        exact hj31 js1_20 c_t_acts_j20 c_t_refused_j20 c_t_thrown_j20 f_t_forms_j20 h _ _ (hP.sub [0, 1] rfl) (hD.sub [0, 1] (by decide) rfl) hS ls (lv_sub hl [0, 1, 2, 3] rfl)
  have hj15 : ∀ (c_t_acts_j15 : Int32) (c_t_refused_j15 : Int32) (c_t_thrown_j15 : Int32) (f_t_forms_j15 : Nat → Int64), J_X9_burst_15 p0 p1 p2 c_t_acts_j15 c_t_refused_j15 c_t_thrown_j15 f_t_forms_j15 = some (r0, o_c_t_acts, o_c_t_refused, o_c_t_thrown, o_f_t_forms) → ∀ (H : Heap) (locs : List Loc), va_P D vwCl [(a_t, .inr (8, [.ref a_t_forms, .ref a_t_roll, .int c_t_many, .long c_t_taps, .int c_t_cells, .int c_t_acts_j15, .int c_t_refused_j15, .int c_t_knocks, .int c_t_thrown_j15])), (a_t_forms, .inl (cyJ, 6, .inr (.inl f_t_forms_j15)))] H → va_D A [(a_t, .inr (8, [.ref a_t_forms, .ref a_t_roll, .int c_t_many, .long c_t_taps, .int c_t_cells, .int c_t_acts_j15, .int c_t_refused_j15, .int c_t_knocks, .int c_t_thrown_j15])), (a_t_forms, .inl (cyJ, 6, .inr (.inl f_t_forms_j15)))] → va_S A s.heap H locs → ∀ (ls : Array Slot), lv_has ls 4 [(0, .ref a_t), (1, .int p0), (2, .int p1), (3, .int p2)] → W p l e rmX9_burst s m ([.ref a_t, .int p0, .int p1, .int p2] : List Value).toArray below meth c H locs 0 0 (MQ below (va_Qi (fun (r : Int32) (_ : Unit) => r = r0) (fun _ t => wQA D [(a_t, .inr (8, [.ref a_t_forms, .ref a_t_roll, .int c_t_many, .long c_t_taps, .int c_t_cells, .int o_c_t_acts, .int o_c_t_refused, .int c_t_knocks, .int o_c_t_thrown])), (a_t_forms, .inl (cyJ, 6, .inr (.inl o_f_t_forms)))] A t) A) ([.ref a_t, .int p0, .int p1, .int p2] : List Value).toArray s 0 0 A) (F0 m 15 ls [.ref a_t]) := by
    intro c_t_acts_j15 c_t_refused_j15 c_t_thrown_j15 f_t_forms_j15 h H locs hP hD hS ls hl
    unfold J_X9_burst_15 at h
    refine lv_iconst (v := 1) hx hb dX9_burst_15 (by decide) ?_
    refine lv_goto (tgt := 20) hx hb dX9_burst_16 (by decide) ?_
    exact hj20 (1 : Int32) c_t_acts_j15 c_t_refused_j15 c_t_thrown_j15 f_t_forms_j15 h _ _ (hP.sub [0, 1] rfl) (hD.sub [0, 1] (by decide) rfl) hS ls (lv_sub hl [0, 1, 2, 3] rfl)
  refine lv_aload_n hx hb dX9_burst_0 rfl (lv_at hl 0 rfl) ?_
  refine lv_iload_n hx hb dX9_burst_1 rfl (lv_at hl 1 rfl) ?_
  obtain ⟨r2, hc2, h⟩ := obn_h h
  refine pz_callS (As := [.int p0]) (rest := [.ref a_t]) hcf (c_X9_isForm l p0 r2 hc2) (va_cwS 1 hts gX9_burst_X9_isForm rfl rfl rfl ydX9_isForm ⟨Nat.le_of_ble_eq_true rfl, Nat.le_of_ble_eq_true rfl⟩) hnw rfl hl.1 rfl (Nat.le_of_ble_eq_true rfl) dX9_burst_2 ⟨Nat.le_of_ble_eq_true rfl, Nat.le_of_ble_eq_true rfl⟩ ?_
  refine lv_if_eq (tgt := 15) hx hb dX9_burst_5 (by decide) (fun c5 => ?_) (fun c5 => ?_)
  · have h := it_ c5 h
    exact hj15 c_t_acts c_t_refused c_t_thrown f_t_forms h _ _ (hP.sub [0, 1] rfl) (hD.sub [0, 1] (by decide) rfl) hS ls (lv_sub hl [0, 1, 2, 3] rfl)
  · have h := if_ c5 h
    refine lv_iload_n hx hb dX9_burst_8 rfl (lv_at hl 2 rfl) ?_
    obtain ⟨r9, hc9, h⟩ := obn_h h
    refine pz_callS (As := [.int p1]) (rest := [.ref a_t]) hcf (c_X9_isPlace l p1 r9 hc9) (va_cwS 1 hts gX9_burst_X9_isPlace rfl rfl rfl ydX9_isPlace ⟨Nat.le_of_ble_eq_true rfl, Nat.le_of_ble_eq_true rfl⟩) hnw rfl hl.1 rfl (Nat.le_of_ble_eq_true rfl) dX9_burst_9 ⟨Nat.le_of_ble_eq_true rfl, Nat.le_of_ble_eq_true rfl⟩ ?_
    refine lv_if_ne (tgt := 19) hx hb dX9_burst_12 (by decide) (fun c12 => ?_) (fun c12 => ?_)
    · have h := if_ c12 h
      refine lv_iconst (v := 0) hx hb dX9_burst_19 (by decide) ?_
      exact hj20 (0 : Int32) c_t_acts c_t_refused c_t_thrown f_t_forms h _ _ (hP.sub [0, 1] rfl) (hD.sub [0, 1] (by decide) rfl) hS ls (lv_sub hl [0, 1, 2, 3] rfl)
    · have h := it_ c12 h
      exact hj15 c_t_acts c_t_refused c_t_thrown f_t_forms h _ _ (hP.sub [0, 1] rfl) (hD.sub [0, 1] (by decide) rfl) hS ls (lv_sub hl [0, 1, 2, 3] rfl)

noncomputable abbrev rmX9_factor : Room := { frames := 6, cells := 0, slots := 0, locals := 139 }
theorem ydX9_factor : yX9_factor.cls = RX9 ∧ yX9_factor.cls ≠ "java/lang/invoke/MethodHandle" ∧ yX9_factor.cls ≠ "java/lang/invoke/VarHandle" ∧ (parseMethodDescriptor yX9_factor.desc).map (fun d => d.parameters.length) = some 2 := by decide +kernel
noncomputable def S_X9_factor_79 (k125 : Int32 → (Nat → Int64) → Option (Int32 × Int32 × Int32 × Int32 × Int32 × (Nat → Int64))) (ih79 : Int64 → Int32 → (Nat → Int64) → Option (Int32 × Int32 × Int32 × Int32 × Int32 × (Nat → Int64))) (y3_79 : Int64) (c_t_many_79 : Int32) (f_t_roll_79 : Nat → Int64) : Option (Int32 × Int32 × Int32 × Int32 × Int32 × (Nat → Int64)) :=
 obn (F_X9_degreeOf y3_79) (fun r80 =>
 (if r80 ≤ 0 then
 k125 c_t_many_79 f_t_roll_79
else
 bnd (c_t_many_79 + (1 : Int32)) (fun c_t_many_98 =>
 obn (F_X9_least y3_79) (fun r102 =>
 chk (¬ (c_t_many_79 < 0 ∨ 12 ≤ c_t_many_79.toNatClampNeg)) (
 bnd (vp_updL f_t_roll_79 c_t_many_79.toNatClampNeg r102) (fun f_t_roll_105 =>
 chk (¬ ((c_t_many_98 - (1 : Int32)) < 0 ∨ 12 ≤ (c_t_many_98 - (1 : Int32)).toNatClampNeg)) (
 obn (F_X9_quotientOf y3_79 (f_t_roll_105 (c_t_many_98 - (1 : Int32)).toNatClampNeg)) (fun r118 =>
 ih79 r118 c_t_many_98 f_t_roll_105))))))))
noncomputable def S_X9_factor_132 (c_t_many_z132 : Int32) (k192 : (Nat → Int64) → Option (Int32 × Int32 × Int32 × Int32 × Int32 × (Nat → Int64))) (ih132 : Int32 → (Nat → Int64) → Option (Int32 × Int32 × Int32 × Int32 × Int32 × (Nat → Int64))) (y3_132 : Int32) (f_t_roll_132 : Nat → Int64) : Option (Int32 × Int32 × Int32 × Int32 × Int32 × (Nat → Int64)) :=
 (if ((c_t_many_z132 - (1 : Int32)) - y3_132) ≤ y3_132 then
 k192 f_t_roll_132
else
 chk (¬ (y3_132 < 0 ∨ 12 ≤ y3_132.toNatClampNeg)) (
 bnd (f_t_roll_132 y3_132.toNatClampNeg) (fun x4_150 =>
 chk (¬ (((c_t_many_z132 - (1 : Int32)) - y3_132) < 0 ∨ 12 ≤ ((c_t_many_z132 - (1 : Int32)) - y3_132).toNatClampNeg)) (
 chk (¬ (y3_132 < 0 ∨ 12 ≤ y3_132.toNatClampNeg)) (
 bnd (vp_updL f_t_roll_132 y3_132.toNatClampNeg (f_t_roll_132 ((c_t_many_z132 - (1 : Int32)) - y3_132).toNatClampNeg)) (fun f_t_roll_170 =>
 chk (¬ (((c_t_many_z132 - (1 : Int32)) - y3_132) < 0 ∨ 12 ≤ ((c_t_many_z132 - (1 : Int32)) - y3_132).toNatClampNeg)) (
 bnd (vp_updL f_t_roll_170 ((c_t_many_z132 - (1 : Int32)) - y3_132).toNatClampNeg x4_150) (fun f_t_roll_185 =>
 bnd (y3_132 + 1) (fun x3_186 =>
 ih132 x3_186 f_t_roll_185)))))))))
noncomputable def J_X9_factor_27 (jl1_27 : Int32) (jl2_27 : Int32) (f_t_forms_jz27 : Nat → Int64) (js1_27 : Int32) (js2_27 : Int32) (c_t_many_j27 : Int32) (c_t_acts_j27 : Int32) (c_t_refused_j27 : Int32) (c_t_thrown_j27 : Int32) (f_t_roll_j27 : Nat → Int64) : Option (Int32 × Int32 × Int32 × Int32 × Int32 × (Nat → Int64)) :=
 obn2 (F_X9_isThrown js1_27 js2_27) (fun r27 c_t_thrown_27 =>
 (if r27 = 0 then
 chk (¬ (jl1_27 < 0 ∨ 6 ≤ jl1_27.toNatClampNeg)) (
 obn (F_X9_degreeOf (f_t_forms_jz27 jl1_27.toNatClampNeg)) (fun r41 =>
 (if r41 < (1 : Int32) then
 obn2 (F_X9_no c_t_refused_j27) (fun r63 c_t_refused_63 =>
 some (r63, c_t_many_j27, c_t_acts_j27, c_t_refused_63, c_t_thrown_27, f_t_roll_j27))
else
 chk (¬ (jl1_27 < 0 ∨ 6 ≤ jl1_27.toNatClampNeg)) (
 obn (F_X9_degreeOf (f_t_forms_jz27 jl1_27.toNatClampNeg)) (fun r54 =>
 (if r54 ≤ (10 : Int32) then
 chk (¬ (jl1_27 < 0 ∨ 6 ≤ jl1_27.toNatClampNeg)) (
 bnd (f_t_forms_jz27 jl1_27.toNatClampNeg) (fun x3_78 =>
 LQ3 (S_X9_factor_79 (fun c_t_many_79_125 f_t_roll_79_125 =>
 (if jl2_27 = (1 : Int32) then
 LQ2 (S_X9_factor_132 c_t_many_79_125 (fun f_t_roll_132_192 =>
 obn2 (F_X9_done c_t_acts_j27 c_t_many_79_125) (fun r197 c_t_acts_197 =>
 some (r197, c_t_many_79_125, c_t_acts_197, c_t_refused_j27, c_t_thrown_27, f_t_roll_132_192)))) 20000 (0 : Int32) f_t_roll_79_125
else
 obn2 (F_X9_done c_t_acts_j27 c_t_many_79_125) (fun r197 c_t_acts_197 =>
 some (r197, c_t_many_79_125, c_t_acts_197, c_t_refused_j27, c_t_thrown_27, f_t_roll_79_125))))) 20000 x3_78 (0 : Int32) f_t_roll_j27))
else
 obn2 (F_X9_no c_t_refused_j27) (fun r63 c_t_refused_63 =>
 some (r63, c_t_many_j27, c_t_acts_j27, c_t_refused_63, c_t_thrown_27, f_t_roll_j27))))))))
else
 some ((0 : Int32), c_t_many_j27, c_t_acts_j27, c_t_refused_j27, c_t_thrown_27, f_t_roll_j27)))
noncomputable def J_X9_factor_22 (jl1_22 : Int32) (jl2_22 : Int32) (f_t_forms_jz22 : Nat → Int64) (js1_22 : Int32) (c_t_many_j22 : Int32) (c_t_acts_j22 : Int32) (c_t_refused_j22 : Int32) (c_t_thrown_j22 : Int32) (f_t_roll_j22 : Nat → Int64) : Option (Int32 × Int32 × Int32 × Int32 × Int32 × (Nat → Int64)) :=
 J_X9_factor_27 jl1_22 jl2_22 f_t_forms_jz22 js1_22 (1 : Int32) c_t_many_j22 c_t_acts_j22 c_t_refused_j22 c_t_thrown_j22 f_t_roll_j22
noncomputable def J_X9_factor_13 (jl1_13 : Int32) (jl2_13 : Int32) (f_t_forms_jz13 : Nat → Int64) (js1_13 : Int32) (c_t_many_j13 : Int32) (c_t_acts_j13 : Int32) (c_t_refused_j13 : Int32) (c_t_thrown_j13 : Int32) (f_t_roll_j13 : Nat → Int64) : Option (Int32 × Int32 × Int32 × Int32 × Int32 × (Nat → Int64)) :=
 (if jl2_13 < 0 then
 J_X9_factor_22 jl1_13 jl2_13 f_t_forms_jz13 js1_13 c_t_many_j13 c_t_acts_j13 c_t_refused_j13 c_t_thrown_j13 f_t_roll_j13
else
 (if jl2_13 ≤ (1 : Int32) then
 J_X9_factor_27 jl1_13 jl2_13 f_t_forms_jz13 js1_13 (0 : Int32) c_t_many_j13 c_t_acts_j13 c_t_refused_j13 c_t_thrown_j13 f_t_roll_j13
else
 J_X9_factor_22 jl1_13 jl2_13 f_t_forms_jz13 js1_13 c_t_many_j13 c_t_acts_j13 c_t_refused_j13 c_t_thrown_j13 f_t_roll_j13))
noncomputable def F_X9_factor (c_t_many : Int32) (c_t_acts : Int32) (c_t_refused : Int32) (c_t_thrown : Int32) (f_t_forms : Nat → Int64) (f_t_roll : Nat → Int64) (p0 : Int32) (p1 : Int32) : Option (Int32 × Int32 × Int32 × Int32 × Int32 × (Nat → Int64)) :=
 obn (F_X9_isForm p0) (fun r2 =>
 (if r2 = 0 then
 J_X9_factor_13 p0 p1 f_t_forms (1 : Int32) c_t_many c_t_acts c_t_refused c_t_thrown f_t_roll
else
 J_X9_factor_13 p0 p1 f_t_forms (0 : Int32) c_t_many c_t_acts c_t_refused c_t_thrown f_t_roll))
set_option maxHeartbeats 4000000 in
set_option maxRecDepth 100000 in
theorem c_X9_factor (l : Launch) (D : va_G) (cyJ : ClassId) (sz : Nat) (a_t : Nat) (a_t_forms : Nat) (a_t_roll : Nat) (c_t_many : Int32) (c_t_taps : Int64) (c_t_cells : Int32) (c_t_acts : Int32) (c_t_refused : Int32) (c_t_knocks : Int32) (c_t_thrown : Int32) (f_t_forms : Nat → Int64) (f_t_roll : Nat → Int64) (p0 : Int32) (p1 : Int32) (r0 : Int32) (o_c_t_many : Int32) (o_c_t_acts : Int32) (o_c_t_refused : Int32) (o_c_t_thrown : Int32) (o_f_t_roll : Nat → Int64) (hF : F_X9_factor c_t_many c_t_acts c_t_refused c_t_thrown f_t_forms f_t_roll p0 p1 = some (r0, o_c_t_many, o_c_t_acts, o_c_t_refused, o_c_t_thrown, o_f_t_roll)) : Met l yX9_factor wsX9_factor rmX9_factor (va_Pc [.ref a_t, .int p0, .int p1] (wPD D [(cyJ, .long)] [(a_t, .inr (8, [.ref a_t_forms, .ref a_t_roll, .int c_t_many, .long c_t_taps, .int c_t_cells, .int c_t_acts, .int c_t_refused, .int c_t_knocks, .int c_t_thrown])), (a_t_forms, .inl (cyJ, 6, .inr (.inl f_t_forms))), (a_t_roll, .inl (cyJ, 12, .inr (.inl f_t_roll)))] sz)) (va_Qi (fun (r : Int32) (_ : Unit) => r = r0) (fun _ t => wQA D [(a_t, .inr (8, [.ref a_t_forms, .ref a_t_roll, .int o_c_t_many, .long c_t_taps, .int c_t_cells, .int o_c_t_acts, .int o_c_t_refused, .int c_t_knocks, .int o_c_t_thrown])), (a_t_forms, .inl (cyJ, 6, .inr (.inl f_t_forms))), (a_t_roll, .inl (cyJ, 12, .inr (.inl o_f_t_roll)))] (va_A [(a_t, .inr (8, [.ref a_t_forms, .ref a_t_roll, .int c_t_many, .long c_t_taps, .int c_t_cells, .int c_t_acts, .int c_t_refused, .int c_t_knocks, .int c_t_thrown])), (a_t_forms, .inl (cyJ, 6, .inr (.inl f_t_forms))), (a_t_roll, .inl (cyJ, 12, .inr (.inl f_t_roll)))] sz) t) (va_A [(a_t, .inr (8, [.ref a_t_forms, .ref a_t_roll, .int c_t_many, .long c_t_taps, .int c_t_cells, .int c_t_acts, .int c_t_refused, .int c_t_knocks, .int c_t_thrown])), (a_t_forms, .inl (cyJ, 6, .inr (.inl f_t_forms))), (a_t_roll, .inl (cyJ, 12, .inr (.inl f_t_roll)))] sz)) 0 0 (va_A [(a_t, .inr (8, [.ref a_t_forms, .ref a_t_roll, .int c_t_many, .long c_t_taps, .int c_t_cells, .int c_t_acts, .int c_t_refused, .int c_t_knocks, .int c_t_thrown])), (a_t_forms, .inl (cyJ, 6, .inr (.inl f_t_forms))), (a_t_roll, .inl (cyJ, 12, .inr (.inl f_t_roll)))] sz) := by
  refine Met.ofW (cc := cX9_factor) (maxL := 6) (ret := (some .int)) (by decide) rfl ?_
  intro p e s m args below meth c s₁ B hml hv
  obtain ⟨rfl, hsz, hP, hK, hD0, hnw⟩ := hv
  have hx := B.exec
  have hb := B.bytes
  have hr := B.returns
  have hts := atoms_spec (ws := wsX9_factor) B.pre
  have hown : s.vm.findClass RX9 = some m.cls := findClass_of_methodNamed B.named
  have hlocks := B.notSynchronized
  have hcf : CallFix _ _ _ _ _ _ _ _ _ := ⟨hx, hb, hml, hown, hts⟩
  have hinX9 : ∀ w ∈ u_ws RX9 TX9 9, w ∈ wsX9_factor := by decide +kernel
  have hfl9 := hts (.fieldLink RX9 9 "FormwheelModel" "forms" "[J") (by decide +kernel)
  have hfl123 := hts (.fieldLink RX9 123 "FormwheelModel" "many" "I") (by decide +kernel)
  have hfl13 := hts (.fieldLink RX9 13 "FormwheelModel" "roll" "[J") (by decide +kernel)
  subst hsz
  have hD := hD0.self (sz := s.heap.size)
  generalize hAe : va_A [(a_t, .inr (8, [.ref a_t_forms, .ref a_t_roll, .int c_t_many, .long c_t_taps, .int c_t_cells, .int c_t_acts, .int c_t_refused, .int c_t_knocks, .int c_t_thrown])), (a_t_forms, .inl (cyJ, 6, .inr (.inl f_t_forms))), (a_t_roll, .inl (cyJ, 12, .inr (.inl f_t_roll)))] s.heap.size = A at hD ⊢
  have hA : ∀ q : Nat, s.heap.size ≤ q → A q := fun q h => by rw [← hAe]; exact Or.inr h
  have hS : va_S A s.heap s.heap [] := va_S.rf
  have hP : va_P D vwCl [(a_t, .inr (8, [.ref a_t_forms, .ref a_t_roll, .int c_t_many, .long c_t_taps, .int c_t_cells, .int c_t_acts, .int c_t_refused, .int c_t_knocks, .int c_t_thrown])), (a_t_forms, .inl (cyJ, 6, .inr (.inl f_t_forms))), (a_t_roll, .inl (cyJ, 12, .inr (.inl f_t_roll)))] s.heap := hP
  have hK0 := hK
  have hl := lv_entry ([.ref a_t, .int p0, .int p1]) (n := 6) (Nat.le_of_ble_eq_true rfl)
  rw [lg_entry_eq]
  generalize (lg_sl ([.ref a_t, .int p0, .int p1]) ++ List.replicate (6 - (lg_sl ([.ref a_t, .int p0, .int p1])).length) Slot.unset).toArray = ls at hl ⊢
  have hl : lv_has ls 6 [(0, .ref a_t), (1, .int p0), (2, .int p1)] := hl
  have h := hF
  clear hF
  unfold F_X9_factor at h
  have hj27 : ∀ (js1_27 : Int32) (js2_27 : Int32) (c_t_many_j27 : Int32) (c_t_acts_j27 : Int32) (c_t_refused_j27 : Int32) (c_t_thrown_j27 : Int32) (f_t_roll_j27 : Nat → Int64), J_X9_factor_27 p0 p1 f_t_forms js1_27 js2_27 c_t_many_j27 c_t_acts_j27 c_t_refused_j27 c_t_thrown_j27 f_t_roll_j27 = some (r0, o_c_t_many, o_c_t_acts, o_c_t_refused, o_c_t_thrown, o_f_t_roll) → ∀ (H : Heap) (locs : List Loc), va_P D vwCl [(a_t, .inr (8, [.ref a_t_forms, .ref a_t_roll, .int c_t_many_j27, .long c_t_taps, .int c_t_cells, .int c_t_acts_j27, .int c_t_refused_j27, .int c_t_knocks, .int c_t_thrown_j27])), (a_t_forms, .inl (cyJ, 6, .inr (.inl f_t_forms))), (a_t_roll, .inl (cyJ, 12, .inr (.inl f_t_roll_j27)))] H → va_D A [(a_t, .inr (8, [.ref a_t_forms, .ref a_t_roll, .int c_t_many_j27, .long c_t_taps, .int c_t_cells, .int c_t_acts_j27, .int c_t_refused_j27, .int c_t_knocks, .int c_t_thrown_j27])), (a_t_forms, .inl (cyJ, 6, .inr (.inl f_t_forms))), (a_t_roll, .inl (cyJ, 12, .inr (.inl f_t_roll_j27)))] → va_S A s.heap H locs → ∀ (ls : Array Slot), lv_has ls 6 [(0, .ref a_t), (1, .int p0), (2, .int p1)] → W p l e rmX9_factor s m ([.ref a_t, .int p0, .int p1] : List Value).toArray below meth c H locs 0 0 (MQ below (va_Qi (fun (r : Int32) (_ : Unit) => r = r0) (fun _ t => wQA D [(a_t, .inr (8, [.ref a_t_forms, .ref a_t_roll, .int o_c_t_many, .long c_t_taps, .int c_t_cells, .int o_c_t_acts, .int o_c_t_refused, .int c_t_knocks, .int o_c_t_thrown])), (a_t_forms, .inl (cyJ, 6, .inr (.inl f_t_forms))), (a_t_roll, .inl (cyJ, 12, .inr (.inl o_f_t_roll)))] A t) A) ([.ref a_t, .int p0, .int p1] : List Value).toArray s 0 0 A) (F0 m 27 ls [.int js2_27, .int js1_27, .ref a_t]) := by
    intro js1_27 js2_27 c_t_many_j27 c_t_acts_j27 c_t_refused_j27 c_t_thrown_j27 f_t_roll_j27 h H locs hP hD hS ls hl
    unfold J_X9_factor_27 at h
    obtain ⟨r27, c_t_thrown_27, hc27, h⟩ := obn2_h h
    have hPc := hP.sub (ws' := [(a_t, .inr (8, [.ref a_t_forms, .ref a_t_roll, .int c_t_many_j27, .long c_t_taps, .int c_t_cells, .int c_t_acts_j27, .int c_t_refused_j27, .int c_t_knocks, .int c_t_thrown_j27]))]) [0] rfl
    have hDc := hD.sub (ws' := [(a_t, .inr (8, [.ref a_t_forms, .ref a_t_roll, .int c_t_many_j27, .long c_t_taps, .int c_t_cells, .int c_t_acts_j27, .int c_t_refused_j27, .int c_t_knocks, .int c_t_thrown_j27]))]) [0] (by decide) rfl
    refine hp_i (w1 := [(a_t, .inr (8, [.ref a_t_forms, .ref a_t_roll, .int c_t_many_j27, .long c_t_taps, .int c_t_cells, .int c_t_acts_j27, .int c_t_refused_j27, .int c_t_knocks, .int c_t_thrown_27]))]) (wr := [(a_t_forms, .inl (cyJ, 6, .inr (.inl f_t_forms))), (a_t_roll, .inl (cyJ, 12, .inr (.inl f_t_roll_j27)))]) (va_runV (As := [.int js1_27, .int js2_27]) (rest := []) hcf (c_X9_isThrown l D cyJ H.size a_t a_t_forms a_t_roll c_t_many_j27 c_t_taps c_t_cells c_t_acts_j27 c_t_refused_j27 c_t_knocks c_t_thrown_j27 js1_27 js2_27 r27 c_t_thrown_27 hc27) (cwV 2 hts gX9_factor_X9_isThrown rfl rfl rfl ydX9_isThrown ⟨Nat.le_of_ble_eq_true rfl, Nat.le_of_ble_eq_true rfl⟩) ⟨bl_PD, va_recv hK hP (ci := 8) (q0 := 0) rfl rfl, pr_PD hPc hK0 hDc hnw⟩ rfl rfl hl.1 rfl (lv_room (Nat.le_of_ble_eq_true rfl)) dX9_factor_27 ⟨Nat.le_of_ble_eq_true rfl, Nat.le_of_ble_eq_true rfl⟩) hP hD hS hA [0] [1, 2] rfl rfl (by decide) (by decide) (fun H locs hP hD hS => ?_)
    have hP : va_P D vwCl [(a_t_forms, .inl (cyJ, 6, .inr (.inl f_t_forms))), (a_t_roll, .inl (cyJ, 12, .inr (.inl f_t_roll_j27))), (a_t, .inr (8, [.ref a_t_forms, .ref a_t_roll, .int c_t_many_j27, .long c_t_taps, .int c_t_cells, .int c_t_acts_j27, .int c_t_refused_j27, .int c_t_knocks, .int c_t_thrown_27]))] H := hP
    have hD : va_D A [(a_t_forms, .inl (cyJ, 6, .inr (.inl f_t_forms))), (a_t_roll, .inl (cyJ, 12, .inr (.inl f_t_roll_j27))), (a_t, .inr (8, [.ref a_t_forms, .ref a_t_roll, .int c_t_many_j27, .long c_t_taps, .int c_t_cells, .int c_t_acts_j27, .int c_t_refused_j27, .int c_t_knocks, .int c_t_thrown_27]))] := hD
    refine lv_if_eq (tgt := 35) hx hb dX9_factor_30 (by decide) (fun c30 => ?_) (fun c30 => ?_)
    · have h := it_ c30 h
      refine lv_aload_n hx hb dX9_factor_35 rfl (lv_at hl 0 rfl) ?_
      refine va_get (D := D) (ci := 8) (v := .ref a_t_forms) (C := RX9) (T := TX9) (N := 9) hx hb hts hinX9 hown hK hP 2 rfl rfl 0 (by decide) hfl9 (fun _ h9 => h9) rfl dX9_factor_36 ?_
      refine lv_iload_n hx hb dX9_factor_39 rfl (lv_at hl 1 rfl) ?_
      obtain ⟨hq40, h⟩ := chk_h h
      refine va_lald hx hb hK hP 0 0 rfl rfl hq40 dX9_factor_40 ?_
      obtain ⟨r41, hc41, h⟩ := obn_h h
      refine pz_callS (As := [.long (f_t_forms p0.toNatClampNeg)]) (rest := []) hcf (c_X9_degreeOf l (f_t_forms p0.toNatClampNeg) r41 hc41) (va_cwS 1 hts gX9_factor_X9_degreeOf rfl rfl rfl ydX9_degreeOf ⟨Nat.le_of_ble_eq_true rfl, Nat.le_of_ble_eq_true rfl⟩) hnw rfl hl.1 rfl (Nat.le_of_ble_eq_true rfl) dX9_factor_41 ⟨Nat.le_of_ble_eq_true rfl, Nat.le_of_ble_eq_true rfl⟩ ?_
      refine lv_iconst (v := 1) hx hb dX9_factor_44 (by decide) ?_
      refine lv_icmp_lt (tgt := 62) hx hb dX9_factor_45 (by decide) (fun c45 => ?_) (fun c45 => ?_)
      · have h := it_ c45 h
        refine lv_aload_n hx hb dX9_factor_62 rfl (lv_at hl 0 rfl) ?_
        obtain ⟨r63, c_t_refused_63, hc63, h⟩ := obn2_h h
        have hPc := hP.sub (ws' := [(a_t, .inr (8, [.ref a_t_forms, .ref a_t_roll, .int c_t_many_j27, .long c_t_taps, .int c_t_cells, .int c_t_acts_j27, .int c_t_refused_j27, .int c_t_knocks, .int c_t_thrown_27]))]) [2] rfl
        have hDc := hD.sub (ws' := [(a_t, .inr (8, [.ref a_t_forms, .ref a_t_roll, .int c_t_many_j27, .long c_t_taps, .int c_t_cells, .int c_t_acts_j27, .int c_t_refused_j27, .int c_t_knocks, .int c_t_thrown_27]))]) [2] (by decide) rfl
        refine hp_i (w1 := [(a_t, .inr (8, [.ref a_t_forms, .ref a_t_roll, .int c_t_many_j27, .long c_t_taps, .int c_t_cells, .int c_t_acts_j27, .int c_t_refused_63, .int c_t_knocks, .int c_t_thrown_27]))]) (wr := [(a_t_forms, .inl (cyJ, 6, .inr (.inl f_t_forms))), (a_t_roll, .inl (cyJ, 12, .inr (.inl f_t_roll_j27)))]) (va_runV (As := []) (rest := []) hcf (c_X9_no l D cyJ H.size a_t a_t_forms a_t_roll c_t_many_j27 c_t_taps c_t_cells c_t_acts_j27 c_t_refused_j27 c_t_knocks c_t_thrown_27 r63 c_t_refused_63 hc63) (cwV 0 hts gX9_factor_X9_no rfl rfl rfl ydX9_no ⟨Nat.le_of_ble_eq_true rfl, Nat.le_of_ble_eq_true rfl⟩) ⟨bl_PD, va_recv hK hP (ci := 8) (q0 := 2) rfl rfl, pr_PD hPc hK0 hDc hnw⟩ rfl rfl hl.1 rfl (lv_room (Nat.le_of_ble_eq_true rfl)) dX9_factor_63 ⟨Nat.le_of_ble_eq_true rfl, Nat.le_of_ble_eq_true rfl⟩) hP hD hS hA [2] [0, 1] rfl rfl (by decide) (by decide) (fun H locs hP hD hS => ?_)
        have hP : va_P D vwCl [(a_t_forms, .inl (cyJ, 6, .inr (.inl f_t_forms))), (a_t_roll, .inl (cyJ, 12, .inr (.inl f_t_roll_j27))), (a_t, .inr (8, [.ref a_t_forms, .ref a_t_roll, .int c_t_many_j27, .long c_t_taps, .int c_t_cells, .int c_t_acts_j27, .int c_t_refused_63, .int c_t_knocks, .int c_t_thrown_27]))] H := hP
        have hD : va_D A [(a_t_forms, .inl (cyJ, 6, .inr (.inl f_t_forms))), (a_t_roll, .inl (cyJ, 12, .inr (.inl f_t_roll_j27))), (a_t, .inr (8, [.ref a_t_forms, .ref a_t_roll, .int c_t_many_j27, .long c_t_taps, .int c_t_cells, .int c_t_acts_j27, .int c_t_refused_63, .int c_t_knocks, .int c_t_thrown_27]))] := hD
        obtain ⟨e0, e1, e2, e3, e4, e5⟩ := tup6 h
        subst e0
        subst e1
        subst e2
        subst e3
        subst e4
        subst e5
        have hP9 : va_P D vwCl [(a_t, .inr (8, [.ref a_t_forms, .ref a_t_roll, .int c_t_many_j27, .long c_t_taps, .int c_t_cells, .int c_t_acts_j27, .int c_t_refused_63, .int c_t_knocks, .int c_t_thrown_27])), (a_t_forms, .inl (cyJ, 6, .inr (.inl f_t_forms))), (a_t_roll, .inl (cyJ, 12, .inr (.inl f_t_roll_j27)))] H := hP.sub [2, 0, 1] rfl
        have hD9 : va_D A [(a_t, .inr (8, [.ref a_t_forms, .ref a_t_roll, .int c_t_many_j27, .long c_t_taps, .int c_t_cells, .int c_t_acts_j27, .int c_t_refused_63, .int c_t_knocks, .int c_t_thrown_27])), (a_t_forms, .inl (cyJ, 6, .inr (.inl f_t_forms))), (a_t_roll, .inl (cyJ, 12, .inr (.inl f_t_roll_j27)))] := hD.sub [2, 0, 1] (by decide) rfl
        exact W.iret hx hb hr (fun t ht hW => ⟨⟨_, (), rfl, rfl, wQA_of ht hP9 hD9⟩, hS.F ht⟩) hS.2.2 dX9_factor_66
      · have h := if_ c45 h
        refine lv_aload_n hx hb dX9_factor_48 rfl (lv_at hl 0 rfl) ?_
        refine va_get (D := D) (ci := 8) (v := .ref a_t_forms) (C := RX9) (T := TX9) (N := 9) hx hb hts hinX9 hown hK hP 2 rfl rfl 0 (by decide) hfl9 (fun _ h9 => h9) rfl dX9_factor_49 ?_
        refine lv_iload_n hx hb dX9_factor_52 rfl (lv_at hl 1 rfl) ?_
        obtain ⟨hq53, h⟩ := chk_h h
        refine va_lald hx hb hK hP 0 0 rfl rfl hq53 dX9_factor_53 ?_
        obtain ⟨r54, hc54, h⟩ := obn_h h
        refine pz_callS (As := [.long (f_t_forms p0.toNatClampNeg)]) (rest := []) hcf (c_X9_degreeOf l (f_t_forms p0.toNatClampNeg) r54 hc54) (va_cwS 1 hts gX9_factor_X9_degreeOf rfl rfl rfl ydX9_degreeOf ⟨Nat.le_of_ble_eq_true rfl, Nat.le_of_ble_eq_true rfl⟩) hnw rfl hl.1 rfl (Nat.le_of_ble_eq_true rfl) dX9_factor_54 ⟨Nat.le_of_ble_eq_true rfl, Nat.le_of_ble_eq_true rfl⟩ ?_
        refine lv_bipush (v := 10) hx hb dX9_factor_57 (by decide) ?_
        refine lv_icmp_le (tgt := 67) hx hb dX9_factor_59 (by decide) (fun c59 => ?_) (fun c59 => ?_)
        · have h := it_ c59 h
          refine lv_aload_n hx hb dX9_factor_67 rfl (lv_at hl 0 rfl) ?_
          refine lv_iconst (v := 0) hx hb dX9_factor_68 (by decide) ?_
          refine va_put (D := D) (ci := 8) (v := .int (0 : Int32)) (ty := .int) (C := RX9) (T := TX9) (N := 9) hx hb hts hinX9 tyX9 tyX9_ok nmX9 hown hK hP hD hS 2 rfl rfl 2 (by decide) hfl123 (fun _ h9 => h9) rfl (by decide +kernel) rfl rfl (Nat.le_of_ble_eq_true rfl) dX9_factor_69 (fun H locs hP hD hS => ?_)
          have hP : va_P D vwCl [(a_t_forms, .inl (cyJ, 6, .inr (.inl f_t_forms))), (a_t_roll, .inl (cyJ, 12, .inr (.inl f_t_roll_j27))), (a_t, .inr (8, [.ref a_t_forms, .ref a_t_roll, .int (0 : Int32), .long c_t_taps, .int c_t_cells, .int c_t_acts_j27, .int c_t_refused_j27, .int c_t_knocks, .int c_t_thrown_27]))] H := hP
          have hD : va_D A [(a_t_forms, .inl (cyJ, 6, .inr (.inl f_t_forms))), (a_t_roll, .inl (cyJ, 12, .inr (.inl f_t_roll_j27))), (a_t, .inr (8, [.ref a_t_forms, .ref a_t_roll, .int (0 : Int32), .long c_t_taps, .int c_t_cells, .int c_t_acts_j27, .int c_t_refused_j27, .int c_t_knocks, .int c_t_thrown_27]))] := hD
          refine lv_aload_n hx hb dX9_factor_72 rfl (lv_at hl 0 rfl) ?_
          refine va_get (D := D) (ci := 8) (v := .ref a_t_forms) (C := RX9) (T := TX9) (N := 9) hx hb hts hinX9 hown hK hP 2 rfl rfl 0 (by decide) hfl9 (fun _ h9 => h9) rfl dX9_factor_73 ?_
          refine lv_iload_n hx hb dX9_factor_76 rfl (lv_at hl 1 rfl) ?_
          obtain ⟨hq77, h⟩ := chk_h h
          refine va_lald hx hb hK hP 0 0 rfl rfl hq77 dX9_factor_77 ?_
          refine lv_topl (fun x3_78 e_x3_78 => ?_)
          have h := bnd_h e_x3_78 h
          refine lv_lstore_n (lv' := [(3, .long x3_78), (0, .ref a_t), (1, .int p0), (2, .int p1)]) hx hb dX9_factor_78 rfl hl (by decide) rfl (fun ls hl => ?_)
          refine LQ3_k1 (M := fun (y3_79 : Int64) (c_t_many_79 : Int32) (f_t_roll_79 : Nat → Int64) => ∀ (H : Heap) (locs : List Loc), va_P D vwCl [(a_t_forms, .inl (cyJ, 6, .inr (.inl f_t_forms))), (a_t_roll, .inl (cyJ, 12, .inr (.inl f_t_roll_79))), (a_t, .inr (8, [.ref a_t_forms, .ref a_t_roll, .int c_t_many_79, .long c_t_taps, .int c_t_cells, .int c_t_acts_j27, .int c_t_refused_j27, .int c_t_knocks, .int c_t_thrown_27]))] H → va_D A [(a_t_forms, .inl (cyJ, 6, .inr (.inl f_t_forms))), (a_t_roll, .inl (cyJ, 12, .inr (.inl f_t_roll_79))), (a_t, .inr (8, [.ref a_t_forms, .ref a_t_roll, .int c_t_many_79, .long c_t_taps, .int c_t_cells, .int c_t_acts_j27, .int c_t_refused_j27, .int c_t_knocks, .int c_t_thrown_27]))] → va_S A s.heap H locs → ∀ (ls : Array Slot), lv_has ls 6 [(0, .ref a_t), (2, .int p1), (3, .long y3_79)] → W p l e rmX9_factor s m ([.ref a_t, .int p0, .int p1] : List Value).toArray below meth c H locs 0 0 (MQ below (va_Qi (fun (r : Int32) (_ : Unit) => r = r0) (fun _ t => wQA D [(a_t, .inr (8, [.ref a_t_forms, .ref a_t_roll, .int o_c_t_many, .long c_t_taps, .int c_t_cells, .int o_c_t_acts, .int o_c_t_refused, .int c_t_knocks, .int o_c_t_thrown])), (a_t_forms, .inl (cyJ, 6, .inr (.inl f_t_forms))), (a_t_roll, .inl (cyJ, 12, .inr (.inl o_f_t_roll)))] A t) A) ([.ref a_t, .int p0, .int p1] : List Value).toArray s 0 0 A) (F0 m 79 ls [])) ?_ _ _ _ _ h _ _ hP hD hS ls (lv_sub hl [1, 3, 0] rfl)
          intro k125 hk125 ih79 hih79 y3_79 c_t_many_79 f_t_roll_79 h H locs hP hD hS ls hl
          unfold S_X9_factor_79 at h
          refine lv_lload_n hx hb dX9_factor_79 rfl (lv_at hl 2 rfl) ?_
          obtain ⟨r80, hc80, h⟩ := obn_h h
          refine pz_callS (As := [.long y3_79]) (rest := []) hcf (c_X9_degreeOf l y3_79 r80 hc80) (va_cwS 1 hts gX9_factor_X9_degreeOf rfl rfl rfl ydX9_degreeOf ⟨Nat.le_of_ble_eq_true rfl, Nat.le_of_ble_eq_true rfl⟩) hnw rfl hl.1 rfl (Nat.le_of_ble_eq_true rfl) dX9_factor_80 ⟨Nat.le_of_ble_eq_true rfl, Nat.le_of_ble_eq_true rfl⟩ ?_
          refine lv_if_le (tgt := 125) hx hb dX9_factor_83 (by decide) (fun c83 => ?_) (fun c83 => ?_)
          · have h := it_ c83 h
            rw [hk125] at h
            refine lv_iload_n hx hb dX9_factor_125 rfl (lv_at hl 1 rfl) ?_
            refine lv_iconst (v := 1) hx hb dX9_factor_126 (by decide) ?_
            refine lv_icmp_ne (tgt := 192) hx hb dX9_factor_127 (by decide) (fun c127 => ?_) (fun c127 => ?_)
            · have h := if_ c127 h
              refine lv_aload_n hx hb dX9_factor_192 rfl (lv_at hl 0 rfl) ?_
              refine lv_aload_n hx hb dX9_factor_193 rfl (lv_at hl 0 rfl) ?_
              refine va_get (D := D) (ci := 8) (v := .int c_t_many_79) (C := RX9) (T := TX9) (N := 9) hx hb hts hinX9 hown hK hP 2 rfl rfl 2 (by decide) hfl123 (fun _ h9 => h9) rfl dX9_factor_194 ?_
              obtain ⟨r197, c_t_acts_197, hc197, h⟩ := obn2_h h
              have hPc := hP.sub (ws' := [(a_t, .inr (8, [.ref a_t_forms, .ref a_t_roll, .int c_t_many_79, .long c_t_taps, .int c_t_cells, .int c_t_acts_j27, .int c_t_refused_j27, .int c_t_knocks, .int c_t_thrown_27]))]) [2] rfl
              have hDc := hD.sub (ws' := [(a_t, .inr (8, [.ref a_t_forms, .ref a_t_roll, .int c_t_many_79, .long c_t_taps, .int c_t_cells, .int c_t_acts_j27, .int c_t_refused_j27, .int c_t_knocks, .int c_t_thrown_27]))]) [2] (by decide) rfl
              refine hp_i (w1 := [(a_t, .inr (8, [.ref a_t_forms, .ref a_t_roll, .int c_t_many_79, .long c_t_taps, .int c_t_cells, .int c_t_acts_197, .int c_t_refused_j27, .int c_t_knocks, .int c_t_thrown_27]))]) (wr := [(a_t_forms, .inl (cyJ, 6, .inr (.inl f_t_forms))), (a_t_roll, .inl (cyJ, 12, .inr (.inl f_t_roll_79)))]) (va_runV (As := [.int c_t_many_79]) (rest := []) hcf (c_X9_done l D cyJ H.size a_t a_t_forms a_t_roll c_t_many_79 c_t_taps c_t_cells c_t_acts_j27 c_t_refused_j27 c_t_knocks c_t_thrown_27 c_t_many_79 r197 c_t_acts_197 hc197) (cwV 1 hts gX9_factor_X9_done rfl rfl rfl ydX9_done ⟨Nat.le_of_ble_eq_true rfl, Nat.le_of_ble_eq_true rfl⟩) ⟨bl_PD, va_recv hK hP (ci := 8) (q0 := 2) rfl rfl, pr_PD hPc hK0 hDc hnw⟩ rfl rfl hl.1 rfl (lv_room (Nat.le_of_ble_eq_true rfl)) dX9_factor_197 ⟨Nat.le_of_ble_eq_true rfl, Nat.le_of_ble_eq_true rfl⟩) hP hD hS hA [2] [0, 1] rfl rfl (by decide) (by decide) (fun H locs hP hD hS => ?_)
              have hP : va_P D vwCl [(a_t_forms, .inl (cyJ, 6, .inr (.inl f_t_forms))), (a_t_roll, .inl (cyJ, 12, .inr (.inl f_t_roll_79))), (a_t, .inr (8, [.ref a_t_forms, .ref a_t_roll, .int c_t_many_79, .long c_t_taps, .int c_t_cells, .int c_t_acts_197, .int c_t_refused_j27, .int c_t_knocks, .int c_t_thrown_27]))] H := hP
              have hD : va_D A [(a_t_forms, .inl (cyJ, 6, .inr (.inl f_t_forms))), (a_t_roll, .inl (cyJ, 12, .inr (.inl f_t_roll_79))), (a_t, .inr (8, [.ref a_t_forms, .ref a_t_roll, .int c_t_many_79, .long c_t_taps, .int c_t_cells, .int c_t_acts_197, .int c_t_refused_j27, .int c_t_knocks, .int c_t_thrown_27]))] := hD
              obtain ⟨e0, e1, e2, e3, e4, e5⟩ := tup6 h
              subst e0
              subst e1
              subst e2
              subst e3
              subst e4
              subst e5
              have hP9 : va_P D vwCl [(a_t, .inr (8, [.ref a_t_forms, .ref a_t_roll, .int c_t_many_79, .long c_t_taps, .int c_t_cells, .int c_t_acts_197, .int c_t_refused_j27, .int c_t_knocks, .int c_t_thrown_27])), (a_t_forms, .inl (cyJ, 6, .inr (.inl f_t_forms))), (a_t_roll, .inl (cyJ, 12, .inr (.inl f_t_roll_79)))] H := hP.sub [2, 0, 1] rfl
              have hD9 : va_D A [(a_t, .inr (8, [.ref a_t_forms, .ref a_t_roll, .int c_t_many_79, .long c_t_taps, .int c_t_cells, .int c_t_acts_197, .int c_t_refused_j27, .int c_t_knocks, .int c_t_thrown_27])), (a_t_forms, .inl (cyJ, 6, .inr (.inl f_t_forms))), (a_t_roll, .inl (cyJ, 12, .inr (.inl f_t_roll_79)))] := hD.sub [2, 0, 1] (by decide) rfl
              exact W.iret hx hb hr (fun t ht hW => ⟨⟨_, (), rfl, rfl, wQA_of ht hP9 hD9⟩, hS.F ht⟩) hS.2.2 dX9_factor_200
            · have h := it_ c127 h
              refine lv_iconst (v := 0) hx hb dX9_factor_130 (by decide) ?_
              refine lv_istore_n (lv' := [(3, .int (0 : Int32)), (0, .ref a_t), (2, .int p1)]) hx hb dX9_factor_131 rfl hl (by decide) rfl (fun ls hl => ?_)
              refine LQ2_k1 (M := fun (y3_132 : Int32) (f_t_roll_132 : Nat → Int64) => ∀ (H : Heap) (locs : List Loc), va_P D vwCl [(a_t_forms, .inl (cyJ, 6, .inr (.inl f_t_forms))), (a_t_roll, .inl (cyJ, 12, .inr (.inl f_t_roll_132))), (a_t, .inr (8, [.ref a_t_forms, .ref a_t_roll, .int c_t_many_79, .long c_t_taps, .int c_t_cells, .int c_t_acts_j27, .int c_t_refused_j27, .int c_t_knocks, .int c_t_thrown_27]))] H → va_D A [(a_t_forms, .inl (cyJ, 6, .inr (.inl f_t_forms))), (a_t_roll, .inl (cyJ, 12, .inr (.inl f_t_roll_132))), (a_t, .inr (8, [.ref a_t_forms, .ref a_t_roll, .int c_t_many_79, .long c_t_taps, .int c_t_cells, .int c_t_acts_j27, .int c_t_refused_j27, .int c_t_knocks, .int c_t_thrown_27]))] → va_S A s.heap H locs → ∀ (ls : Array Slot), lv_has ls 6 [(0, .ref a_t), (3, .int y3_132)] → W p l e rmX9_factor s m ([.ref a_t, .int p0, .int p1] : List Value).toArray below meth c H locs 0 0 (MQ below (va_Qi (fun (r : Int32) (_ : Unit) => r = r0) (fun _ t => wQA D [(a_t, .inr (8, [.ref a_t_forms, .ref a_t_roll, .int o_c_t_many, .long c_t_taps, .int c_t_cells, .int o_c_t_acts, .int o_c_t_refused, .int c_t_knocks, .int o_c_t_thrown])), (a_t_forms, .inl (cyJ, 6, .inr (.inl f_t_forms))), (a_t_roll, .inl (cyJ, 12, .inr (.inl o_f_t_roll)))] A t) A) ([.ref a_t, .int p0, .int p1] : List Value).toArray s 0 0 A) (F0 m 132 ls [])) ?_ _ _ _ h _ _ hP hD hS ls (lv_sub hl [1, 0] rfl)
              intro k192 hk192 ih132 hih132 y3_132 f_t_roll_132 h H locs hP hD hS ls hl
              unfold S_X9_factor_132 at h
              refine lv_iload_n hx hb dX9_factor_132 rfl (lv_at hl 1 rfl) ?_
              refine lv_aload_n hx hb dX9_factor_133 rfl (lv_at hl 0 rfl) ?_
              refine va_get (D := D) (ci := 8) (v := .int c_t_many_79) (C := RX9) (T := TX9) (N := 9) hx hb hts hinX9 hown hK hP 2 rfl rfl 2 (by decide) hfl123 (fun _ h9 => h9) rfl dX9_factor_134 ?_
              refine lv_iconst (v := 1) hx hb dX9_factor_137 (by decide) ?_
              refine lv_isub hx hb dX9_factor_138 ?_
              refine lv_iload_n hx hb dX9_factor_139 rfl (lv_at hl 1 rfl) ?_
              refine lv_isub hx hb dX9_factor_140 ?_
              refine lv_icmp_ge (tgt := 192) hx hb dX9_factor_141 (by decide) (fun c141 => ?_) (fun c141 => ?_)
              · have h := it_ c141 h
                rw [hk192] at h
                refine lv_aload_n hx hb dX9_factor_192 rfl (lv_at hl 0 rfl) ?_
                refine lv_aload_n hx hb dX9_factor_193 rfl (lv_at hl 0 rfl) ?_
                refine va_get (D := D) (ci := 8) (v := .int c_t_many_79) (C := RX9) (T := TX9) (N := 9) hx hb hts hinX9 hown hK hP 2 rfl rfl 2 (by decide) hfl123 (fun _ h9 => h9) rfl dX9_factor_194 ?_
                obtain ⟨r197, c_t_acts_197, hc197, h⟩ := obn2_h h
                have hPc := hP.sub (ws' := [(a_t, .inr (8, [.ref a_t_forms, .ref a_t_roll, .int c_t_many_79, .long c_t_taps, .int c_t_cells, .int c_t_acts_j27, .int c_t_refused_j27, .int c_t_knocks, .int c_t_thrown_27]))]) [2] rfl
                have hDc := hD.sub (ws' := [(a_t, .inr (8, [.ref a_t_forms, .ref a_t_roll, .int c_t_many_79, .long c_t_taps, .int c_t_cells, .int c_t_acts_j27, .int c_t_refused_j27, .int c_t_knocks, .int c_t_thrown_27]))]) [2] (by decide) rfl
                refine hp_i (w1 := [(a_t, .inr (8, [.ref a_t_forms, .ref a_t_roll, .int c_t_many_79, .long c_t_taps, .int c_t_cells, .int c_t_acts_197, .int c_t_refused_j27, .int c_t_knocks, .int c_t_thrown_27]))]) (wr := [(a_t_forms, .inl (cyJ, 6, .inr (.inl f_t_forms))), (a_t_roll, .inl (cyJ, 12, .inr (.inl f_t_roll_132)))]) (va_runV (As := [.int c_t_many_79]) (rest := []) hcf (c_X9_done l D cyJ H.size a_t a_t_forms a_t_roll c_t_many_79 c_t_taps c_t_cells c_t_acts_j27 c_t_refused_j27 c_t_knocks c_t_thrown_27 c_t_many_79 r197 c_t_acts_197 hc197) (cwV 1 hts gX9_factor_X9_done rfl rfl rfl ydX9_done ⟨Nat.le_of_ble_eq_true rfl, Nat.le_of_ble_eq_true rfl⟩) ⟨bl_PD, va_recv hK hP (ci := 8) (q0 := 2) rfl rfl, pr_PD hPc hK0 hDc hnw⟩ rfl rfl hl.1 rfl (lv_room (Nat.le_of_ble_eq_true rfl)) dX9_factor_197 ⟨Nat.le_of_ble_eq_true rfl, Nat.le_of_ble_eq_true rfl⟩) hP hD hS hA [2] [0, 1] rfl rfl (by decide) (by decide) (fun H locs hP hD hS => ?_)
                have hP : va_P D vwCl [(a_t_forms, .inl (cyJ, 6, .inr (.inl f_t_forms))), (a_t_roll, .inl (cyJ, 12, .inr (.inl f_t_roll_132))), (a_t, .inr (8, [.ref a_t_forms, .ref a_t_roll, .int c_t_many_79, .long c_t_taps, .int c_t_cells, .int c_t_acts_197, .int c_t_refused_j27, .int c_t_knocks, .int c_t_thrown_27]))] H := hP
                have hD : va_D A [(a_t_forms, .inl (cyJ, 6, .inr (.inl f_t_forms))), (a_t_roll, .inl (cyJ, 12, .inr (.inl f_t_roll_132))), (a_t, .inr (8, [.ref a_t_forms, .ref a_t_roll, .int c_t_many_79, .long c_t_taps, .int c_t_cells, .int c_t_acts_197, .int c_t_refused_j27, .int c_t_knocks, .int c_t_thrown_27]))] := hD
                obtain ⟨e0, e1, e2, e3, e4, e5⟩ := tup6 h
                subst e0
                subst e1
                subst e2
                subst e3
                subst e4
                subst e5
                have hP9 : va_P D vwCl [(a_t, .inr (8, [.ref a_t_forms, .ref a_t_roll, .int c_t_many_79, .long c_t_taps, .int c_t_cells, .int c_t_acts_197, .int c_t_refused_j27, .int c_t_knocks, .int c_t_thrown_27])), (a_t_forms, .inl (cyJ, 6, .inr (.inl f_t_forms))), (a_t_roll, .inl (cyJ, 12, .inr (.inl f_t_roll_132)))] H := hP.sub [2, 0, 1] rfl
                have hD9 : va_D A [(a_t, .inr (8, [.ref a_t_forms, .ref a_t_roll, .int c_t_many_79, .long c_t_taps, .int c_t_cells, .int c_t_acts_197, .int c_t_refused_j27, .int c_t_knocks, .int c_t_thrown_27])), (a_t_forms, .inl (cyJ, 6, .inr (.inl f_t_forms))), (a_t_roll, .inl (cyJ, 12, .inr (.inl f_t_roll_132)))] := hD.sub [2, 0, 1] (by decide) rfl
                exact W.iret hx hb hr (fun t ht hW => ⟨⟨_, (), rfl, rfl, wQA_of ht hP9 hD9⟩, hS.F ht⟩) hS.2.2 dX9_factor_200
              · have h := if_ c141 h
                refine lv_aload_n hx hb dX9_factor_144 rfl (lv_at hl 0 rfl) ?_
                refine va_get (D := D) (ci := 8) (v := .ref a_t_roll) (C := RX9) (T := TX9) (N := 9) hx hb hts hinX9 hown hK hP 2 rfl rfl 1 (by decide) hfl13 (fun _ h9 => h9) rfl dX9_factor_145 ?_
                refine lv_iload_n hx hb dX9_factor_148 rfl (lv_at hl 1 rfl) ?_
                obtain ⟨hq149, h⟩ := chk_h h
                refine va_lald hx hb hK hP 1 0 rfl rfl hq149 dX9_factor_149 ?_
                refine lv_topl (fun x4_150 e_x4_150 => ?_)
                have h := bnd_h e_x4_150 h
                refine lv_lstore (lv' := [(4, .long x4_150), (0, .ref a_t), (3, .int y3_132)]) hx hb dX9_factor_150 hl (by decide) rfl (fun ls hl => ?_)
                refine lv_aload_n hx hb dX9_factor_152 rfl (lv_at hl 1 rfl) ?_
                refine va_get (D := D) (ci := 8) (v := .ref a_t_roll) (C := RX9) (T := TX9) (N := 9) hx hb hts hinX9 hown hK hP 2 rfl rfl 1 (by decide) hfl13 (fun _ h9 => h9) rfl dX9_factor_153 ?_
                refine lv_iload_n hx hb dX9_factor_156 rfl (lv_at hl 2 rfl) ?_
                refine lv_aload_n hx hb dX9_factor_157 rfl (lv_at hl 1 rfl) ?_
                refine va_get (D := D) (ci := 8) (v := .ref a_t_roll) (C := RX9) (T := TX9) (N := 9) hx hb hts hinX9 hown hK hP 2 rfl rfl 1 (by decide) hfl13 (fun _ h9 => h9) rfl dX9_factor_158 ?_
                refine lv_aload_n hx hb dX9_factor_161 rfl (lv_at hl 1 rfl) ?_
                refine va_get (D := D) (ci := 8) (v := .int c_t_many_79) (C := RX9) (T := TX9) (N := 9) hx hb hts hinX9 hown hK hP 2 rfl rfl 2 (by decide) hfl123 (fun _ h9 => h9) rfl dX9_factor_162 ?_
                refine lv_iconst (v := 1) hx hb dX9_factor_165 (by decide) ?_
                refine lv_isub hx hb dX9_factor_166 ?_
                refine lv_iload_n hx hb dX9_factor_167 rfl (lv_at hl 2 rfl) ?_
                refine lv_isub hx hb dX9_factor_168 ?_
                obtain ⟨hq169, h⟩ := chk_h h
                refine va_lald hx hb hK hP 1 0 rfl rfl hq169 dX9_factor_169 ?_
                obtain ⟨hq170, h⟩ := chk_h h
                refine va_last hx hb hK hP hD hS 1 0 rfl rfl hq170 dX9_factor_170 (fun H locs hP hD hS => ?_)
                obtain ⟨f_t_roll_170, e_f_t_roll_170⟩ : ∃ z, z = vp_updL f_t_roll_132 y3_132.toNatClampNeg (f_t_roll_132 ((c_t_many_79 - (1 : Int32)) - y3_132).toNatClampNeg) := ⟨_, rfl⟩
                have h := bnd_h e_f_t_roll_170 h
                have hP : va_P D vwCl [(a_t_forms, .inl (cyJ, 6, .inr (.inl f_t_forms))), (a_t_roll, .inl (cyJ, 12, .inr (.inl f_t_roll_170))), (a_t, .inr (8, [.ref a_t_forms, .ref a_t_roll, .int c_t_many_79, .long c_t_taps, .int c_t_cells, .int c_t_acts_j27, .int c_t_refused_j27, .int c_t_knocks, .int c_t_thrown_27]))] H := by rw [e_f_t_roll_170]; exact hP
                have hD : va_D A [(a_t_forms, .inl (cyJ, 6, .inr (.inl f_t_forms))), (a_t_roll, .inl (cyJ, 12, .inr (.inl f_t_roll_170))), (a_t, .inr (8, [.ref a_t_forms, .ref a_t_roll, .int c_t_many_79, .long c_t_taps, .int c_t_cells, .int c_t_acts_j27, .int c_t_refused_j27, .int c_t_knocks, .int c_t_thrown_27]))] := by rw [e_f_t_roll_170]; exact hD
                refine lv_aload_n hx hb dX9_factor_171 rfl (lv_at hl 1 rfl) ?_
                refine va_get (D := D) (ci := 8) (v := .ref a_t_roll) (C := RX9) (T := TX9) (N := 9) hx hb hts hinX9 hown hK hP 2 rfl rfl 1 (by decide) hfl13 (fun _ h9 => h9) rfl dX9_factor_172 ?_
                refine lv_aload_n hx hb dX9_factor_175 rfl (lv_at hl 1 rfl) ?_
                refine va_get (D := D) (ci := 8) (v := .int c_t_many_79) (C := RX9) (T := TX9) (N := 9) hx hb hts hinX9 hown hK hP 2 rfl rfl 2 (by decide) hfl123 (fun _ h9 => h9) rfl dX9_factor_176 ?_
                refine lv_iconst (v := 1) hx hb dX9_factor_179 (by decide) ?_
                refine lv_isub hx hb dX9_factor_180 ?_
                refine lv_iload_n hx hb dX9_factor_181 rfl (lv_at hl 2 rfl) ?_
                refine lv_isub hx hb dX9_factor_182 ?_
                refine lv_lload hx hb dX9_factor_183 (lv_at hl 0 rfl) ?_
                obtain ⟨hq185, h⟩ := chk_h h
                refine va_last hx hb hK hP hD hS 1 0 rfl rfl hq185 dX9_factor_185 (fun H locs hP hD hS => ?_)
                obtain ⟨f_t_roll_185, e_f_t_roll_185⟩ : ∃ z, z = vp_updL f_t_roll_170 ((c_t_many_79 - (1 : Int32)) - y3_132).toNatClampNeg x4_150 := ⟨_, rfl⟩
                have h := bnd_h e_f_t_roll_185 h
                have hP : va_P D vwCl [(a_t_forms, .inl (cyJ, 6, .inr (.inl f_t_forms))), (a_t_roll, .inl (cyJ, 12, .inr (.inl f_t_roll_185))), (a_t, .inr (8, [.ref a_t_forms, .ref a_t_roll, .int c_t_many_79, .long c_t_taps, .int c_t_cells, .int c_t_acts_j27, .int c_t_refused_j27, .int c_t_knocks, .int c_t_thrown_27]))] H := by rw [e_f_t_roll_185]; exact hP
                have hD : va_D A [(a_t_forms, .inl (cyJ, 6, .inr (.inl f_t_forms))), (a_t_roll, .inl (cyJ, 12, .inr (.inl f_t_roll_185))), (a_t, .inr (8, [.ref a_t_forms, .ref a_t_roll, .int c_t_many_79, .long c_t_taps, .int c_t_cells, .int c_t_acts_j27, .int c_t_refused_j27, .int c_t_knocks, .int c_t_thrown_27]))] := by rw [e_f_t_roll_185]; exact hD
                obtain ⟨x3_186, e_x3_186⟩ : ∃ z : Int32, z = y3_132 + 1 := ⟨_, rfl⟩
                have h := bnd_h e_x3_186 h
                refine lv_iinc (v := x3_186) (lv' := [(3, .int x3_186), (4, .long x4_150), (0, .ref a_t)]) hx hb dX9_factor_186 hl (k := 2) rfl (by rw [e_x3_186]; rfl) (by decide) rfl (fun ls hl => ?_)
                refine lv_goto (tgt := 132) hx hb dX9_factor_189 (by decide) ?_
                exact hih132 x3_186 f_t_roll_185 h _ _ (hP.sub [0, 1, 2] rfl) (hD.sub [0, 1, 2] (by decide) rfl) hS ls (lv_sub hl [2, 0] rfl)
          · have h := if_ c83 h
            refine lv_aload_n hx hb dX9_factor_86 rfl (lv_at hl 0 rfl) ?_
            refine va_get (D := D) (ci := 8) (v := .ref a_t_roll) (C := RX9) (T := TX9) (N := 9) hx hb hts hinX9 hown hK hP 2 rfl rfl 1 (by decide) hfl13 (fun _ h9 => h9) rfl dX9_factor_87 ?_
            refine lv_aload_n hx hb dX9_factor_90 rfl (lv_at hl 0 rfl) ?_
            refine lv_dup hx hb dX9_factor_91 rfl ?_
            refine va_get (D := D) (ci := 8) (v := .int c_t_many_79) (C := RX9) (T := TX9) (N := 9) hx hb hts hinX9 hown hK hP 2 rfl rfl 2 (by decide) hfl123 (fun _ h9 => h9) rfl dX9_factor_92 ?_
            refine lv_dup_x1 hx hb dX9_factor_95 rfl rfl ?_
            refine lv_iconst (v := 1) hx hb dX9_factor_96 (by decide) ?_
            refine lv_iadd hx hb dX9_factor_97 ?_
            refine lv_topi (fun c_t_many_98 e_c_t_many_98 => ?_)
            have h := bnd_h e_c_t_many_98 h
            refine va_put (D := D) (ci := 8) (v := .int c_t_many_98) (ty := .int) (C := RX9) (T := TX9) (N := 9) hx hb hts hinX9 tyX9 tyX9_ok nmX9 hown hK hP hD hS 2 rfl rfl 2 (by decide) hfl123 (fun _ h9 => h9) rfl (by decide +kernel) rfl rfl (Nat.le_of_ble_eq_true rfl) dX9_factor_98 (fun H locs hP hD hS => ?_)
            have hP : va_P D vwCl [(a_t_forms, .inl (cyJ, 6, .inr (.inl f_t_forms))), (a_t_roll, .inl (cyJ, 12, .inr (.inl f_t_roll_79))), (a_t, .inr (8, [.ref a_t_forms, .ref a_t_roll, .int c_t_many_98, .long c_t_taps, .int c_t_cells, .int c_t_acts_j27, .int c_t_refused_j27, .int c_t_knocks, .int c_t_thrown_27]))] H := hP
            have hD : va_D A [(a_t_forms, .inl (cyJ, 6, .inr (.inl f_t_forms))), (a_t_roll, .inl (cyJ, 12, .inr (.inl f_t_roll_79))), (a_t, .inr (8, [.ref a_t_forms, .ref a_t_roll, .int c_t_many_98, .long c_t_taps, .int c_t_cells, .int c_t_acts_j27, .int c_t_refused_j27, .int c_t_knocks, .int c_t_thrown_27]))] := hD
            refine lv_lload_n hx hb dX9_factor_101 rfl (lv_at hl 2 rfl) ?_
            obtain ⟨r102, hc102, h⟩ := obn_h h
            refine pz_callS (As := [.long y3_79]) (rest := [.int c_t_many_79, .ref a_t_roll]) hcf (c_X9_least l y3_79 r102 hc102) (va_cwS 1 hts gX9_factor_X9_least rfl rfl rfl ydX9_least ⟨Nat.le_of_ble_eq_true rfl, Nat.le_of_ble_eq_true rfl⟩) hnw rfl hl.1 rfl (Nat.le_of_ble_eq_true rfl) dX9_factor_102 ⟨Nat.le_of_ble_eq_true rfl, Nat.le_of_ble_eq_true rfl⟩ ?_
            obtain ⟨hq105, h⟩ := chk_h h
            refine va_last hx hb hK hP hD hS 1 0 rfl rfl hq105 dX9_factor_105 (fun H locs hP hD hS => ?_)
            obtain ⟨f_t_roll_105, e_f_t_roll_105⟩ : ∃ z, z = vp_updL f_t_roll_79 c_t_many_79.toNatClampNeg r102 := ⟨_, rfl⟩
            have h := bnd_h e_f_t_roll_105 h
            have hP : va_P D vwCl [(a_t_forms, .inl (cyJ, 6, .inr (.inl f_t_forms))), (a_t_roll, .inl (cyJ, 12, .inr (.inl f_t_roll_105))), (a_t, .inr (8, [.ref a_t_forms, .ref a_t_roll, .int c_t_many_98, .long c_t_taps, .int c_t_cells, .int c_t_acts_j27, .int c_t_refused_j27, .int c_t_knocks, .int c_t_thrown_27]))] H := by rw [e_f_t_roll_105]; exact hP
            have hD : va_D A [(a_t_forms, .inl (cyJ, 6, .inr (.inl f_t_forms))), (a_t_roll, .inl (cyJ, 12, .inr (.inl f_t_roll_105))), (a_t, .inr (8, [.ref a_t_forms, .ref a_t_roll, .int c_t_many_98, .long c_t_taps, .int c_t_cells, .int c_t_acts_j27, .int c_t_refused_j27, .int c_t_knocks, .int c_t_thrown_27]))] := by rw [e_f_t_roll_105]; exact hD
            refine lv_lload_n hx hb dX9_factor_106 rfl (lv_at hl 2 rfl) ?_
            refine lv_aload_n hx hb dX9_factor_107 rfl (lv_at hl 0 rfl) ?_
            refine va_get (D := D) (ci := 8) (v := .ref a_t_roll) (C := RX9) (T := TX9) (N := 9) hx hb hts hinX9 hown hK hP 2 rfl rfl 1 (by decide) hfl13 (fun _ h9 => h9) rfl dX9_factor_108 ?_
            refine lv_aload_n hx hb dX9_factor_111 rfl (lv_at hl 0 rfl) ?_
            refine va_get (D := D) (ci := 8) (v := .int c_t_many_98) (C := RX9) (T := TX9) (N := 9) hx hb hts hinX9 hown hK hP 2 rfl rfl 2 (by decide) hfl123 (fun _ h9 => h9) rfl dX9_factor_112 ?_
            refine lv_iconst (v := 1) hx hb dX9_factor_115 (by decide) ?_
            refine lv_isub hx hb dX9_factor_116 ?_
            obtain ⟨hq117, h⟩ := chk_h h
            refine va_lald hx hb hK hP 1 0 rfl rfl hq117 dX9_factor_117 ?_
            obtain ⟨r118, hc118, h⟩ := obn_h h
            refine pz_callS (As := [.long y3_79, .long (f_t_roll_105 (c_t_many_98 - (1 : Int32)).toNatClampNeg)]) (rest := []) hcf (c_X9_quotientOf l y3_79 (f_t_roll_105 (c_t_many_98 - (1 : Int32)).toNatClampNeg) r118 hc118) (va_cwS 2 hts gX9_factor_X9_quotientOf rfl rfl rfl ydX9_quotientOf ⟨Nat.le_of_ble_eq_true rfl, Nat.le_of_ble_eq_true rfl⟩) hnw rfl hl.1 rfl (Nat.le_of_ble_eq_true rfl) dX9_factor_118 ⟨Nat.le_of_ble_eq_true rfl, Nat.le_of_ble_eq_true rfl⟩ ?_
            refine lv_lstore_n (lv' := [(3, .long r118), (0, .ref a_t), (2, .int p1)]) hx hb dX9_factor_121 rfl hl (by decide) rfl (fun ls hl => ?_)
            refine lv_goto (tgt := 79) hx hb dX9_factor_122 (by decide) ?_
            exact hih79 r118 c_t_many_98 f_t_roll_105 h _ _ (hP.sub [0, 1, 2] rfl) (hD.sub [0, 1, 2] (by decide) rfl) hS ls (lv_sub hl [1, 2, 0] rfl)
        · have h := if_ c59 h
          refine lv_aload_n hx hb dX9_factor_62 rfl (lv_at hl 0 rfl) ?_
          obtain ⟨r63, c_t_refused_63, hc63, h⟩ := obn2_h h
          have hPc := hP.sub (ws' := [(a_t, .inr (8, [.ref a_t_forms, .ref a_t_roll, .int c_t_many_j27, .long c_t_taps, .int c_t_cells, .int c_t_acts_j27, .int c_t_refused_j27, .int c_t_knocks, .int c_t_thrown_27]))]) [2] rfl
          have hDc := hD.sub (ws' := [(a_t, .inr (8, [.ref a_t_forms, .ref a_t_roll, .int c_t_many_j27, .long c_t_taps, .int c_t_cells, .int c_t_acts_j27, .int c_t_refused_j27, .int c_t_knocks, .int c_t_thrown_27]))]) [2] (by decide) rfl
          refine hp_i (w1 := [(a_t, .inr (8, [.ref a_t_forms, .ref a_t_roll, .int c_t_many_j27, .long c_t_taps, .int c_t_cells, .int c_t_acts_j27, .int c_t_refused_63, .int c_t_knocks, .int c_t_thrown_27]))]) (wr := [(a_t_forms, .inl (cyJ, 6, .inr (.inl f_t_forms))), (a_t_roll, .inl (cyJ, 12, .inr (.inl f_t_roll_j27)))]) (va_runV (As := []) (rest := []) hcf (c_X9_no l D cyJ H.size a_t a_t_forms a_t_roll c_t_many_j27 c_t_taps c_t_cells c_t_acts_j27 c_t_refused_j27 c_t_knocks c_t_thrown_27 r63 c_t_refused_63 hc63) (cwV 0 hts gX9_factor_X9_no rfl rfl rfl ydX9_no ⟨Nat.le_of_ble_eq_true rfl, Nat.le_of_ble_eq_true rfl⟩) ⟨bl_PD, va_recv hK hP (ci := 8) (q0 := 2) rfl rfl, pr_PD hPc hK0 hDc hnw⟩ rfl rfl hl.1 rfl (lv_room (Nat.le_of_ble_eq_true rfl)) dX9_factor_63 ⟨Nat.le_of_ble_eq_true rfl, Nat.le_of_ble_eq_true rfl⟩) hP hD hS hA [2] [0, 1] rfl rfl (by decide) (by decide) (fun H locs hP hD hS => ?_)
          have hP : va_P D vwCl [(a_t_forms, .inl (cyJ, 6, .inr (.inl f_t_forms))), (a_t_roll, .inl (cyJ, 12, .inr (.inl f_t_roll_j27))), (a_t, .inr (8, [.ref a_t_forms, .ref a_t_roll, .int c_t_many_j27, .long c_t_taps, .int c_t_cells, .int c_t_acts_j27, .int c_t_refused_63, .int c_t_knocks, .int c_t_thrown_27]))] H := hP
          have hD : va_D A [(a_t_forms, .inl (cyJ, 6, .inr (.inl f_t_forms))), (a_t_roll, .inl (cyJ, 12, .inr (.inl f_t_roll_j27))), (a_t, .inr (8, [.ref a_t_forms, .ref a_t_roll, .int c_t_many_j27, .long c_t_taps, .int c_t_cells, .int c_t_acts_j27, .int c_t_refused_63, .int c_t_knocks, .int c_t_thrown_27]))] := hD
          obtain ⟨e0, e1, e2, e3, e4, e5⟩ := tup6 h
          subst e0
          subst e1
          subst e2
          subst e3
          subst e4
          subst e5
          have hP9 : va_P D vwCl [(a_t, .inr (8, [.ref a_t_forms, .ref a_t_roll, .int c_t_many_j27, .long c_t_taps, .int c_t_cells, .int c_t_acts_j27, .int c_t_refused_63, .int c_t_knocks, .int c_t_thrown_27])), (a_t_forms, .inl (cyJ, 6, .inr (.inl f_t_forms))), (a_t_roll, .inl (cyJ, 12, .inr (.inl f_t_roll_j27)))] H := hP.sub [2, 0, 1] rfl
          have hD9 : va_D A [(a_t, .inr (8, [.ref a_t_forms, .ref a_t_roll, .int c_t_many_j27, .long c_t_taps, .int c_t_cells, .int c_t_acts_j27, .int c_t_refused_63, .int c_t_knocks, .int c_t_thrown_27])), (a_t_forms, .inl (cyJ, 6, .inr (.inl f_t_forms))), (a_t_roll, .inl (cyJ, 12, .inr (.inl f_t_roll_j27)))] := hD.sub [2, 0, 1] (by decide) rfl
          exact W.iret hx hb hr (fun t ht hW => ⟨⟨_, (), rfl, rfl, wQA_of ht hP9 hD9⟩, hS.F ht⟩) hS.2.2 dX9_factor_66
    · have h := if_ c30 h
      refine lv_iconst (v := 0) hx hb dX9_factor_33 (by decide) ?_
      obtain ⟨e0, e1, e2, e3, e4, e5⟩ := tup6 h
      subst e0
      subst e1
      subst e2
      subst e3
      subst e4
      subst e5
      have hP9 : va_P D vwCl [(a_t, .inr (8, [.ref a_t_forms, .ref a_t_roll, .int c_t_many_j27, .long c_t_taps, .int c_t_cells, .int c_t_acts_j27, .int c_t_refused_j27, .int c_t_knocks, .int c_t_thrown_27])), (a_t_forms, .inl (cyJ, 6, .inr (.inl f_t_forms))), (a_t_roll, .inl (cyJ, 12, .inr (.inl f_t_roll_j27)))] H := hP.sub [2, 0, 1] rfl
      have hD9 : va_D A [(a_t, .inr (8, [.ref a_t_forms, .ref a_t_roll, .int c_t_many_j27, .long c_t_taps, .int c_t_cells, .int c_t_acts_j27, .int c_t_refused_j27, .int c_t_knocks, .int c_t_thrown_27])), (a_t_forms, .inl (cyJ, 6, .inr (.inl f_t_forms))), (a_t_roll, .inl (cyJ, 12, .inr (.inl f_t_roll_j27)))] := hD.sub [2, 0, 1] (by decide) rfl
      exact W.iret hx hb hr (fun t ht hW => ⟨⟨_, (), rfl, rfl, wQA_of ht hP9 hD9⟩, hS.F ht⟩) hS.2.2 dX9_factor_34
  have hj22 : ∀ (js1_22 : Int32) (c_t_many_j22 : Int32) (c_t_acts_j22 : Int32) (c_t_refused_j22 : Int32) (c_t_thrown_j22 : Int32) (f_t_roll_j22 : Nat → Int64), J_X9_factor_22 p0 p1 f_t_forms js1_22 c_t_many_j22 c_t_acts_j22 c_t_refused_j22 c_t_thrown_j22 f_t_roll_j22 = some (r0, o_c_t_many, o_c_t_acts, o_c_t_refused, o_c_t_thrown, o_f_t_roll) → ∀ (H : Heap) (locs : List Loc), va_P D vwCl [(a_t, .inr (8, [.ref a_t_forms, .ref a_t_roll, .int c_t_many_j22, .long c_t_taps, .int c_t_cells, .int c_t_acts_j22, .int c_t_refused_j22, .int c_t_knocks, .int c_t_thrown_j22])), (a_t_forms, .inl (cyJ, 6, .inr (.inl f_t_forms))), (a_t_roll, .inl (cyJ, 12, .inr (.inl f_t_roll_j22)))] H → va_D A [(a_t, .inr (8, [.ref a_t_forms, .ref a_t_roll, .int c_t_many_j22, .long c_t_taps, .int c_t_cells, .int c_t_acts_j22, .int c_t_refused_j22, .int c_t_knocks, .int c_t_thrown_j22])), (a_t_forms, .inl (cyJ, 6, .inr (.inl f_t_forms))), (a_t_roll, .inl (cyJ, 12, .inr (.inl f_t_roll_j22)))] → va_S A s.heap H locs → ∀ (ls : Array Slot), lv_has ls 6 [(0, .ref a_t), (1, .int p0), (2, .int p1)] → W p l e rmX9_factor s m ([.ref a_t, .int p0, .int p1] : List Value).toArray below meth c H locs 0 0 (MQ below (va_Qi (fun (r : Int32) (_ : Unit) => r = r0) (fun _ t => wQA D [(a_t, .inr (8, [.ref a_t_forms, .ref a_t_roll, .int o_c_t_many, .long c_t_taps, .int c_t_cells, .int o_c_t_acts, .int o_c_t_refused, .int c_t_knocks, .int o_c_t_thrown])), (a_t_forms, .inl (cyJ, 6, .inr (.inl f_t_forms))), (a_t_roll, .inl (cyJ, 12, .inr (.inl o_f_t_roll)))] A t) A) ([.ref a_t, .int p0, .int p1] : List Value).toArray s 0 0 A) (F0 m 22 ls [.int js1_22, .ref a_t]) := by
    intro js1_22 c_t_many_j22 c_t_acts_j22 c_t_refused_j22 c_t_thrown_j22 f_t_roll_j22 h H locs hP hD hS ls hl
    unfold J_X9_factor_22 at h
    refine lv_iconst (v := 1) hx hb dX9_factor_22 (by decide) ?_
    refine lv_goto (tgt := 27) hx hb dX9_factor_23 (by decide) ?_
    exact hj27 js1_22 (1 : Int32) c_t_many_j22 c_t_acts_j22 c_t_refused_j22 c_t_thrown_j22 f_t_roll_j22 h _ _ (hP.sub [0, 1, 2] rfl) (hD.sub [0, 1, 2] (by decide) rfl) hS ls (lv_sub hl [0, 1, 2] rfl)
  have hj13 : ∀ (js1_13 : Int32) (c_t_many_j13 : Int32) (c_t_acts_j13 : Int32) (c_t_refused_j13 : Int32) (c_t_thrown_j13 : Int32) (f_t_roll_j13 : Nat → Int64), J_X9_factor_13 p0 p1 f_t_forms js1_13 c_t_many_j13 c_t_acts_j13 c_t_refused_j13 c_t_thrown_j13 f_t_roll_j13 = some (r0, o_c_t_many, o_c_t_acts, o_c_t_refused, o_c_t_thrown, o_f_t_roll) → ∀ (H : Heap) (locs : List Loc), va_P D vwCl [(a_t, .inr (8, [.ref a_t_forms, .ref a_t_roll, .int c_t_many_j13, .long c_t_taps, .int c_t_cells, .int c_t_acts_j13, .int c_t_refused_j13, .int c_t_knocks, .int c_t_thrown_j13])), (a_t_forms, .inl (cyJ, 6, .inr (.inl f_t_forms))), (a_t_roll, .inl (cyJ, 12, .inr (.inl f_t_roll_j13)))] H → va_D A [(a_t, .inr (8, [.ref a_t_forms, .ref a_t_roll, .int c_t_many_j13, .long c_t_taps, .int c_t_cells, .int c_t_acts_j13, .int c_t_refused_j13, .int c_t_knocks, .int c_t_thrown_j13])), (a_t_forms, .inl (cyJ, 6, .inr (.inl f_t_forms))), (a_t_roll, .inl (cyJ, 12, .inr (.inl f_t_roll_j13)))] → va_S A s.heap H locs → ∀ (ls : Array Slot), lv_has ls 6 [(0, .ref a_t), (1, .int p0), (2, .int p1)] → W p l e rmX9_factor s m ([.ref a_t, .int p0, .int p1] : List Value).toArray below meth c H locs 0 0 (MQ below (va_Qi (fun (r : Int32) (_ : Unit) => r = r0) (fun _ t => wQA D [(a_t, .inr (8, [.ref a_t_forms, .ref a_t_roll, .int o_c_t_many, .long c_t_taps, .int c_t_cells, .int o_c_t_acts, .int o_c_t_refused, .int c_t_knocks, .int o_c_t_thrown])), (a_t_forms, .inl (cyJ, 6, .inr (.inl f_t_forms))), (a_t_roll, .inl (cyJ, 12, .inr (.inl o_f_t_roll)))] A t) A) ([.ref a_t, .int p0, .int p1] : List Value).toArray s 0 0 A) (F0 m 13 ls [.int js1_13, .ref a_t]) := by
    intro js1_13 c_t_many_j13 c_t_acts_j13 c_t_refused_j13 c_t_thrown_j13 f_t_roll_j13 h H locs hP hD hS ls hl
    unfold J_X9_factor_13 at h
    refine lv_iload_n hx hb dX9_factor_13 rfl (lv_at hl 2 rfl) ?_
    refine lv_if_lt (tgt := 22) hx hb dX9_factor_14 (by decide) (fun c14 => ?_) (fun c14 => ?_)
    · have h := it_ c14 h
      exact hj22 js1_13 c_t_many_j13 c_t_acts_j13 c_t_refused_j13 c_t_thrown_j13 f_t_roll_j13 h _ _ (hP.sub [0, 1, 2] rfl) (hD.sub [0, 1, 2] (by decide) rfl) hS ls (lv_sub hl [0, 1, 2] rfl)
    · have h := if_ c14 h
      refine lv_iload_n hx hb dX9_factor_17 rfl (lv_at hl 2 rfl) ?_
      refine lv_iconst (v := 1) hx hb dX9_factor_18 (by decide) ?_
      refine lv_icmp_le (tgt := 26) hx hb dX9_factor_19 (by decide) (fun c19 => ?_) (fun c19 => ?_)
      · have h := it_ c19 h
        refine lv_iconst (v := 0) hx hb dX9_factor_26 (by decide) ?_
        exact hj27 js1_13 (0 : Int32) c_t_many_j13 c_t_acts_j13 c_t_refused_j13 c_t_thrown_j13 f_t_roll_j13 h _ _ (hP.sub [0, 1, 2] rfl) (hD.sub [0, 1, 2] (by decide) rfl) hS ls (lv_sub hl [0, 1, 2] rfl)
      · have h := if_ c19 h
        exact hj22 js1_13 c_t_many_j13 c_t_acts_j13 c_t_refused_j13 c_t_thrown_j13 f_t_roll_j13 h _ _ (hP.sub [0, 1, 2] rfl) (hD.sub [0, 1, 2] (by decide) rfl) hS ls (lv_sub hl [0, 1, 2] rfl)
  refine lv_aload_n hx hb dX9_factor_0 rfl (lv_at hl 0 rfl) ?_
  refine lv_iload_n hx hb dX9_factor_1 rfl (lv_at hl 1 rfl) ?_
  obtain ⟨r2, hc2, h⟩ := obn_h h
  refine pz_callS (As := [.int p0]) (rest := [.ref a_t]) hcf (c_X9_isForm l p0 r2 hc2) (va_cwS 1 hts gX9_factor_X9_isForm rfl rfl rfl ydX9_isForm ⟨Nat.le_of_ble_eq_true rfl, Nat.le_of_ble_eq_true rfl⟩) hnw rfl hl.1 rfl (Nat.le_of_ble_eq_true rfl) dX9_factor_2 ⟨Nat.le_of_ble_eq_true rfl, Nat.le_of_ble_eq_true rfl⟩ ?_
  refine lv_if_ne (tgt := 12) hx hb dX9_factor_5 (by decide) (fun c5 => ?_) (fun c5 => ?_)
  · have h := if_ c5 h
    refine lv_iconst (v := 0) hx hb dX9_factor_12 (by decide) ?_
    exact hj13 (0 : Int32) c_t_many c_t_acts c_t_refused c_t_thrown f_t_roll h _ _ (hP.sub [0, 1, 2] rfl) (hD.sub [0, 1, 2] (by decide) rfl) hS ls (lv_sub hl [0, 1, 2] rfl)
  · have h := it_ c5 h
    refine lv_iconst (v := 1) hx hb dX9_factor_8 (by decide) ?_
    refine lv_goto (tgt := 13) hx hb dX9_factor_9 (by decide) ?_
    exact hj13 (1 : Int32) c_t_many c_t_acts c_t_refused c_t_thrown f_t_roll h _ _ (hP.sub [0, 1, 2] rfl) (hD.sub [0, 1, 2] (by decide) rfl) hS ls (lv_sub hl [0, 1, 2] rfl)

noncomputable abbrev rmX9_enroll : Room := { frames := 2, cells := 0, slots := 0, locals := 43 }
theorem ydX9_enroll : yX9_enroll.cls = RX9 ∧ yX9_enroll.cls ≠ "java/lang/invoke/MethodHandle" ∧ yX9_enroll.cls ≠ "java/lang/invoke/VarHandle" ∧ (parseMethodDescriptor yX9_enroll.desc).map (fun d => d.parameters.length) = some 1 := by decide +kernel
noncomputable def F_X9_enroll (c_t_many : Int32) (c_t_acts : Int32) (c_t_refused : Int32) (f_t_forms : Nat → Int64) (f_t_roll : Nat → Int64) (p0 : Int32) : Option (Int32 × Int32 × Int32 × Int32 × Int32 × (Nat → Int64)) :=
 obn (F_X9_isForm p0) (fun r2 =>
 (if r2 = 0 then
 obn2 (F_X9_isThrown_ (1 : Int32)) (fun r13 c_t_thrown_13 =>
 (if r13 = 0 then
 (if c_t_many = (12 : Int32) then
 obn2 (F_X9_no c_t_refused) (fun r31 c_t_refused_31 =>
 some (r31, c_t_many, c_t_acts, c_t_refused_31, c_t_thrown_13, f_t_roll))
else
 bnd (c_t_many + (1 : Int32)) (fun c_t_many_47 =>
 chk (¬ (p0 < 0 ∨ 6 ≤ p0.toNatClampNeg)) (
 chk (¬ (c_t_many < 0 ∨ 12 ≤ c_t_many.toNatClampNeg)) (
 bnd (vp_updL f_t_roll c_t_many.toNatClampNeg (f_t_forms p0.toNatClampNeg)) (fun f_t_roll_56 =>
 obn2 (F_X9_done c_t_acts c_t_many_47) (fun r62 c_t_acts_62 =>
 some (r62, c_t_many_47, c_t_acts_62, c_t_refused, c_t_thrown_13, f_t_roll_56)))))))
else
 some ((0 : Int32), c_t_many, c_t_acts, c_t_refused, c_t_thrown_13, f_t_roll)))
else
 obn2 (F_X9_isThrown_ (0 : Int32)) (fun r13 c_t_thrown_13 =>
 (if r13 = 0 then
 (if c_t_many = (12 : Int32) then
 obn2 (F_X9_no c_t_refused) (fun r31 c_t_refused_31 =>
 some (r31, c_t_many, c_t_acts, c_t_refused_31, c_t_thrown_13, f_t_roll))
else
 bnd (c_t_many + (1 : Int32)) (fun c_t_many_47 =>
 chk (¬ (p0 < 0 ∨ 6 ≤ p0.toNatClampNeg)) (
 chk (¬ (c_t_many < 0 ∨ 12 ≤ c_t_many.toNatClampNeg)) (
 bnd (vp_updL f_t_roll c_t_many.toNatClampNeg (f_t_forms p0.toNatClampNeg)) (fun f_t_roll_56 =>
 obn2 (F_X9_done c_t_acts c_t_many_47) (fun r62 c_t_acts_62 =>
 some (r62, c_t_many_47, c_t_acts_62, c_t_refused, c_t_thrown_13, f_t_roll_56)))))))
else
 some ((0 : Int32), c_t_many, c_t_acts, c_t_refused, c_t_thrown_13, f_t_roll)))))
set_option maxHeartbeats 4000000 in
set_option maxRecDepth 100000 in
theorem c_X9_enroll (l : Launch) (D : va_G) (cyJ : ClassId) (sz : Nat) (a_t : Nat) (a_t_forms : Nat) (a_t_roll : Nat) (c_t_many : Int32) (c_t_taps : Int64) (c_t_cells : Int32) (c_t_acts : Int32) (c_t_refused : Int32) (c_t_knocks : Int32) (c_t_thrown : Int32) (f_t_forms : Nat → Int64) (f_t_roll : Nat → Int64) (p0 : Int32) (r0 : Int32) (o_c_t_many : Int32) (o_c_t_acts : Int32) (o_c_t_refused : Int32) (o_c_t_thrown : Int32) (o_f_t_roll : Nat → Int64) (hF : F_X9_enroll c_t_many c_t_acts c_t_refused f_t_forms f_t_roll p0 = some (r0, o_c_t_many, o_c_t_acts, o_c_t_refused, o_c_t_thrown, o_f_t_roll)) : Met l yX9_enroll wsX9_enroll rmX9_enroll (va_Pc [.ref a_t, .int p0] (wPD D [(cyJ, .long)] [(a_t, .inr (8, [.ref a_t_forms, .ref a_t_roll, .int c_t_many, .long c_t_taps, .int c_t_cells, .int c_t_acts, .int c_t_refused, .int c_t_knocks, .int c_t_thrown])), (a_t_forms, .inl (cyJ, 6, .inr (.inl f_t_forms))), (a_t_roll, .inl (cyJ, 12, .inr (.inl f_t_roll)))] sz)) (va_Qi (fun (r : Int32) (_ : Unit) => r = r0) (fun _ t => wQA D [(a_t, .inr (8, [.ref a_t_forms, .ref a_t_roll, .int o_c_t_many, .long c_t_taps, .int c_t_cells, .int o_c_t_acts, .int o_c_t_refused, .int c_t_knocks, .int o_c_t_thrown])), (a_t_forms, .inl (cyJ, 6, .inr (.inl f_t_forms))), (a_t_roll, .inl (cyJ, 12, .inr (.inl o_f_t_roll)))] (va_A [(a_t, .inr (8, [.ref a_t_forms, .ref a_t_roll, .int c_t_many, .long c_t_taps, .int c_t_cells, .int c_t_acts, .int c_t_refused, .int c_t_knocks, .int c_t_thrown])), (a_t_forms, .inl (cyJ, 6, .inr (.inl f_t_forms))), (a_t_roll, .inl (cyJ, 12, .inr (.inl f_t_roll)))] sz) t) (va_A [(a_t, .inr (8, [.ref a_t_forms, .ref a_t_roll, .int c_t_many, .long c_t_taps, .int c_t_cells, .int c_t_acts, .int c_t_refused, .int c_t_knocks, .int c_t_thrown])), (a_t_forms, .inl (cyJ, 6, .inr (.inl f_t_forms))), (a_t_roll, .inl (cyJ, 12, .inr (.inl f_t_roll)))] sz)) 0 0 (va_A [(a_t, .inr (8, [.ref a_t_forms, .ref a_t_roll, .int c_t_many, .long c_t_taps, .int c_t_cells, .int c_t_acts, .int c_t_refused, .int c_t_knocks, .int c_t_thrown])), (a_t_forms, .inl (cyJ, 6, .inr (.inl f_t_forms))), (a_t_roll, .inl (cyJ, 12, .inr (.inl f_t_roll)))] sz) := by
  refine Met.ofW (cc := cX9_enroll) (maxL := 2) (ret := (some .int)) (by decide) rfl ?_
  intro p e s m args below meth c s₁ B hml hv
  obtain ⟨rfl, hsz, hP, hK, hD0, hnw⟩ := hv
  have hx := B.exec
  have hb := B.bytes
  have hr := B.returns
  have hts := atoms_spec (ws := wsX9_enroll) B.pre
  have hown : s.vm.findClass RX9 = some m.cls := findClass_of_methodNamed B.named
  have hlocks := B.notSynchronized
  have hcf : CallFix _ _ _ _ _ _ _ _ _ := ⟨hx, hb, hml, hown, hts⟩
  have hinX9 : ∀ w ∈ u_ws RX9 TX9 9, w ∈ wsX9_enroll := by decide +kernel
  have hfl123 := hts (.fieldLink RX9 123 "FormwheelModel" "many" "I") (by decide +kernel)
  have hfl13 := hts (.fieldLink RX9 13 "FormwheelModel" "roll" "[J") (by decide +kernel)
  have hfl9 := hts (.fieldLink RX9 9 "FormwheelModel" "forms" "[J") (by decide +kernel)
  subst hsz
  have hD := hD0.self (sz := s.heap.size)
  generalize hAe : va_A [(a_t, .inr (8, [.ref a_t_forms, .ref a_t_roll, .int c_t_many, .long c_t_taps, .int c_t_cells, .int c_t_acts, .int c_t_refused, .int c_t_knocks, .int c_t_thrown])), (a_t_forms, .inl (cyJ, 6, .inr (.inl f_t_forms))), (a_t_roll, .inl (cyJ, 12, .inr (.inl f_t_roll)))] s.heap.size = A at hD ⊢
  have hA : ∀ q : Nat, s.heap.size ≤ q → A q := fun q h => by rw [← hAe]; exact Or.inr h
  have hS : va_S A s.heap s.heap [] := va_S.rf
  have hP : va_P D vwCl [(a_t, .inr (8, [.ref a_t_forms, .ref a_t_roll, .int c_t_many, .long c_t_taps, .int c_t_cells, .int c_t_acts, .int c_t_refused, .int c_t_knocks, .int c_t_thrown])), (a_t_forms, .inl (cyJ, 6, .inr (.inl f_t_forms))), (a_t_roll, .inl (cyJ, 12, .inr (.inl f_t_roll)))] s.heap := hP
  have hK0 := hK
  have hl := lv_entry ([.ref a_t, .int p0]) (n := 2) (Nat.le_of_ble_eq_true rfl)
  rw [lg_entry_eq]
  generalize (lg_sl ([.ref a_t, .int p0]) ++ List.replicate (2 - (lg_sl ([.ref a_t, .int p0])).length) Slot.unset).toArray = ls at hl ⊢
  have hl : lv_has ls 2 [(0, .ref a_t), (1, .int p0)] := hl
  have h := hF
  clear hF
  unfold F_X9_enroll at h
  refine lv_aload_n hx hb dX9_enroll_0 rfl (lv_at hl 0 rfl) ?_
  refine lv_iload_n hx hb dX9_enroll_1 rfl (lv_at hl 1 rfl) ?_
  obtain ⟨r2, hc2, h⟩ := obn_h h
  refine pz_callS (As := [.int p0]) (rest := [.ref a_t]) hcf (c_X9_isForm l p0 r2 hc2) (va_cwS 1 hts gX9_enroll_X9_isForm rfl rfl rfl ydX9_isForm ⟨Nat.le_of_ble_eq_true rfl, Nat.le_of_ble_eq_true rfl⟩) hnw rfl hl.1 rfl (Nat.le_of_ble_eq_true rfl) dX9_enroll_2 ⟨Nat.le_of_ble_eq_true rfl, Nat.le_of_ble_eq_true rfl⟩ ?_
  refine lv_if_ne (tgt := 12) hx hb dX9_enroll_5 (by decide) (fun c5 => ?_) (fun c5 => ?_)
  · have h := if_ c5 h
    refine lv_iconst (v := 0) hx hb dX9_enroll_12 (by decide) ?_
    obtain ⟨r13, c_t_thrown_13, hc13, h⟩ := obn2_h h
    have hPc := hP.sub (ws' := [(a_t, .inr (8, [.ref a_t_forms, .ref a_t_roll, .int c_t_many, .long c_t_taps, .int c_t_cells, .int c_t_acts, .int c_t_refused, .int c_t_knocks, .int c_t_thrown]))]) [0] rfl
    have hDc := hD.sub (ws' := [(a_t, .inr (8, [.ref a_t_forms, .ref a_t_roll, .int c_t_many, .long c_t_taps, .int c_t_cells, .int c_t_acts, .int c_t_refused, .int c_t_knocks, .int c_t_thrown]))]) [0] (by decide) rfl
    refine hp_i (w1 := [(a_t, .inr (8, [.ref a_t_forms, .ref a_t_roll, .int c_t_many, .long c_t_taps, .int c_t_cells, .int c_t_acts, .int c_t_refused, .int c_t_knocks, .int c_t_thrown_13]))]) (wr := [(a_t_forms, .inl (cyJ, 6, .inr (.inl f_t_forms))), (a_t_roll, .inl (cyJ, 12, .inr (.inl f_t_roll)))]) (va_runV (As := [.int (0 : Int32)]) (rest := []) hcf (c_X9_isThrown_ l D cyJ s.heap.size a_t a_t_forms a_t_roll c_t_many c_t_taps c_t_cells c_t_acts c_t_refused c_t_knocks c_t_thrown (0 : Int32) r13 c_t_thrown_13 hc13) (cwV 1 hts gX9_enroll_X9_isThrown_ rfl rfl rfl ydX9_isThrown_ ⟨Nat.le_of_ble_eq_true rfl, Nat.le_of_ble_eq_true rfl⟩) ⟨bl_PD, va_recv hK hP (ci := 8) (q0 := 0) rfl rfl, pr_PD hPc hK0 hDc hnw⟩ rfl rfl hl.1 rfl (lv_room (Nat.le_of_ble_eq_true rfl)) dX9_enroll_13 ⟨Nat.le_of_ble_eq_true rfl, Nat.le_of_ble_eq_true rfl⟩) hP hD hS hA [0] [1, 2] rfl rfl (by decide) (by decide) (fun H locs hP hD hS => ?_)
    have hP : va_P D vwCl [(a_t_forms, .inl (cyJ, 6, .inr (.inl f_t_forms))), (a_t_roll, .inl (cyJ, 12, .inr (.inl f_t_roll))), (a_t, .inr (8, [.ref a_t_forms, .ref a_t_roll, .int c_t_many, .long c_t_taps, .int c_t_cells, .int c_t_acts, .int c_t_refused, .int c_t_knocks, .int c_t_thrown_13]))] H := hP
    have hD : va_D A [(a_t_forms, .inl (cyJ, 6, .inr (.inl f_t_forms))), (a_t_roll, .inl (cyJ, 12, .inr (.inl f_t_roll))), (a_t, .inr (8, [.ref a_t_forms, .ref a_t_roll, .int c_t_many, .long c_t_taps, .int c_t_cells, .int c_t_acts, .int c_t_refused, .int c_t_knocks, .int c_t_thrown_13]))] := hD
    refine lv_if_eq (tgt := 21) hx hb dX9_enroll_16 (by decide) (fun c16 => ?_) (fun c16 => ?_)
    · have h := it_ c16 h
      refine lv_aload_n hx hb dX9_enroll_21 rfl (lv_at hl 0 rfl) ?_
      refine va_get (D := D) (ci := 8) (v := .int c_t_many) (C := RX9) (T := TX9) (N := 9) hx hb hts hinX9 hown hK hP 2 rfl rfl 2 (by decide) hfl123 (fun _ h9 => h9) rfl dX9_enroll_22 ?_
      refine lv_bipush (v := 12) hx hb dX9_enroll_25 (by decide) ?_
      refine lv_icmp_ne (tgt := 35) hx hb dX9_enroll_27 (by decide) (fun c27 => ?_) (fun c27 => ?_)
      · have h := if_ c27 h
        refine lv_aload_n hx hb dX9_enroll_35 rfl (lv_at hl 0 rfl) ?_
        refine va_get (D := D) (ci := 8) (v := .ref a_t_roll) (C := RX9) (T := TX9) (N := 9) hx hb hts hinX9 hown hK hP 2 rfl rfl 1 (by decide) hfl13 (fun _ h9 => h9) rfl dX9_enroll_36 ?_
        refine lv_aload_n hx hb dX9_enroll_39 rfl (lv_at hl 0 rfl) ?_
        refine lv_dup hx hb dX9_enroll_40 rfl ?_
        refine va_get (D := D) (ci := 8) (v := .int c_t_many) (C := RX9) (T := TX9) (N := 9) hx hb hts hinX9 hown hK hP 2 rfl rfl 2 (by decide) hfl123 (fun _ h9 => h9) rfl dX9_enroll_41 ?_
        refine lv_dup_x1 hx hb dX9_enroll_44 rfl rfl ?_
        refine lv_iconst (v := 1) hx hb dX9_enroll_45 (by decide) ?_
        refine lv_iadd hx hb dX9_enroll_46 ?_
        refine lv_topi (fun c_t_many_47 e_c_t_many_47 => ?_)
        have h := bnd_h e_c_t_many_47 h
        refine va_put (D := D) (ci := 8) (v := .int c_t_many_47) (ty := .int) (C := RX9) (T := TX9) (N := 9) hx hb hts hinX9 tyX9 tyX9_ok nmX9 hown hK hP hD hS 2 rfl rfl 2 (by decide) hfl123 (fun _ h9 => h9) rfl (by decide +kernel) rfl rfl (Nat.le_of_ble_eq_true rfl) dX9_enroll_47 (fun H locs hP hD hS => ?_)
        have hP : va_P D vwCl [(a_t_forms, .inl (cyJ, 6, .inr (.inl f_t_forms))), (a_t_roll, .inl (cyJ, 12, .inr (.inl f_t_roll))), (a_t, .inr (8, [.ref a_t_forms, .ref a_t_roll, .int c_t_many_47, .long c_t_taps, .int c_t_cells, .int c_t_acts, .int c_t_refused, .int c_t_knocks, .int c_t_thrown_13]))] H := hP
        have hD : va_D A [(a_t_forms, .inl (cyJ, 6, .inr (.inl f_t_forms))), (a_t_roll, .inl (cyJ, 12, .inr (.inl f_t_roll))), (a_t, .inr (8, [.ref a_t_forms, .ref a_t_roll, .int c_t_many_47, .long c_t_taps, .int c_t_cells, .int c_t_acts, .int c_t_refused, .int c_t_knocks, .int c_t_thrown_13]))] := hD
        refine lv_aload_n hx hb dX9_enroll_50 rfl (lv_at hl 0 rfl) ?_
        refine va_get (D := D) (ci := 8) (v := .ref a_t_forms) (C := RX9) (T := TX9) (N := 9) hx hb hts hinX9 hown hK hP 2 rfl rfl 0 (by decide) hfl9 (fun _ h9 => h9) rfl dX9_enroll_51 ?_
        refine lv_iload_n hx hb dX9_enroll_54 rfl (lv_at hl 1 rfl) ?_
        obtain ⟨hq55, h⟩ := chk_h h
        refine va_lald hx hb hK hP 0 0 rfl rfl hq55 dX9_enroll_55 ?_
        obtain ⟨hq56, h⟩ := chk_h h
        refine va_last hx hb hK hP hD hS 1 0 rfl rfl hq56 dX9_enroll_56 (fun H locs hP hD hS => ?_)
        obtain ⟨f_t_roll_56, e_f_t_roll_56⟩ : ∃ z, z = vp_updL f_t_roll c_t_many.toNatClampNeg (f_t_forms p0.toNatClampNeg) := ⟨_, rfl⟩
        have h := bnd_h e_f_t_roll_56 h
        have hP : va_P D vwCl [(a_t_forms, .inl (cyJ, 6, .inr (.inl f_t_forms))), (a_t_roll, .inl (cyJ, 12, .inr (.inl f_t_roll_56))), (a_t, .inr (8, [.ref a_t_forms, .ref a_t_roll, .int c_t_many_47, .long c_t_taps, .int c_t_cells, .int c_t_acts, .int c_t_refused, .int c_t_knocks, .int c_t_thrown_13]))] H := by rw [e_f_t_roll_56]; exact hP
        have hD : va_D A [(a_t_forms, .inl (cyJ, 6, .inr (.inl f_t_forms))), (a_t_roll, .inl (cyJ, 12, .inr (.inl f_t_roll_56))), (a_t, .inr (8, [.ref a_t_forms, .ref a_t_roll, .int c_t_many_47, .long c_t_taps, .int c_t_cells, .int c_t_acts, .int c_t_refused, .int c_t_knocks, .int c_t_thrown_13]))] := by rw [e_f_t_roll_56]; exact hD
        refine lv_aload_n hx hb dX9_enroll_57 rfl (lv_at hl 0 rfl) ?_
        refine lv_aload_n hx hb dX9_enroll_58 rfl (lv_at hl 0 rfl) ?_
        refine va_get (D := D) (ci := 8) (v := .int c_t_many_47) (C := RX9) (T := TX9) (N := 9) hx hb hts hinX9 hown hK hP 2 rfl rfl 2 (by decide) hfl123 (fun _ h9 => h9) rfl dX9_enroll_59 ?_
        obtain ⟨r62, c_t_acts_62, hc62, h⟩ := obn2_h h
        have hPc := hP.sub (ws' := [(a_t, .inr (8, [.ref a_t_forms, .ref a_t_roll, .int c_t_many_47, .long c_t_taps, .int c_t_cells, .int c_t_acts, .int c_t_refused, .int c_t_knocks, .int c_t_thrown_13]))]) [2] rfl
        have hDc := hD.sub (ws' := [(a_t, .inr (8, [.ref a_t_forms, .ref a_t_roll, .int c_t_many_47, .long c_t_taps, .int c_t_cells, .int c_t_acts, .int c_t_refused, .int c_t_knocks, .int c_t_thrown_13]))]) [2] (by decide) rfl
        refine hp_i (w1 := [(a_t, .inr (8, [.ref a_t_forms, .ref a_t_roll, .int c_t_many_47, .long c_t_taps, .int c_t_cells, .int c_t_acts_62, .int c_t_refused, .int c_t_knocks, .int c_t_thrown_13]))]) (wr := [(a_t_forms, .inl (cyJ, 6, .inr (.inl f_t_forms))), (a_t_roll, .inl (cyJ, 12, .inr (.inl f_t_roll_56)))]) (va_runV (As := [.int c_t_many_47]) (rest := []) hcf (c_X9_done l D cyJ H.size a_t a_t_forms a_t_roll c_t_many_47 c_t_taps c_t_cells c_t_acts c_t_refused c_t_knocks c_t_thrown_13 c_t_many_47 r62 c_t_acts_62 hc62) (cwV 1 hts gX9_enroll_X9_done rfl rfl rfl ydX9_done ⟨Nat.le_of_ble_eq_true rfl, Nat.le_of_ble_eq_true rfl⟩) ⟨bl_PD, va_recv hK hP (ci := 8) (q0 := 2) rfl rfl, pr_PD hPc hK0 hDc hnw⟩ rfl rfl hl.1 rfl (lv_room (Nat.le_of_ble_eq_true rfl)) dX9_enroll_62 ⟨Nat.le_of_ble_eq_true rfl, Nat.le_of_ble_eq_true rfl⟩) hP hD hS hA [2] [0, 1] rfl rfl (by decide) (by decide) (fun H locs hP hD hS => ?_)
        have hP : va_P D vwCl [(a_t_forms, .inl (cyJ, 6, .inr (.inl f_t_forms))), (a_t_roll, .inl (cyJ, 12, .inr (.inl f_t_roll_56))), (a_t, .inr (8, [.ref a_t_forms, .ref a_t_roll, .int c_t_many_47, .long c_t_taps, .int c_t_cells, .int c_t_acts_62, .int c_t_refused, .int c_t_knocks, .int c_t_thrown_13]))] H := hP
        have hD : va_D A [(a_t_forms, .inl (cyJ, 6, .inr (.inl f_t_forms))), (a_t_roll, .inl (cyJ, 12, .inr (.inl f_t_roll_56))), (a_t, .inr (8, [.ref a_t_forms, .ref a_t_roll, .int c_t_many_47, .long c_t_taps, .int c_t_cells, .int c_t_acts_62, .int c_t_refused, .int c_t_knocks, .int c_t_thrown_13]))] := hD
        obtain ⟨e0, e1, e2, e3, e4, e5⟩ := tup6 h
        subst e0
        subst e1
        subst e2
        subst e3
        subst e4
        subst e5
        have hP9 : va_P D vwCl [(a_t, .inr (8, [.ref a_t_forms, .ref a_t_roll, .int c_t_many_47, .long c_t_taps, .int c_t_cells, .int c_t_acts_62, .int c_t_refused, .int c_t_knocks, .int c_t_thrown_13])), (a_t_forms, .inl (cyJ, 6, .inr (.inl f_t_forms))), (a_t_roll, .inl (cyJ, 12, .inr (.inl f_t_roll_56)))] H := hP.sub [2, 0, 1] rfl
        have hD9 : va_D A [(a_t, .inr (8, [.ref a_t_forms, .ref a_t_roll, .int c_t_many_47, .long c_t_taps, .int c_t_cells, .int c_t_acts_62, .int c_t_refused, .int c_t_knocks, .int c_t_thrown_13])), (a_t_forms, .inl (cyJ, 6, .inr (.inl f_t_forms))), (a_t_roll, .inl (cyJ, 12, .inr (.inl f_t_roll_56)))] := hD.sub [2, 0, 1] (by decide) rfl
        exact W.iret hx hb hr (fun t ht hW => ⟨⟨_, (), rfl, rfl, wQA_of ht hP9 hD9⟩, hS.F ht⟩) hS.2.2 dX9_enroll_65
      · have h := it_ c27 h
        refine lv_aload_n hx hb dX9_enroll_30 rfl (lv_at hl 0 rfl) ?_
        obtain ⟨r31, c_t_refused_31, hc31, h⟩ := obn2_h h
        have hPc := hP.sub (ws' := [(a_t, .inr (8, [.ref a_t_forms, .ref a_t_roll, .int c_t_many, .long c_t_taps, .int c_t_cells, .int c_t_acts, .int c_t_refused, .int c_t_knocks, .int c_t_thrown_13]))]) [2] rfl
        have hDc := hD.sub (ws' := [(a_t, .inr (8, [.ref a_t_forms, .ref a_t_roll, .int c_t_many, .long c_t_taps, .int c_t_cells, .int c_t_acts, .int c_t_refused, .int c_t_knocks, .int c_t_thrown_13]))]) [2] (by decide) rfl
        refine hp_i (w1 := [(a_t, .inr (8, [.ref a_t_forms, .ref a_t_roll, .int c_t_many, .long c_t_taps, .int c_t_cells, .int c_t_acts, .int c_t_refused_31, .int c_t_knocks, .int c_t_thrown_13]))]) (wr := [(a_t_forms, .inl (cyJ, 6, .inr (.inl f_t_forms))), (a_t_roll, .inl (cyJ, 12, .inr (.inl f_t_roll)))]) (va_runV (As := []) (rest := []) hcf (c_X9_no l D cyJ H.size a_t a_t_forms a_t_roll c_t_many c_t_taps c_t_cells c_t_acts c_t_refused c_t_knocks c_t_thrown_13 r31 c_t_refused_31 hc31) (cwV 0 hts gX9_enroll_X9_no rfl rfl rfl ydX9_no ⟨Nat.le_of_ble_eq_true rfl, Nat.le_of_ble_eq_true rfl⟩) ⟨bl_PD, va_recv hK hP (ci := 8) (q0 := 2) rfl rfl, pr_PD hPc hK0 hDc hnw⟩ rfl rfl hl.1 rfl (lv_room (Nat.le_of_ble_eq_true rfl)) dX9_enroll_31 ⟨Nat.le_of_ble_eq_true rfl, Nat.le_of_ble_eq_true rfl⟩) hP hD hS hA [2] [0, 1] rfl rfl (by decide) (by decide) (fun H locs hP hD hS => ?_)
        have hP : va_P D vwCl [(a_t_forms, .inl (cyJ, 6, .inr (.inl f_t_forms))), (a_t_roll, .inl (cyJ, 12, .inr (.inl f_t_roll))), (a_t, .inr (8, [.ref a_t_forms, .ref a_t_roll, .int c_t_many, .long c_t_taps, .int c_t_cells, .int c_t_acts, .int c_t_refused_31, .int c_t_knocks, .int c_t_thrown_13]))] H := hP
        have hD : va_D A [(a_t_forms, .inl (cyJ, 6, .inr (.inl f_t_forms))), (a_t_roll, .inl (cyJ, 12, .inr (.inl f_t_roll))), (a_t, .inr (8, [.ref a_t_forms, .ref a_t_roll, .int c_t_many, .long c_t_taps, .int c_t_cells, .int c_t_acts, .int c_t_refused_31, .int c_t_knocks, .int c_t_thrown_13]))] := hD
        obtain ⟨e0, e1, e2, e3, e4, e5⟩ := tup6 h
        subst e0
        subst e1
        subst e2
        subst e3
        subst e4
        subst e5
        have hP9 : va_P D vwCl [(a_t, .inr (8, [.ref a_t_forms, .ref a_t_roll, .int c_t_many, .long c_t_taps, .int c_t_cells, .int c_t_acts, .int c_t_refused_31, .int c_t_knocks, .int c_t_thrown_13])), (a_t_forms, .inl (cyJ, 6, .inr (.inl f_t_forms))), (a_t_roll, .inl (cyJ, 12, .inr (.inl f_t_roll)))] H := hP.sub [2, 0, 1] rfl
        have hD9 : va_D A [(a_t, .inr (8, [.ref a_t_forms, .ref a_t_roll, .int c_t_many, .long c_t_taps, .int c_t_cells, .int c_t_acts, .int c_t_refused_31, .int c_t_knocks, .int c_t_thrown_13])), (a_t_forms, .inl (cyJ, 6, .inr (.inl f_t_forms))), (a_t_roll, .inl (cyJ, 12, .inr (.inl f_t_roll)))] := hD.sub [2, 0, 1] (by decide) rfl
        exact W.iret hx hb hr (fun t ht hW => ⟨⟨_, (), rfl, rfl, wQA_of ht hP9 hD9⟩, hS.F ht⟩) hS.2.2 dX9_enroll_34
    · have h := if_ c16 h
      refine lv_iconst (v := 0) hx hb dX9_enroll_19 (by decide) ?_
      obtain ⟨e0, e1, e2, e3, e4, e5⟩ := tup6 h
      subst e0
      subst e1
      subst e2
      subst e3
      subst e4
      subst e5
      have hP9 : va_P D vwCl [(a_t, .inr (8, [.ref a_t_forms, .ref a_t_roll, .int c_t_many, .long c_t_taps, .int c_t_cells, .int c_t_acts, .int c_t_refused, .int c_t_knocks, .int c_t_thrown_13])), (a_t_forms, .inl (cyJ, 6, .inr (.inl f_t_forms))), (a_t_roll, .inl (cyJ, 12, .inr (.inl f_t_roll)))] H := hP.sub [2, 0, 1] rfl
      have hD9 : va_D A [(a_t, .inr (8, [.ref a_t_forms, .ref a_t_roll, .int c_t_many, .long c_t_taps, .int c_t_cells, .int c_t_acts, .int c_t_refused, .int c_t_knocks, .int c_t_thrown_13])), (a_t_forms, .inl (cyJ, 6, .inr (.inl f_t_forms))), (a_t_roll, .inl (cyJ, 12, .inr (.inl f_t_roll)))] := hD.sub [2, 0, 1] (by decide) rfl
      exact W.iret hx hb hr (fun t ht hW => ⟨⟨_, (), rfl, rfl, wQA_of ht hP9 hD9⟩, hS.F ht⟩) hS.2.2 dX9_enroll_20
  · have h := it_ c5 h
    refine lv_iconst (v := 1) hx hb dX9_enroll_8 (by decide) ?_
    refine lv_goto (tgt := 13) hx hb dX9_enroll_9 (by decide) ?_
    obtain ⟨r13, c_t_thrown_13, hc13, h⟩ := obn2_h h
    have hPc := hP.sub (ws' := [(a_t, .inr (8, [.ref a_t_forms, .ref a_t_roll, .int c_t_many, .long c_t_taps, .int c_t_cells, .int c_t_acts, .int c_t_refused, .int c_t_knocks, .int c_t_thrown]))]) [0] rfl
    have hDc := hD.sub (ws' := [(a_t, .inr (8, [.ref a_t_forms, .ref a_t_roll, .int c_t_many, .long c_t_taps, .int c_t_cells, .int c_t_acts, .int c_t_refused, .int c_t_knocks, .int c_t_thrown]))]) [0] (by decide) rfl
    refine hp_i (w1 := [(a_t, .inr (8, [.ref a_t_forms, .ref a_t_roll, .int c_t_many, .long c_t_taps, .int c_t_cells, .int c_t_acts, .int c_t_refused, .int c_t_knocks, .int c_t_thrown_13]))]) (wr := [(a_t_forms, .inl (cyJ, 6, .inr (.inl f_t_forms))), (a_t_roll, .inl (cyJ, 12, .inr (.inl f_t_roll)))]) (va_runV (As := [.int (1 : Int32)]) (rest := []) hcf (c_X9_isThrown_ l D cyJ s.heap.size a_t a_t_forms a_t_roll c_t_many c_t_taps c_t_cells c_t_acts c_t_refused c_t_knocks c_t_thrown (1 : Int32) r13 c_t_thrown_13 hc13) (cwV 1 hts gX9_enroll_X9_isThrown_ rfl rfl rfl ydX9_isThrown_ ⟨Nat.le_of_ble_eq_true rfl, Nat.le_of_ble_eq_true rfl⟩) ⟨bl_PD, va_recv hK hP (ci := 8) (q0 := 0) rfl rfl, pr_PD hPc hK0 hDc hnw⟩ rfl rfl hl.1 rfl (lv_room (Nat.le_of_ble_eq_true rfl)) dX9_enroll_13 ⟨Nat.le_of_ble_eq_true rfl, Nat.le_of_ble_eq_true rfl⟩) hP hD hS hA [0] [1, 2] rfl rfl (by decide) (by decide) (fun H locs hP hD hS => ?_)
    have hP : va_P D vwCl [(a_t_forms, .inl (cyJ, 6, .inr (.inl f_t_forms))), (a_t_roll, .inl (cyJ, 12, .inr (.inl f_t_roll))), (a_t, .inr (8, [.ref a_t_forms, .ref a_t_roll, .int c_t_many, .long c_t_taps, .int c_t_cells, .int c_t_acts, .int c_t_refused, .int c_t_knocks, .int c_t_thrown_13]))] H := hP
    have hD : va_D A [(a_t_forms, .inl (cyJ, 6, .inr (.inl f_t_forms))), (a_t_roll, .inl (cyJ, 12, .inr (.inl f_t_roll))), (a_t, .inr (8, [.ref a_t_forms, .ref a_t_roll, .int c_t_many, .long c_t_taps, .int c_t_cells, .int c_t_acts, .int c_t_refused, .int c_t_knocks, .int c_t_thrown_13]))] := hD
    refine lv_if_eq (tgt := 21) hx hb dX9_enroll_16 (by decide) (fun c16 => ?_) (fun c16 => ?_)
    · have h := it_ c16 h
      refine lv_aload_n hx hb dX9_enroll_21 rfl (lv_at hl 0 rfl) ?_
      refine va_get (D := D) (ci := 8) (v := .int c_t_many) (C := RX9) (T := TX9) (N := 9) hx hb hts hinX9 hown hK hP 2 rfl rfl 2 (by decide) hfl123 (fun _ h9 => h9) rfl dX9_enroll_22 ?_
      refine lv_bipush (v := 12) hx hb dX9_enroll_25 (by decide) ?_
      refine lv_icmp_ne (tgt := 35) hx hb dX9_enroll_27 (by decide) (fun c27 => ?_) (fun c27 => ?_)
      · have h := if_ c27 h
        refine lv_aload_n hx hb dX9_enroll_35 rfl (lv_at hl 0 rfl) ?_
        refine va_get (D := D) (ci := 8) (v := .ref a_t_roll) (C := RX9) (T := TX9) (N := 9) hx hb hts hinX9 hown hK hP 2 rfl rfl 1 (by decide) hfl13 (fun _ h9 => h9) rfl dX9_enroll_36 ?_
        refine lv_aload_n hx hb dX9_enroll_39 rfl (lv_at hl 0 rfl) ?_
        refine lv_dup hx hb dX9_enroll_40 rfl ?_
        refine va_get (D := D) (ci := 8) (v := .int c_t_many) (C := RX9) (T := TX9) (N := 9) hx hb hts hinX9 hown hK hP 2 rfl rfl 2 (by decide) hfl123 (fun _ h9 => h9) rfl dX9_enroll_41 ?_
        refine lv_dup_x1 hx hb dX9_enroll_44 rfl rfl ?_
        refine lv_iconst (v := 1) hx hb dX9_enroll_45 (by decide) ?_
        refine lv_iadd hx hb dX9_enroll_46 ?_
        refine lv_topi (fun c_t_many_47 e_c_t_many_47 => ?_)
        have h := bnd_h e_c_t_many_47 h
        refine va_put (D := D) (ci := 8) (v := .int c_t_many_47) (ty := .int) (C := RX9) (T := TX9) (N := 9) hx hb hts hinX9 tyX9 tyX9_ok nmX9 hown hK hP hD hS 2 rfl rfl 2 (by decide) hfl123 (fun _ h9 => h9) rfl (by decide +kernel) rfl rfl (Nat.le_of_ble_eq_true rfl) dX9_enroll_47 (fun H locs hP hD hS => ?_)
        have hP : va_P D vwCl [(a_t_forms, .inl (cyJ, 6, .inr (.inl f_t_forms))), (a_t_roll, .inl (cyJ, 12, .inr (.inl f_t_roll))), (a_t, .inr (8, [.ref a_t_forms, .ref a_t_roll, .int c_t_many_47, .long c_t_taps, .int c_t_cells, .int c_t_acts, .int c_t_refused, .int c_t_knocks, .int c_t_thrown_13]))] H := hP
        have hD : va_D A [(a_t_forms, .inl (cyJ, 6, .inr (.inl f_t_forms))), (a_t_roll, .inl (cyJ, 12, .inr (.inl f_t_roll))), (a_t, .inr (8, [.ref a_t_forms, .ref a_t_roll, .int c_t_many_47, .long c_t_taps, .int c_t_cells, .int c_t_acts, .int c_t_refused, .int c_t_knocks, .int c_t_thrown_13]))] := hD
        refine lv_aload_n hx hb dX9_enroll_50 rfl (lv_at hl 0 rfl) ?_
        refine va_get (D := D) (ci := 8) (v := .ref a_t_forms) (C := RX9) (T := TX9) (N := 9) hx hb hts hinX9 hown hK hP 2 rfl rfl 0 (by decide) hfl9 (fun _ h9 => h9) rfl dX9_enroll_51 ?_
        refine lv_iload_n hx hb dX9_enroll_54 rfl (lv_at hl 1 rfl) ?_
        obtain ⟨hq55, h⟩ := chk_h h
        refine va_lald hx hb hK hP 0 0 rfl rfl hq55 dX9_enroll_55 ?_
        obtain ⟨hq56, h⟩ := chk_h h
        refine va_last hx hb hK hP hD hS 1 0 rfl rfl hq56 dX9_enroll_56 (fun H locs hP hD hS => ?_)
        obtain ⟨f_t_roll_56, e_f_t_roll_56⟩ : ∃ z, z = vp_updL f_t_roll c_t_many.toNatClampNeg (f_t_forms p0.toNatClampNeg) := ⟨_, rfl⟩
        have h := bnd_h e_f_t_roll_56 h
        have hP : va_P D vwCl [(a_t_forms, .inl (cyJ, 6, .inr (.inl f_t_forms))), (a_t_roll, .inl (cyJ, 12, .inr (.inl f_t_roll_56))), (a_t, .inr (8, [.ref a_t_forms, .ref a_t_roll, .int c_t_many_47, .long c_t_taps, .int c_t_cells, .int c_t_acts, .int c_t_refused, .int c_t_knocks, .int c_t_thrown_13]))] H := by rw [e_f_t_roll_56]; exact hP
        have hD : va_D A [(a_t_forms, .inl (cyJ, 6, .inr (.inl f_t_forms))), (a_t_roll, .inl (cyJ, 12, .inr (.inl f_t_roll_56))), (a_t, .inr (8, [.ref a_t_forms, .ref a_t_roll, .int c_t_many_47, .long c_t_taps, .int c_t_cells, .int c_t_acts, .int c_t_refused, .int c_t_knocks, .int c_t_thrown_13]))] := by rw [e_f_t_roll_56]; exact hD
        refine lv_aload_n hx hb dX9_enroll_57 rfl (lv_at hl 0 rfl) ?_
        refine lv_aload_n hx hb dX9_enroll_58 rfl (lv_at hl 0 rfl) ?_
        refine va_get (D := D) (ci := 8) (v := .int c_t_many_47) (C := RX9) (T := TX9) (N := 9) hx hb hts hinX9 hown hK hP 2 rfl rfl 2 (by decide) hfl123 (fun _ h9 => h9) rfl dX9_enroll_59 ?_
        obtain ⟨r62, c_t_acts_62, hc62, h⟩ := obn2_h h
        have hPc := hP.sub (ws' := [(a_t, .inr (8, [.ref a_t_forms, .ref a_t_roll, .int c_t_many_47, .long c_t_taps, .int c_t_cells, .int c_t_acts, .int c_t_refused, .int c_t_knocks, .int c_t_thrown_13]))]) [2] rfl
        have hDc := hD.sub (ws' := [(a_t, .inr (8, [.ref a_t_forms, .ref a_t_roll, .int c_t_many_47, .long c_t_taps, .int c_t_cells, .int c_t_acts, .int c_t_refused, .int c_t_knocks, .int c_t_thrown_13]))]) [2] (by decide) rfl
        refine hp_i (w1 := [(a_t, .inr (8, [.ref a_t_forms, .ref a_t_roll, .int c_t_many_47, .long c_t_taps, .int c_t_cells, .int c_t_acts_62, .int c_t_refused, .int c_t_knocks, .int c_t_thrown_13]))]) (wr := [(a_t_forms, .inl (cyJ, 6, .inr (.inl f_t_forms))), (a_t_roll, .inl (cyJ, 12, .inr (.inl f_t_roll_56)))]) (va_runV (As := [.int c_t_many_47]) (rest := []) hcf (c_X9_done l D cyJ H.size a_t a_t_forms a_t_roll c_t_many_47 c_t_taps c_t_cells c_t_acts c_t_refused c_t_knocks c_t_thrown_13 c_t_many_47 r62 c_t_acts_62 hc62) (cwV 1 hts gX9_enroll_X9_done rfl rfl rfl ydX9_done ⟨Nat.le_of_ble_eq_true rfl, Nat.le_of_ble_eq_true rfl⟩) ⟨bl_PD, va_recv hK hP (ci := 8) (q0 := 2) rfl rfl, pr_PD hPc hK0 hDc hnw⟩ rfl rfl hl.1 rfl (lv_room (Nat.le_of_ble_eq_true rfl)) dX9_enroll_62 ⟨Nat.le_of_ble_eq_true rfl, Nat.le_of_ble_eq_true rfl⟩) hP hD hS hA [2] [0, 1] rfl rfl (by decide) (by decide) (fun H locs hP hD hS => ?_)
        have hP : va_P D vwCl [(a_t_forms, .inl (cyJ, 6, .inr (.inl f_t_forms))), (a_t_roll, .inl (cyJ, 12, .inr (.inl f_t_roll_56))), (a_t, .inr (8, [.ref a_t_forms, .ref a_t_roll, .int c_t_many_47, .long c_t_taps, .int c_t_cells, .int c_t_acts_62, .int c_t_refused, .int c_t_knocks, .int c_t_thrown_13]))] H := hP
        have hD : va_D A [(a_t_forms, .inl (cyJ, 6, .inr (.inl f_t_forms))), (a_t_roll, .inl (cyJ, 12, .inr (.inl f_t_roll_56))), (a_t, .inr (8, [.ref a_t_forms, .ref a_t_roll, .int c_t_many_47, .long c_t_taps, .int c_t_cells, .int c_t_acts_62, .int c_t_refused, .int c_t_knocks, .int c_t_thrown_13]))] := hD
        obtain ⟨e0, e1, e2, e3, e4, e5⟩ := tup6 h
        subst e0
        subst e1
        subst e2
        subst e3
        subst e4
        subst e5
        have hP9 : va_P D vwCl [(a_t, .inr (8, [.ref a_t_forms, .ref a_t_roll, .int c_t_many_47, .long c_t_taps, .int c_t_cells, .int c_t_acts_62, .int c_t_refused, .int c_t_knocks, .int c_t_thrown_13])), (a_t_forms, .inl (cyJ, 6, .inr (.inl f_t_forms))), (a_t_roll, .inl (cyJ, 12, .inr (.inl f_t_roll_56)))] H := hP.sub [2, 0, 1] rfl
        have hD9 : va_D A [(a_t, .inr (8, [.ref a_t_forms, .ref a_t_roll, .int c_t_many_47, .long c_t_taps, .int c_t_cells, .int c_t_acts_62, .int c_t_refused, .int c_t_knocks, .int c_t_thrown_13])), (a_t_forms, .inl (cyJ, 6, .inr (.inl f_t_forms))), (a_t_roll, .inl (cyJ, 12, .inr (.inl f_t_roll_56)))] := hD.sub [2, 0, 1] (by decide) rfl
        exact W.iret hx hb hr (fun t ht hW => ⟨⟨_, (), rfl, rfl, wQA_of ht hP9 hD9⟩, hS.F ht⟩) hS.2.2 dX9_enroll_65
      · have h := it_ c27 h
        refine lv_aload_n hx hb dX9_enroll_30 rfl (lv_at hl 0 rfl) ?_
        obtain ⟨r31, c_t_refused_31, hc31, h⟩ := obn2_h h
        have hPc := hP.sub (ws' := [(a_t, .inr (8, [.ref a_t_forms, .ref a_t_roll, .int c_t_many, .long c_t_taps, .int c_t_cells, .int c_t_acts, .int c_t_refused, .int c_t_knocks, .int c_t_thrown_13]))]) [2] rfl
        have hDc := hD.sub (ws' := [(a_t, .inr (8, [.ref a_t_forms, .ref a_t_roll, .int c_t_many, .long c_t_taps, .int c_t_cells, .int c_t_acts, .int c_t_refused, .int c_t_knocks, .int c_t_thrown_13]))]) [2] (by decide) rfl
        refine hp_i (w1 := [(a_t, .inr (8, [.ref a_t_forms, .ref a_t_roll, .int c_t_many, .long c_t_taps, .int c_t_cells, .int c_t_acts, .int c_t_refused_31, .int c_t_knocks, .int c_t_thrown_13]))]) (wr := [(a_t_forms, .inl (cyJ, 6, .inr (.inl f_t_forms))), (a_t_roll, .inl (cyJ, 12, .inr (.inl f_t_roll)))]) (va_runV (As := []) (rest := []) hcf (c_X9_no l D cyJ H.size a_t a_t_forms a_t_roll c_t_many c_t_taps c_t_cells c_t_acts c_t_refused c_t_knocks c_t_thrown_13 r31 c_t_refused_31 hc31) (cwV 0 hts gX9_enroll_X9_no rfl rfl rfl ydX9_no ⟨Nat.le_of_ble_eq_true rfl, Nat.le_of_ble_eq_true rfl⟩) ⟨bl_PD, va_recv hK hP (ci := 8) (q0 := 2) rfl rfl, pr_PD hPc hK0 hDc hnw⟩ rfl rfl hl.1 rfl (lv_room (Nat.le_of_ble_eq_true rfl)) dX9_enroll_31 ⟨Nat.le_of_ble_eq_true rfl, Nat.le_of_ble_eq_true rfl⟩) hP hD hS hA [2] [0, 1] rfl rfl (by decide) (by decide) (fun H locs hP hD hS => ?_)
        have hP : va_P D vwCl [(a_t_forms, .inl (cyJ, 6, .inr (.inl f_t_forms))), (a_t_roll, .inl (cyJ, 12, .inr (.inl f_t_roll))), (a_t, .inr (8, [.ref a_t_forms, .ref a_t_roll, .int c_t_many, .long c_t_taps, .int c_t_cells, .int c_t_acts, .int c_t_refused_31, .int c_t_knocks, .int c_t_thrown_13]))] H := hP
        have hD : va_D A [(a_t_forms, .inl (cyJ, 6, .inr (.inl f_t_forms))), (a_t_roll, .inl (cyJ, 12, .inr (.inl f_t_roll))), (a_t, .inr (8, [.ref a_t_forms, .ref a_t_roll, .int c_t_many, .long c_t_taps, .int c_t_cells, .int c_t_acts, .int c_t_refused_31, .int c_t_knocks, .int c_t_thrown_13]))] := hD
        obtain ⟨e0, e1, e2, e3, e4, e5⟩ := tup6 h
        subst e0
        subst e1
        subst e2
        subst e3
        subst e4
        subst e5
        have hP9 : va_P D vwCl [(a_t, .inr (8, [.ref a_t_forms, .ref a_t_roll, .int c_t_many, .long c_t_taps, .int c_t_cells, .int c_t_acts, .int c_t_refused_31, .int c_t_knocks, .int c_t_thrown_13])), (a_t_forms, .inl (cyJ, 6, .inr (.inl f_t_forms))), (a_t_roll, .inl (cyJ, 12, .inr (.inl f_t_roll)))] H := hP.sub [2, 0, 1] rfl
        have hD9 : va_D A [(a_t, .inr (8, [.ref a_t_forms, .ref a_t_roll, .int c_t_many, .long c_t_taps, .int c_t_cells, .int c_t_acts, .int c_t_refused_31, .int c_t_knocks, .int c_t_thrown_13])), (a_t_forms, .inl (cyJ, 6, .inr (.inl f_t_forms))), (a_t_roll, .inl (cyJ, 12, .inr (.inl f_t_roll)))] := hD.sub [2, 0, 1] (by decide) rfl
        exact W.iret hx hb hr (fun t ht hW => ⟨⟨_, (), rfl, rfl, wQA_of ht hP9 hD9⟩, hS.F ht⟩) hS.2.2 dX9_enroll_34
    · have h := if_ c16 h
      refine lv_iconst (v := 0) hx hb dX9_enroll_19 (by decide) ?_
      obtain ⟨e0, e1, e2, e3, e4, e5⟩ := tup6 h
      subst e0
      subst e1
      subst e2
      subst e3
      subst e4
      subst e5
      have hP9 : va_P D vwCl [(a_t, .inr (8, [.ref a_t_forms, .ref a_t_roll, .int c_t_many, .long c_t_taps, .int c_t_cells, .int c_t_acts, .int c_t_refused, .int c_t_knocks, .int c_t_thrown_13])), (a_t_forms, .inl (cyJ, 6, .inr (.inl f_t_forms))), (a_t_roll, .inl (cyJ, 12, .inr (.inl f_t_roll)))] H := hP.sub [2, 0, 1] rfl
      have hD9 : va_D A [(a_t, .inr (8, [.ref a_t_forms, .ref a_t_roll, .int c_t_many, .long c_t_taps, .int c_t_cells, .int c_t_acts, .int c_t_refused, .int c_t_knocks, .int c_t_thrown_13])), (a_t_forms, .inl (cyJ, 6, .inr (.inl f_t_forms))), (a_t_roll, .inl (cyJ, 12, .inr (.inl f_t_roll)))] := hD.sub [2, 0, 1] (by decide) rfl
      exact W.iret hx hb hr (fun t ht hW => ⟨⟨_, (), rfl, rfl, wQA_of ht hP9 hD9⟩, hS.F ht⟩) hS.2.2 dX9_enroll_20

noncomputable abbrev rmX9_strike : Room := { frames := 3, cells := 0, slots := 0, locals := 64 }
theorem ydX9_strike : yX9_strike.cls = RX9 ∧ yX9_strike.cls ≠ "java/lang/invoke/MethodHandle" ∧ yX9_strike.cls ≠ "java/lang/invoke/VarHandle" ∧ (parseMethodDescriptor yX9_strike.desc).map (fun d => d.parameters.length) = some 1 := by decide +kernel
noncomputable def S_X9_strike_48 (c_t_many_z48 : Int32) (k76 : (Nat → Int64) → Option (Int32 × Int32 × Int32 × Int32 × (Nat → Int64))) (ih48 : Int32 → (Nat → Int64) → Option (Int32 × Int32 × Int32 × Int32 × (Nat → Int64))) (y3_48 : Int32) (f_t_roll_48 : Nat → Int64) : Option (Int32 × Int32 × Int32 × Int32 × (Nat → Int64)) :=
 (if c_t_many_z48 ≤ y3_48 then
 k76 f_t_roll_48
else
 chk (¬ ((y3_48 + (1 : Int32)) < 0 ∨ 12 ≤ (y3_48 + (1 : Int32)).toNatClampNeg)) (
 chk (¬ (y3_48 < 0 ∨ 12 ≤ y3_48.toNatClampNeg)) (
 bnd (vp_updL f_t_roll_48 y3_48.toNatClampNeg (f_t_roll_48 (y3_48 + (1 : Int32)).toNatClampNeg)) (fun f_t_roll_69 =>
 bnd (y3_48 + 1) (fun x3_70 =>
 ih48 x3_70 f_t_roll_69)))))
noncomputable def J_X9_strike_18 (jl1_18 : Int32) (js1_18 : Int32) (c_t_many_j18 : Int32) (c_t_acts_j18 : Int32) (c_t_thrown_j18 : Int32) (f_t_roll_j18 : Nat → Int64) : Option (Int32 × Int32 × Int32 × Int32 × (Nat → Int64)) :=
 obn2 (F_X9_isThrown_ js1_18) (fun r18 c_t_thrown_18 =>
 (if r18 = 0 then
 chk (¬ (jl1_18 < 0 ∨ 12 ≤ jl1_18.toNatClampNeg)) (
 obn (F_X9_degreeOf (f_t_roll_j18 jl1_18.toNatClampNeg)) (fun r32 =>
 bnd (c_t_many_j18 - (1 : Int32)) (fun c_t_many_43 =>
 LQ2 (S_X9_strike_48 c_t_many_43 (fun f_t_roll_48_76 =>
 obn2 (F_X9_done c_t_acts_j18 r32) (fun r78 c_t_acts_78 =>
 some (r78, c_t_many_43, c_t_acts_78, c_t_thrown_18, f_t_roll_48_76)))) 20000 jl1_18 f_t_roll_j18)))
else
 some ((0 : Int32), c_t_many_j18, c_t_acts_j18, c_t_thrown_18, f_t_roll_j18)))
noncomputable def J_X9_strike_13 (jl1_13 : Int32) (c_t_many_j13 : Int32) (c_t_acts_j13 : Int32) (c_t_thrown_j13 : Int32) (f_t_roll_j13 : Nat → Int64) : Option (Int32 × Int32 × Int32 × Int32 × (Nat → Int64)) :=
 J_X9_strike_18 jl1_13 (1 : Int32) c_t_many_j13 c_t_acts_j13 c_t_thrown_j13 f_t_roll_j13
noncomputable def F_X9_strike (c_t_many : Int32) (c_t_acts : Int32) (c_t_thrown : Int32) (f_t_roll : Nat → Int64) (p0 : Int32) : Option (Int32 × Int32 × Int32 × Int32 × (Nat → Int64)) :=
 (if p0 < 0 then
 J_X9_strike_13 p0 c_t_many c_t_acts c_t_thrown f_t_roll
else
 (if p0 < c_t_many then
 J_X9_strike_18 p0 (0 : Int32) c_t_many c_t_acts c_t_thrown f_t_roll
else
 J_X9_strike_13 p0 c_t_many c_t_acts c_t_thrown f_t_roll))
set_option maxHeartbeats 4000000 in
set_option maxRecDepth 100000 in
theorem c_X9_strike (l : Launch) (D : va_G) (cyJ : ClassId) (sz : Nat) (a_t : Nat) (a_t_forms : Nat) (a_t_roll : Nat) (c_t_many : Int32) (c_t_taps : Int64) (c_t_cells : Int32) (c_t_acts : Int32) (c_t_refused : Int32) (c_t_knocks : Int32) (c_t_thrown : Int32) (f_t_roll : Nat → Int64) (p0 : Int32) (r0 : Int32) (o_c_t_many : Int32) (o_c_t_acts : Int32) (o_c_t_thrown : Int32) (o_f_t_roll : Nat → Int64) (hF : F_X9_strike c_t_many c_t_acts c_t_thrown f_t_roll p0 = some (r0, o_c_t_many, o_c_t_acts, o_c_t_thrown, o_f_t_roll)) : Met l yX9_strike wsX9_strike rmX9_strike (va_Pc [.ref a_t, .int p0] (wPD D [(cyJ, .long)] [(a_t, .inr (8, [.ref a_t_forms, .ref a_t_roll, .int c_t_many, .long c_t_taps, .int c_t_cells, .int c_t_acts, .int c_t_refused, .int c_t_knocks, .int c_t_thrown])), (a_t_roll, .inl (cyJ, 12, .inr (.inl f_t_roll)))] sz)) (va_Qi (fun (r : Int32) (_ : Unit) => r = r0) (fun _ t => wQA D [(a_t, .inr (8, [.ref a_t_forms, .ref a_t_roll, .int o_c_t_many, .long c_t_taps, .int c_t_cells, .int o_c_t_acts, .int c_t_refused, .int c_t_knocks, .int o_c_t_thrown])), (a_t_roll, .inl (cyJ, 12, .inr (.inl o_f_t_roll)))] (va_A [(a_t, .inr (8, [.ref a_t_forms, .ref a_t_roll, .int c_t_many, .long c_t_taps, .int c_t_cells, .int c_t_acts, .int c_t_refused, .int c_t_knocks, .int c_t_thrown])), (a_t_roll, .inl (cyJ, 12, .inr (.inl f_t_roll)))] sz) t) (va_A [(a_t, .inr (8, [.ref a_t_forms, .ref a_t_roll, .int c_t_many, .long c_t_taps, .int c_t_cells, .int c_t_acts, .int c_t_refused, .int c_t_knocks, .int c_t_thrown])), (a_t_roll, .inl (cyJ, 12, .inr (.inl f_t_roll)))] sz)) 0 0 (va_A [(a_t, .inr (8, [.ref a_t_forms, .ref a_t_roll, .int c_t_many, .long c_t_taps, .int c_t_cells, .int c_t_acts, .int c_t_refused, .int c_t_knocks, .int c_t_thrown])), (a_t_roll, .inl (cyJ, 12, .inr (.inl f_t_roll)))] sz) := by
  refine Met.ofW (cc := cX9_strike) (maxL := 4) (ret := (some .int)) (by decide) rfl ?_
  intro p e s m args below meth c s₁ B hml hv
  obtain ⟨rfl, hsz, hP, hK, hD0, hnw⟩ := hv
  have hx := B.exec
  have hb := B.bytes
  have hr := B.returns
  have hts := atoms_spec (ws := wsX9_strike) B.pre
  have hown : s.vm.findClass RX9 = some m.cls := findClass_of_methodNamed B.named
  have hlocks := B.notSynchronized
  have hcf : CallFix _ _ _ _ _ _ _ _ _ := ⟨hx, hb, hml, hown, hts⟩
  have hinX9 : ∀ w ∈ u_ws RX9 TX9 9, w ∈ wsX9_strike := by decide +kernel
  have hfl123 := hts (.fieldLink RX9 123 "FormwheelModel" "many" "I") (by decide +kernel)
  have hfl13 := hts (.fieldLink RX9 13 "FormwheelModel" "roll" "[J") (by decide +kernel)
  subst hsz
  have hD := hD0.self (sz := s.heap.size)
  generalize hAe : va_A [(a_t, .inr (8, [.ref a_t_forms, .ref a_t_roll, .int c_t_many, .long c_t_taps, .int c_t_cells, .int c_t_acts, .int c_t_refused, .int c_t_knocks, .int c_t_thrown])), (a_t_roll, .inl (cyJ, 12, .inr (.inl f_t_roll)))] s.heap.size = A at hD ⊢
  have hA : ∀ q : Nat, s.heap.size ≤ q → A q := fun q h => by rw [← hAe]; exact Or.inr h
  have hS : va_S A s.heap s.heap [] := va_S.rf
  have hP : va_P D vwCl [(a_t, .inr (8, [.ref a_t_forms, .ref a_t_roll, .int c_t_many, .long c_t_taps, .int c_t_cells, .int c_t_acts, .int c_t_refused, .int c_t_knocks, .int c_t_thrown])), (a_t_roll, .inl (cyJ, 12, .inr (.inl f_t_roll)))] s.heap := hP
  have hK0 := hK
  have hl := lv_entry ([.ref a_t, .int p0]) (n := 4) (Nat.le_of_ble_eq_true rfl)
  rw [lg_entry_eq]
  generalize (lg_sl ([.ref a_t, .int p0]) ++ List.replicate (4 - (lg_sl ([.ref a_t, .int p0])).length) Slot.unset).toArray = ls at hl ⊢
  have hl : lv_has ls 4 [(0, .ref a_t), (1, .int p0)] := hl
  have h := hF
  clear hF
  unfold F_X9_strike at h
  have hj18 : ∀ (js1_18 : Int32) (c_t_many_j18 : Int32) (c_t_acts_j18 : Int32) (c_t_thrown_j18 : Int32) (f_t_roll_j18 : Nat → Int64), J_X9_strike_18 p0 js1_18 c_t_many_j18 c_t_acts_j18 c_t_thrown_j18 f_t_roll_j18 = some (r0, o_c_t_many, o_c_t_acts, o_c_t_thrown, o_f_t_roll) → ∀ (H : Heap) (locs : List Loc), va_P D vwCl [(a_t, .inr (8, [.ref a_t_forms, .ref a_t_roll, .int c_t_many_j18, .long c_t_taps, .int c_t_cells, .int c_t_acts_j18, .int c_t_refused, .int c_t_knocks, .int c_t_thrown_j18])), (a_t_roll, .inl (cyJ, 12, .inr (.inl f_t_roll_j18)))] H → va_D A [(a_t, .inr (8, [.ref a_t_forms, .ref a_t_roll, .int c_t_many_j18, .long c_t_taps, .int c_t_cells, .int c_t_acts_j18, .int c_t_refused, .int c_t_knocks, .int c_t_thrown_j18])), (a_t_roll, .inl (cyJ, 12, .inr (.inl f_t_roll_j18)))] → va_S A s.heap H locs → ∀ (ls : Array Slot), lv_has ls 4 [(0, .ref a_t), (1, .int p0)] → W p l e rmX9_strike s m ([.ref a_t, .int p0] : List Value).toArray below meth c H locs 0 0 (MQ below (va_Qi (fun (r : Int32) (_ : Unit) => r = r0) (fun _ t => wQA D [(a_t, .inr (8, [.ref a_t_forms, .ref a_t_roll, .int o_c_t_many, .long c_t_taps, .int c_t_cells, .int o_c_t_acts, .int c_t_refused, .int c_t_knocks, .int o_c_t_thrown])), (a_t_roll, .inl (cyJ, 12, .inr (.inl o_f_t_roll)))] A t) A) ([.ref a_t, .int p0] : List Value).toArray s 0 0 A) (F0 m 18 ls [.int js1_18, .ref a_t]) := by
    intro js1_18 c_t_many_j18 c_t_acts_j18 c_t_thrown_j18 f_t_roll_j18 h H locs hP hD hS ls hl
    unfold J_X9_strike_18 at h
    obtain ⟨r18, c_t_thrown_18, hc18, h⟩ := obn2_h h
    have hPc := hP.sub (ws' := [(a_t, .inr (8, [.ref a_t_forms, .ref a_t_roll, .int c_t_many_j18, .long c_t_taps, .int c_t_cells, .int c_t_acts_j18, .int c_t_refused, .int c_t_knocks, .int c_t_thrown_j18]))]) [0] rfl
    have hDc := hD.sub (ws' := [(a_t, .inr (8, [.ref a_t_forms, .ref a_t_roll, .int c_t_many_j18, .long c_t_taps, .int c_t_cells, .int c_t_acts_j18, .int c_t_refused, .int c_t_knocks, .int c_t_thrown_j18]))]) [0] (by decide) rfl
    refine hp_i (w1 := [(a_t, .inr (8, [.ref a_t_forms, .ref a_t_roll, .int c_t_many_j18, .long c_t_taps, .int c_t_cells, .int c_t_acts_j18, .int c_t_refused, .int c_t_knocks, .int c_t_thrown_18]))]) (wr := [(a_t_roll, .inl (cyJ, 12, .inr (.inl f_t_roll_j18)))]) (va_runV (As := [.int js1_18]) (rest := []) hcf (c_X9_isThrown_ l D cyJ H.size a_t a_t_forms a_t_roll c_t_many_j18 c_t_taps c_t_cells c_t_acts_j18 c_t_refused c_t_knocks c_t_thrown_j18 js1_18 r18 c_t_thrown_18 hc18) (cwV 1 hts gX9_strike_X9_isThrown_ rfl rfl rfl ydX9_isThrown_ ⟨Nat.le_of_ble_eq_true rfl, Nat.le_of_ble_eq_true rfl⟩) ⟨bl_PD, va_recv hK hP (ci := 8) (q0 := 0) rfl rfl, pr_PD hPc hK0 hDc hnw⟩ rfl rfl hl.1 rfl (lv_room (Nat.le_of_ble_eq_true rfl)) dX9_strike_18 ⟨Nat.le_of_ble_eq_true rfl, Nat.le_of_ble_eq_true rfl⟩) hP hD hS hA [0] [1] rfl rfl (by decide) (by decide) (fun H locs hP hD hS => ?_)
    have hP : va_P D vwCl [(a_t_roll, .inl (cyJ, 12, .inr (.inl f_t_roll_j18))), (a_t, .inr (8, [.ref a_t_forms, .ref a_t_roll, .int c_t_many_j18, .long c_t_taps, .int c_t_cells, .int c_t_acts_j18, .int c_t_refused, .int c_t_knocks, .int c_t_thrown_18]))] H := hP
    have hD : va_D A [(a_t_roll, .inl (cyJ, 12, .inr (.inl f_t_roll_j18))), (a_t, .inr (8, [.ref a_t_forms, .ref a_t_roll, .int c_t_many_j18, .long c_t_taps, .int c_t_cells, .int c_t_acts_j18, .int c_t_refused, .int c_t_knocks, .int c_t_thrown_18]))] := hD
    refine lv_if_eq (tgt := 26) hx hb dX9_strike_21 (by decide) (fun c21 => ?_) (fun c21 => ?_)
    · have h := it_ c21 h
      refine lv_aload_n hx hb dX9_strike_26 rfl (lv_at hl 0 rfl) ?_
      refine va_get (D := D) (ci := 8) (v := .ref a_t_roll) (C := RX9) (T := TX9) (N := 9) hx hb hts hinX9 hown hK hP 1 rfl rfl 1 (by decide) hfl13 (fun _ h9 => h9) rfl dX9_strike_27 ?_
      refine lv_iload_n hx hb dX9_strike_30 rfl (lv_at hl 1 rfl) ?_
      obtain ⟨hq31, h⟩ := chk_h h
      refine va_lald hx hb hK hP 0 0 rfl rfl hq31 dX9_strike_31 ?_
      obtain ⟨r32, hc32, h⟩ := obn_h h
      refine pz_callS (As := [.long (f_t_roll_j18 p0.toNatClampNeg)]) (rest := []) hcf (c_X9_degreeOf l (f_t_roll_j18 p0.toNatClampNeg) r32 hc32) (va_cwS 1 hts gX9_strike_X9_degreeOf rfl rfl rfl ydX9_degreeOf ⟨Nat.le_of_ble_eq_true rfl, Nat.le_of_ble_eq_true rfl⟩) hnw rfl hl.1 rfl (Nat.le_of_ble_eq_true rfl) dX9_strike_32 ⟨Nat.le_of_ble_eq_true rfl, Nat.le_of_ble_eq_true rfl⟩ ?_
      refine lv_istore_n (lv' := [(2, .int r32), (0, .ref a_t), (1, .int p0)]) hx hb dX9_strike_35 rfl hl (by decide) rfl (fun ls hl => ?_)
      refine lv_aload_n hx hb dX9_strike_36 rfl (lv_at hl 1 rfl) ?_
      refine lv_dup hx hb dX9_strike_37 rfl ?_
      refine va_get (D := D) (ci := 8) (v := .int c_t_many_j18) (C := RX9) (T := TX9) (N := 9) hx hb hts hinX9 hown hK hP 1 rfl rfl 2 (by decide) hfl123 (fun _ h9 => h9) rfl dX9_strike_38 ?_
      refine lv_iconst (v := 1) hx hb dX9_strike_41 (by decide) ?_
      refine lv_isub hx hb dX9_strike_42 ?_
      refine lv_topi (fun c_t_many_43 e_c_t_many_43 => ?_)
      have h := bnd_h e_c_t_many_43 h
      refine va_put (D := D) (ci := 8) (v := .int c_t_many_43) (ty := .int) (C := RX9) (T := TX9) (N := 9) hx hb hts hinX9 tyX9 tyX9_ok nmX9 hown hK hP hD hS 1 rfl rfl 2 (by decide) hfl123 (fun _ h9 => h9) rfl (by decide +kernel) rfl rfl (Nat.le_of_ble_eq_true rfl) dX9_strike_43 (fun H locs hP hD hS => ?_)
      have hP : va_P D vwCl [(a_t_roll, .inl (cyJ, 12, .inr (.inl f_t_roll_j18))), (a_t, .inr (8, [.ref a_t_forms, .ref a_t_roll, .int c_t_many_43, .long c_t_taps, .int c_t_cells, .int c_t_acts_j18, .int c_t_refused, .int c_t_knocks, .int c_t_thrown_18]))] H := hP
      have hD : va_D A [(a_t_roll, .inl (cyJ, 12, .inr (.inl f_t_roll_j18))), (a_t, .inr (8, [.ref a_t_forms, .ref a_t_roll, .int c_t_many_43, .long c_t_taps, .int c_t_cells, .int c_t_acts_j18, .int c_t_refused, .int c_t_knocks, .int c_t_thrown_18]))] := hD
      refine lv_iload_n hx hb dX9_strike_46 rfl (lv_at hl 2 rfl) ?_
      refine lv_istore_n (lv' := [(3, .int p0), (2, .int r32), (0, .ref a_t), (1, .int p0)]) hx hb dX9_strike_47 rfl hl (by decide) rfl (fun ls hl => ?_)
      refine LQ2_k1 (M := fun (y3_48 : Int32) (f_t_roll_48 : Nat → Int64) => ∀ (H : Heap) (locs : List Loc), va_P D vwCl [(a_t_roll, .inl (cyJ, 12, .inr (.inl f_t_roll_48))), (a_t, .inr (8, [.ref a_t_forms, .ref a_t_roll, .int c_t_many_43, .long c_t_taps, .int c_t_cells, .int c_t_acts_j18, .int c_t_refused, .int c_t_knocks, .int c_t_thrown_18]))] H → va_D A [(a_t_roll, .inl (cyJ, 12, .inr (.inl f_t_roll_48))), (a_t, .inr (8, [.ref a_t_forms, .ref a_t_roll, .int c_t_many_43, .long c_t_taps, .int c_t_cells, .int c_t_acts_j18, .int c_t_refused, .int c_t_knocks, .int c_t_thrown_18]))] → va_S A s.heap H locs → ∀ (ls : Array Slot), lv_has ls 4 [(0, .ref a_t), (2, .int r32), (3, .int y3_48)] → W p l e rmX9_strike s m ([.ref a_t, .int p0] : List Value).toArray below meth c H locs 0 0 (MQ below (va_Qi (fun (r : Int32) (_ : Unit) => r = r0) (fun _ t => wQA D [(a_t, .inr (8, [.ref a_t_forms, .ref a_t_roll, .int o_c_t_many, .long c_t_taps, .int c_t_cells, .int o_c_t_acts, .int c_t_refused, .int c_t_knocks, .int o_c_t_thrown])), (a_t_roll, .inl (cyJ, 12, .inr (.inl o_f_t_roll)))] A t) A) ([.ref a_t, .int p0] : List Value).toArray s 0 0 A) (F0 m 48 ls [])) ?_ _ _ _ h _ _ hP hD hS ls (lv_sub hl [2, 1, 0] rfl)
      intro k76 hk76 ih48 hih48 y3_48 f_t_roll_48 h H locs hP hD hS ls hl
      unfold S_X9_strike_48 at h
      refine lv_iload_n hx hb dX9_strike_48 rfl (lv_at hl 2 rfl) ?_
      refine lv_aload_n hx hb dX9_strike_49 rfl (lv_at hl 0 rfl) ?_
      refine va_get (D := D) (ci := 8) (v := .int c_t_many_43) (C := RX9) (T := TX9) (N := 9) hx hb hts hinX9 hown hK hP 1 rfl rfl 2 (by decide) hfl123 (fun _ h9 => h9) rfl dX9_strike_50 ?_
      refine lv_icmp_ge (tgt := 76) hx hb dX9_strike_53 (by decide) (fun c53 => ?_) (fun c53 => ?_)
      · have h := it_ c53 h
        rw [hk76] at h
        refine lv_aload_n hx hb dX9_strike_76 rfl (lv_at hl 0 rfl) ?_
        refine lv_iload_n hx hb dX9_strike_77 rfl (lv_at hl 1 rfl) ?_
        obtain ⟨r78, c_t_acts_78, hc78, h⟩ := obn2_h h
        have hPc := hP.sub (ws' := [(a_t, .inr (8, [.ref a_t_forms, .ref a_t_roll, .int c_t_many_43, .long c_t_taps, .int c_t_cells, .int c_t_acts_j18, .int c_t_refused, .int c_t_knocks, .int c_t_thrown_18]))]) [1] rfl
        have hDc := hD.sub (ws' := [(a_t, .inr (8, [.ref a_t_forms, .ref a_t_roll, .int c_t_many_43, .long c_t_taps, .int c_t_cells, .int c_t_acts_j18, .int c_t_refused, .int c_t_knocks, .int c_t_thrown_18]))]) [1] (by decide) rfl
        refine hp_i (w1 := [(a_t, .inr (8, [.ref a_t_forms, .ref a_t_roll, .int c_t_many_43, .long c_t_taps, .int c_t_cells, .int c_t_acts_78, .int c_t_refused, .int c_t_knocks, .int c_t_thrown_18]))]) (wr := [(a_t_roll, .inl (cyJ, 12, .inr (.inl f_t_roll_48)))]) (va_runV (As := [.int r32]) (rest := []) hcf (c_X9_done l D cyJ H.size a_t a_t_forms a_t_roll c_t_many_43 c_t_taps c_t_cells c_t_acts_j18 c_t_refused c_t_knocks c_t_thrown_18 r32 r78 c_t_acts_78 hc78) (cwV 1 hts gX9_strike_X9_done rfl rfl rfl ydX9_done ⟨Nat.le_of_ble_eq_true rfl, Nat.le_of_ble_eq_true rfl⟩) ⟨bl_PD, va_recv hK hP (ci := 8) (q0 := 1) rfl rfl, pr_PD hPc hK0 hDc hnw⟩ rfl rfl hl.1 rfl (lv_room (Nat.le_of_ble_eq_true rfl)) dX9_strike_78 ⟨Nat.le_of_ble_eq_true rfl, Nat.le_of_ble_eq_true rfl⟩) hP hD hS hA [1] [0] rfl rfl (by decide) (by decide) (fun H locs hP hD hS => ?_)
        have hP : va_P D vwCl [(a_t_roll, .inl (cyJ, 12, .inr (.inl f_t_roll_48))), (a_t, .inr (8, [.ref a_t_forms, .ref a_t_roll, .int c_t_many_43, .long c_t_taps, .int c_t_cells, .int c_t_acts_78, .int c_t_refused, .int c_t_knocks, .int c_t_thrown_18]))] H := hP
        have hD : va_D A [(a_t_roll, .inl (cyJ, 12, .inr (.inl f_t_roll_48))), (a_t, .inr (8, [.ref a_t_forms, .ref a_t_roll, .int c_t_many_43, .long c_t_taps, .int c_t_cells, .int c_t_acts_78, .int c_t_refused, .int c_t_knocks, .int c_t_thrown_18]))] := hD
        obtain ⟨e0, e1, e2, e3, e4⟩ := tup5 h
        subst e0
        subst e1
        subst e2
        subst e3
        subst e4
        have hP9 : va_P D vwCl [(a_t, .inr (8, [.ref a_t_forms, .ref a_t_roll, .int c_t_many_43, .long c_t_taps, .int c_t_cells, .int c_t_acts_78, .int c_t_refused, .int c_t_knocks, .int c_t_thrown_18])), (a_t_roll, .inl (cyJ, 12, .inr (.inl f_t_roll_48)))] H := hP.sub [1, 0] rfl
        have hD9 : va_D A [(a_t, .inr (8, [.ref a_t_forms, .ref a_t_roll, .int c_t_many_43, .long c_t_taps, .int c_t_cells, .int c_t_acts_78, .int c_t_refused, .int c_t_knocks, .int c_t_thrown_18])), (a_t_roll, .inl (cyJ, 12, .inr (.inl f_t_roll_48)))] := hD.sub [1, 0] (by decide) rfl
        exact W.iret hx hb hr (fun t ht hW => ⟨⟨_, (), rfl, rfl, wQA_of ht hP9 hD9⟩, hS.F ht⟩) hS.2.2 dX9_strike_81
      · have h := if_ c53 h
        refine lv_aload_n hx hb dX9_strike_56 rfl (lv_at hl 0 rfl) ?_
        refine va_get (D := D) (ci := 8) (v := .ref a_t_roll) (C := RX9) (T := TX9) (N := 9) hx hb hts hinX9 hown hK hP 1 rfl rfl 1 (by decide) hfl13 (fun _ h9 => h9) rfl dX9_strike_57 ?_
        refine lv_iload_n hx hb dX9_strike_60 rfl (lv_at hl 2 rfl) ?_
        refine lv_aload_n hx hb dX9_strike_61 rfl (lv_at hl 0 rfl) ?_
        refine va_get (D := D) (ci := 8) (v := .ref a_t_roll) (C := RX9) (T := TX9) (N := 9) hx hb hts hinX9 hown hK hP 1 rfl rfl 1 (by decide) hfl13 (fun _ h9 => h9) rfl dX9_strike_62 ?_
        refine lv_iload_n hx hb dX9_strike_65 rfl (lv_at hl 2 rfl) ?_
        refine lv_iconst (v := 1) hx hb dX9_strike_66 (by decide) ?_
        refine lv_iadd hx hb dX9_strike_67 ?_
        obtain ⟨hq68, h⟩ := chk_h h
        refine va_lald hx hb hK hP 0 0 rfl rfl hq68 dX9_strike_68 ?_
        obtain ⟨hq69, h⟩ := chk_h h
        refine va_last hx hb hK hP hD hS 0 0 rfl rfl hq69 dX9_strike_69 (fun H locs hP hD hS => ?_)
        obtain ⟨f_t_roll_69, e_f_t_roll_69⟩ : ∃ z, z = vp_updL f_t_roll_48 y3_48.toNatClampNeg (f_t_roll_48 (y3_48 + (1 : Int32)).toNatClampNeg) := ⟨_, rfl⟩
        have h := bnd_h e_f_t_roll_69 h
        have hP : va_P D vwCl [(a_t_roll, .inl (cyJ, 12, .inr (.inl f_t_roll_69))), (a_t, .inr (8, [.ref a_t_forms, .ref a_t_roll, .int c_t_many_43, .long c_t_taps, .int c_t_cells, .int c_t_acts_j18, .int c_t_refused, .int c_t_knocks, .int c_t_thrown_18]))] H := by rw [e_f_t_roll_69]; exact hP
        have hD : va_D A [(a_t_roll, .inl (cyJ, 12, .inr (.inl f_t_roll_69))), (a_t, .inr (8, [.ref a_t_forms, .ref a_t_roll, .int c_t_many_43, .long c_t_taps, .int c_t_cells, .int c_t_acts_j18, .int c_t_refused, .int c_t_knocks, .int c_t_thrown_18]))] := by rw [e_f_t_roll_69]; exact hD
        obtain ⟨x3_70, e_x3_70⟩ : ∃ z : Int32, z = y3_48 + 1 := ⟨_, rfl⟩
        have h := bnd_h e_x3_70 h
        refine lv_iinc (v := x3_70) (lv' := [(3, .int x3_70), (0, .ref a_t), (2, .int r32)]) hx hb dX9_strike_70 hl (k := 2) rfl (by rw [e_x3_70]; rfl) (by decide) rfl (fun ls hl => ?_)
        refine lv_goto (tgt := 48) hx hb dX9_strike_73 (by decide) ?_
        exact hih48 x3_70 f_t_roll_69 h _ _ (hP.sub [0, 1] rfl) (hD.sub [0, 1] (by decide) rfl) hS ls (lv_sub hl [1, 2, 0] rfl)
    · have h := if_ c21 h
      refine lv_iconst (v := 0) hx hb dX9_strike_24 (by decide) ?_
      obtain ⟨e0, e1, e2, e3, e4⟩ := tup5 h
      subst e0
      subst e1
      subst e2
      subst e3
      subst e4
      have hP9 : va_P D vwCl [(a_t, .inr (8, [.ref a_t_forms, .ref a_t_roll, .int c_t_many_j18, .long c_t_taps, .int c_t_cells, .int c_t_acts_j18, .int c_t_refused, .int c_t_knocks, .int c_t_thrown_18])), (a_t_roll, .inl (cyJ, 12, .inr (.inl f_t_roll_j18)))] H := hP.sub [1, 0] rfl
      have hD9 : va_D A [(a_t, .inr (8, [.ref a_t_forms, .ref a_t_roll, .int c_t_many_j18, .long c_t_taps, .int c_t_cells, .int c_t_acts_j18, .int c_t_refused, .int c_t_knocks, .int c_t_thrown_18])), (a_t_roll, .inl (cyJ, 12, .inr (.inl f_t_roll_j18)))] := hD.sub [1, 0] (by decide) rfl
      exact W.iret hx hb hr (fun t ht hW => ⟨⟨_, (), rfl, rfl, wQA_of ht hP9 hD9⟩, hS.F ht⟩) hS.2.2 dX9_strike_25
  have hj13 : ∀ (c_t_many_j13 : Int32) (c_t_acts_j13 : Int32) (c_t_thrown_j13 : Int32) (f_t_roll_j13 : Nat → Int64), J_X9_strike_13 p0 c_t_many_j13 c_t_acts_j13 c_t_thrown_j13 f_t_roll_j13 = some (r0, o_c_t_many, o_c_t_acts, o_c_t_thrown, o_f_t_roll) → ∀ (H : Heap) (locs : List Loc), va_P D vwCl [(a_t, .inr (8, [.ref a_t_forms, .ref a_t_roll, .int c_t_many_j13, .long c_t_taps, .int c_t_cells, .int c_t_acts_j13, .int c_t_refused, .int c_t_knocks, .int c_t_thrown_j13])), (a_t_roll, .inl (cyJ, 12, .inr (.inl f_t_roll_j13)))] H → va_D A [(a_t, .inr (8, [.ref a_t_forms, .ref a_t_roll, .int c_t_many_j13, .long c_t_taps, .int c_t_cells, .int c_t_acts_j13, .int c_t_refused, .int c_t_knocks, .int c_t_thrown_j13])), (a_t_roll, .inl (cyJ, 12, .inr (.inl f_t_roll_j13)))] → va_S A s.heap H locs → ∀ (ls : Array Slot), lv_has ls 4 [(0, .ref a_t), (1, .int p0)] → W p l e rmX9_strike s m ([.ref a_t, .int p0] : List Value).toArray below meth c H locs 0 0 (MQ below (va_Qi (fun (r : Int32) (_ : Unit) => r = r0) (fun _ t => wQA D [(a_t, .inr (8, [.ref a_t_forms, .ref a_t_roll, .int o_c_t_many, .long c_t_taps, .int c_t_cells, .int o_c_t_acts, .int c_t_refused, .int c_t_knocks, .int o_c_t_thrown])), (a_t_roll, .inl (cyJ, 12, .inr (.inl o_f_t_roll)))] A t) A) ([.ref a_t, .int p0] : List Value).toArray s 0 0 A) (F0 m 13 ls [.ref a_t]) := by
    intro c_t_many_j13 c_t_acts_j13 c_t_thrown_j13 f_t_roll_j13 h H locs hP hD hS ls hl
    unfold J_X9_strike_13 at h
    refine lv_iconst (v := 1) hx hb dX9_strike_13 (by decide) ?_
    refine lv_goto (tgt := 18) hx hb dX9_strike_14 (by decide) ?_
    exact hj18 (1 : Int32) c_t_many_j13 c_t_acts_j13 c_t_thrown_j13 f_t_roll_j13 h _ _ (hP.sub [0, 1] rfl) (hD.sub [0, 1] (by decide) rfl) hS ls (lv_sub hl [0, 1] rfl)
  refine lv_aload_n hx hb dX9_strike_0 rfl (lv_at hl 0 rfl) ?_
  refine lv_iload_n hx hb dX9_strike_1 rfl (lv_at hl 1 rfl) ?_
  refine lv_if_lt (tgt := 13) hx hb dX9_strike_2 (by decide) (fun c2 => ?_) (fun c2 => ?_)
  · have h := it_ c2 h
    exact hj13 c_t_many c_t_acts c_t_thrown f_t_roll h _ _ (hP.sub [0, 1] rfl) (hD.sub [0, 1] (by decide) rfl) hS ls (lv_sub hl [0, 1] rfl)
  · have h := if_ c2 h
    refine lv_iload_n hx hb dX9_strike_5 rfl (lv_at hl 1 rfl) ?_
    refine lv_aload_n hx hb dX9_strike_6 rfl (lv_at hl 0 rfl) ?_
    refine va_get (D := D) (ci := 8) (v := .int c_t_many) (C := RX9) (T := TX9) (N := 9) hx hb hts hinX9 hown hK hP 0 rfl rfl 2 (by decide) hfl123 (fun _ h9 => h9) rfl dX9_strike_7 ?_
    refine lv_icmp_lt (tgt := 17) hx hb dX9_strike_10 (by decide) (fun c10 => ?_) (fun c10 => ?_)
    · have h := it_ c10 h
      refine lv_iconst (v := 0) hx hb dX9_strike_17 (by decide) ?_
      exact hj18 (0 : Int32) c_t_many c_t_acts c_t_thrown f_t_roll h _ _ (hP.sub [0, 1] rfl) (hD.sub [0, 1] (by decide) rfl) hS ls (lv_sub hl [0, 1] rfl)
    · have h := if_ c10 h
      exact hj13 c_t_many c_t_acts c_t_thrown f_t_roll h _ _ (hP.sub [0, 1] rfl) (hD.sub [0, 1] (by decide) rfl) hS ls (lv_sub hl [0, 1] rfl)
