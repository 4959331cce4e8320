noncomputable abbrev rmX9_digit : Room := { frames := 1, cells := 0, slots := 0, locals := 22 }
theorem ydX9_digit : yX9_digit.cls = RX9 ∧ yX9_digit.cls ≠ "java/lang/invoke/MethodHandle" ∧ yX9_digit.cls ≠ "java/lang/invoke/VarHandle" ∧ (parseMethodDescriptor yX9_digit.desc).map (fun d => d.parameters.length) = some 3 := by decide +kernel
noncomputable def J_X9_digit_94 (jl1_94 : Int32) (j4_94 : Int64) (js1_94 : Int32) (js2_94 : Int64) (c_t_acts_j94 : Int32) (c_t_thrown_j94 : Int32) (f_t_forms_j94 : Nat → Int64) : Option (Int32 × Int32 × Int32 × (Nat → Int64)) :=
 chk (¬ (js1_94 < 0 ∨ 6 ≤ js1_94.toNatClampNeg)) (
 bnd (vp_updL f_t_forms_j94 js1_94.toNatClampNeg js2_94) (fun f_t_forms_94 =>
 chk (¬ (jl1_94 < 0 ∨ 6 ≤ jl1_94.toNatClampNeg)) (
 (if (f_t_forms_94 jl1_94.toNatClampNeg) = j4_94 then
 obn2 (F_X9_done c_t_acts_j94 (0 : Int32)) (fun r113 c_t_acts_113 =>
 some (r113, c_t_acts_113, c_t_thrown_j94, f_t_forms_94))
else
 obn2 (F_X9_done c_t_acts_j94 (1 : Int32)) (fun r113 c_t_acts_113 =>
 some (r113, c_t_acts_113, c_t_thrown_j94, f_t_forms_94))))))
noncomputable def J_X9_digit_34 (jl1_34 : Int32) (jl2_34 : Int32) (jl3_34 : Int32) (js1_34 : Int32) (js2_34 : Int32) (c_t_acts_j34 : Int32) (c_t_thrown_j34 : Int32) (f_t_forms_j34 : Nat → Int64) : Option (Int32 × Int32 × Int32 × (Nat → Int64)) :=
 obn2 (F_X9_isThrown js1_34 js2_34) (fun r34 c_t_thrown_34 =>
 (if r34 = 0 then
 chk (¬ (jl1_34 < 0 ∨ 6 ≤ jl1_34.toNatClampNeg)) (
 bnd (f_t_forms_j34 jl1_34.toNatClampNeg) (fun x4_48 =>
 bnd ((1 : Int64) <<< (jl2_34.toInt64 &&& 63)) (fun x6_53 =>
 (if jl3_34 = 0 then
 J_X9_digit_94 jl1_34 x4_48 jl1_34 (x4_48 &&& (x6_53 ^^^ (-1 : Int64))) c_t_acts_j34 c_t_thrown_34 f_t_forms_j34
else
 (if jl3_34 = (1 : Int32) then
 J_X9_digit_94 jl1_34 x4_48 jl1_34 (x4_48 ||| x6_53) c_t_acts_j34 c_t_thrown_34 f_t_forms_j34
else
 J_X9_digit_94 jl1_34 x4_48 jl1_34 (x4_48 ^^^ x6_53) c_t_acts_j34 c_t_thrown_34 f_t_forms_j34)))))
else
 some ((0 : Int32), c_t_acts_j34, c_t_thrown_34, f_t_forms_j34)))
noncomputable def J_X9_digit_29 (jl1_29 : Int32) (jl2_29 : Int32) (jl3_29 : Int32) (js1_29 : Int32) (c_t_acts_j29 : Int32) (c_t_thrown_j29 : Int32) (f_t_forms_j29 : Nat → Int64) : Option (Int32 × Int32 × Int32 × (Nat → Int64)) :=
 J_X9_digit_34 jl1_29 jl2_29 jl3_29 js1_29 (1 : Int32) c_t_acts_j29 c_t_thrown_j29 f_t_forms_j29
noncomputable def J_X9_digit_20 (jl1_20 : Int32) (jl2_20 : Int32) (jl3_20 : Int32) (js1_20 : Int32) (c_t_acts_j20 : Int32) (c_t_thrown_j20 : Int32) (f_t_forms_j20 : Nat → Int64) : Option (Int32 × Int32 × Int32 × (Nat → Int64)) :=
 (if jl3_20 < 0 then
 J_X9_digit_29 jl1_20 jl2_20 jl3_20 js1_20 c_t_acts_j20 c_t_thrown_j20 f_t_forms_j20
else
 (if jl3_20 ≤ (2 : Int32) then
 J_X9_digit_34 jl1_20 jl2_20 jl3_20 js1_20 (0 : Int32) c_t_acts_j20 c_t_thrown_j20 f_t_forms_j20
else
 J_X9_digit_29 jl1_20 jl2_20 jl3_20 js1_20 c_t_acts_j20 c_t_thrown_j20 f_t_forms_j20))
noncomputable def J_X9_digit_15 (jl1_15 : Int32) (jl2_15 : Int32) (jl3_15 : Int32) (c_t_acts_j15 : Int32) (c_t_thrown_j15 : Int32) (f_t_forms_j15 : Nat → Int64) : Option (Int32 × Int32 × Int32 × (Nat → Int64)) :=
 J_X9_digit_20 jl1_15 jl2_15 jl3_15 (1 : Int32) c_t_acts_j15 c_t_thrown_j15 f_t_forms_j15
noncomputable def F_X9_digit (c_t_acts : Int32) (c_t_thrown : Int32) (f_t_forms : Nat → Int64) (p0 : Int32) (p1 : Int32) (p2 : Int32) : Option (Int32 × Int32 × Int32 × (Nat → Int64)) :=
 obn (F_X9_isForm p0) (fun r2 =>
 (if r2 = 0 then
 J_X9_digit_15 p0 p1 p2 c_t_acts c_t_thrown f_t_forms
else
 obn (F_X9_isPlace p1) (fun r9 =>
 (if r9 = 0 then
 J_X9_digit_15 p0 p1 p2 c_t_acts c_t_thrown f_t_forms
else
 J_X9_digit_20 p0 p1 p2 (0 : Int32) c_t_acts c_t_thrown f_t_forms))))
set_option maxHeartbeats 4000000 in
set_option maxRecDepth 100000 in
theorem c_X9_digit (l : Launch) (D : va_G) (cyJ : ClassId) (sz : Nat) (a_t : Nat) (a_t_forms : Nat) (a_t_roll : Nat) (c_t_many : Int32) (c_t_taps : Int64) (c_t_cells : Int32) (c_t_acts : Int32) (c_t_refused : Int32) (c_t_knocks : Int32) (c_t_thrown : Int32) (f_t_forms : Nat → Int64) (p0 : Int32) (p1 : Int32) (p2 : Int32) (r0 : Int32) (o_c_t_acts : Int32) (o_c_t_thrown : Int32) (o_f_t_forms : Nat → Int64) (hF : F_X9_digit c_t_acts c_t_thrown f_t_forms p0 p1 p2 = some (r0, o_c_t_acts, o_c_t_thrown, o_f_t_forms)) : Met l yX9_digit wsX9_digit rmX9_digit (va_Pc [.ref a_t, .int p0, .int p1, .int p2] (wPD D [(cyJ, .long)] [(a_t, .inr (8, [.ref a_t_forms, .ref a_t_roll, .int c_t_many, .long c_t_taps, .int c_t_cells, .int c_t_acts, .int c_t_refused, .int c_t_knocks, .int c_t_thrown])), (a_t_forms, .inl (cyJ, 6, .inr (.inl f_t_forms)))] sz)) (va_Qi (fun (r : Int32) (_ : Unit) => r = r0) (fun _ t => wQA D [(a_t, .inr (8, [.ref a_t_forms, .ref a_t_roll, .int c_t_many, .long c_t_taps, .int c_t_cells, .int o_c_t_acts, .int c_t_refused, .int c_t_knocks, .int o_c_t_thrown])), (a_t_forms, .inl (cyJ, 6, .inr (.inl o_f_t_forms)))] (va_A [(a_t, .inr (8, [.ref a_t_forms, .ref a_t_roll, .int c_t_many, .long c_t_taps, .int c_t_cells, .int c_t_acts, .int c_t_refused, .int c_t_knocks, .int c_t_thrown])), (a_t_forms, .inl (cyJ, 6, .inr (.inl f_t_forms)))] sz) t) (va_A [(a_t, .inr (8, [.ref a_t_forms, .ref a_t_roll, .int c_t_many, .long c_t_taps, .int c_t_cells, .int c_t_acts, .int c_t_refused, .int c_t_knocks, .int c_t_thrown])), (a_t_forms, .inl (cyJ, 6, .inr (.inl f_t_forms)))] sz)) 0 0 (va_A [(a_t, .inr (8, [.ref a_t_forms, .ref a_t_roll, .int c_t_many, .long c_t_taps, .int c_t_cells, .int c_t_acts, .int c_t_refused, .int c_t_knocks, .int c_t_thrown])), (a_t_forms, .inl (cyJ, 6, .inr (.inl f_t_forms)))] sz) := by
  refine Met.ofW (cc := cX9_digit) (maxL := 8) (ret := (some .int)) (by decide) rfl ?_
  intro p e s m args below meth c s₁ B hml hv
  obtain ⟨rfl, hsz, hP, hK, hD0, hnw⟩ := hv
  have hx := B.exec
  have hb := B.bytes
  have hr := B.returns
  have hts := atoms_spec (ws := wsX9_digit) B.pre
  have hown : s.vm.findClass RX9 = some m.cls := findClass_of_methodNamed B.named
  have hlocks := B.notSynchronized
  have hcf : CallFix _ _ _ _ _ _ _ _ _ := ⟨hx, hb, hml, hown, hts⟩
  have hinX9 : ∀ w ∈ u_ws RX9 TX9 9, w ∈ wsX9_digit := by decide +kernel
  have hfl9 := hts (.fieldLink RX9 9 "FormwheelModel" "forms" "[J") (by decide +kernel)
  subst hsz
  have hD := hD0.self (sz := s.heap.size)
  generalize hAe : va_A [(a_t, .inr (8, [.ref a_t_forms, .ref a_t_roll, .int c_t_many, .long c_t_taps, .int c_t_cells, .int c_t_acts, .int c_t_refused, .int c_t_knocks, .int c_t_thrown])), (a_t_forms, .inl (cyJ, 6, .inr (.inl f_t_forms)))] s.heap.size = A at hD ⊢
  have hA : ∀ q : Nat, s.heap.size ≤ q → A q := fun q h => by rw [← hAe]; exact Or.inr h
  have hS : va_S A s.heap s.heap [] := va_S.rf
  have hP : va_P D vwCl [(a_t, .inr (8, [.ref a_t_forms, .ref a_t_roll, .int c_t_many, .long c_t_taps, .int c_t_cells, .int c_t_acts, .int c_t_refused, .int c_t_knocks, .int c_t_thrown])), (a_t_forms, .inl (cyJ, 6, .inr (.inl f_t_forms)))] s.heap := hP
  have hK0 := hK
  have hl := lv_entry ([.ref a_t, .int p0, .int p1, .int p2]) (n := 8) (Nat.le_of_ble_eq_true rfl)
  rw [lg_entry_eq]
  generalize (lg_sl ([.ref a_t, .int p0, .int p1, .int p2]) ++ List.replicate (8 - (lg_sl ([.ref a_t, .int p0, .int p1, .int p2])).length) Slot.unset).toArray = ls at hl ⊢
  have hl : lv_has ls 8 [(0, .ref a_t), (1, .int p0), (2, .int p1), (3, .int p2)] := hl
  have h := hF
  clear hF
  unfold F_X9_digit at h
  have hj94 : ∀ (j4_94 : Int64) (js1_94 : Int32) (js2_94 : Int64) (c_t_acts_j94 : Int32) (c_t_thrown_j94 : Int32) (f_t_forms_j94 : Nat → Int64), J_X9_digit_94 p0 j4_94 js1_94 js2_94 c_t_acts_j94 c_t_thrown_j94 f_t_forms_j94 = some (r0, o_c_t_acts, o_c_t_thrown, o_f_t_forms) → ∀ (H : Heap) (locs : List Loc), va_P D vwCl [(a_t, .inr (8, [.ref a_t_forms, .ref a_t_roll, .int c_t_many, .long c_t_taps, .int c_t_cells, .int c_t_acts_j94, .int c_t_refused, .int c_t_knocks, .int c_t_thrown_j94])), (a_t_forms, .inl (cyJ, 6, .inr (.inl f_t_forms_j94)))] H → va_D A [(a_t, .inr (8, [.ref a_t_forms, .ref a_t_roll, .int c_t_many, .long c_t_taps, .int c_t_cells, .int c_t_acts_j94, .int c_t_refused, .int c_t_knocks, .int c_t_thrown_j94])), (a_t_forms, .inl (cyJ, 6, .inr (.inl f_t_forms_j94)))] → va_S A s.heap H locs → ∀ (ls : Array Slot), lv_has ls 8 [(0, .ref a_t), (1, .int p0), (4, .long j4_94)] → W p l e rmX9_digit s m ([.ref a_t, .int p0, .int p1, .int p2] : List Value).toArray below meth c H locs 0 0 (MQ below (va_Qi (fun (r : Int32) (_ : Unit) => r = r0) (fun _ t => wQA D [(a_t, .inr (8, [.ref a_t_forms, .ref a_t_roll, .int c_t_many, .long c_t_taps, .int c_t_cells, .int o_c_t_acts, .int c_t_refused, .int c_t_knocks, .int o_c_t_thrown])), (a_t_forms, .inl (cyJ, 6, .inr (.inl o_f_t_forms)))] A t) A) ([.ref a_t, .int p0, .int p1, .int p2] : List Value).toArray s 0 0 A) (F0 m 94 ls [.long js2_94, .int js1_94, .ref a_t_forms]) := by
    intro j4_94 js1_94 js2_94 c_t_acts_j94 c_t_thrown_j94 f_t_forms_j94 h H locs hP hD hS ls hl
    unfold J_X9_digit_94 at h
    obtain ⟨hq94, h⟩ := chk_h h
    refine va_last hx hb hK hP hD hS 1 0 rfl rfl hq94 dX9_digit_94 (fun H locs hP hD hS => ?_)
    obtain ⟨f_t_forms_94, e_f_t_forms_94⟩ : ∃ z, z = vp_updL f_t_forms_j94 js1_94.toNatClampNeg js2_94 := ⟨_, rfl⟩
    have h := bnd_h e_f_t_forms_94 h
    have hP : va_P D vwCl [(a_t, .inr (8, [.ref a_t_forms, .ref a_t_roll, .int c_t_many, .long c_t_taps, .int c_t_cells, .int c_t_acts_j94, .int c_t_refused, .int c_t_knocks, .int c_t_thrown_j94])), (a_t_forms, .inl (cyJ, 6, .inr (.inl f_t_forms_94)))] H := by rw [e_f_t_forms_94]; exact hP
    have hD : va_D A [(a_t, .inr (8, [.ref a_t_forms, .ref a_t_roll, .int c_t_many, .long c_t_taps, .int c_t_cells, .int c_t_acts_j94, .int c_t_refused, .int c_t_knocks, .int c_t_thrown_j94])), (a_t_forms, .inl (cyJ, 6, .inr (.inl f_t_forms_94)))] := by rw [e_f_t_forms_94]; exact hD
    refine lv_aload_n hx hb dX9_digit_95 rfl (lv_at hl 0 rfl) ?_
    refine lv_aload_n hx hb dX9_digit_96 rfl (lv_at hl 0 rfl) ?_
    refine va_get (D := D) (ci := 8) (v := .ref a_t_forms) (C := RX9) (T := TX9) (N := 9) hx hb hts hinX9 hown hK hP 0 rfl rfl 0 (by decide) hfl9 (fun _ h9 => h9) rfl dX9_digit_97 ?_
    refine lv_iload_n hx hb dX9_digit_100 rfl (lv_at hl 1 rfl) ?_
    obtain ⟨hq101, h⟩ := chk_h h
    refine va_lald hx hb hK hP 1 0 rfl rfl hq101 dX9_digit_101 ?_
    refine lv_lload hx hb dX9_digit_102 (lv_at hl 2 rfl) ?_
    refine W.lcmp hx hb dX9_digit_104 ?_
    refine lv_if_ne (tgt := 112) hx hb dX9_digit_105 (by decide) (fun c105 => ?_) (fun c105 => ?_)
    · have c105 := fun z => c105 ((lg_cmp_eq _ _).mpr z)
      have h := if_ c105 h
      refine lv_iconst (v := 1) hx hb dX9_digit_112 (by decide) ?_
      obtain ⟨r113, c_t_acts_113, hc113, h⟩ := obn2_h h
      have hPc := hP.sub (ws' := [(a_t, .inr (8, [.ref a_t_forms, .ref a_t_roll, .int c_t_many, .long c_t_taps, .int c_t_cells, .int c_t_acts_j94, .int c_t_refused, .int c_t_knocks, .int c_t_thrown_j94]))]) [0] rfl
      have hDc := hD.sub (ws' := [(a_t, .inr (8, [.ref a_t_forms, .ref a_t_roll, .int c_t_many, .long c_t_taps, .int c_t_cells, .int c_t_acts_j94, .int c_t_refused, .int c_t_knocks, .int c_t_thrown_j94]))]) [0] (by decide) rfl
      refine hp_i (w1 := [(a_t, .inr (8, [.ref a_t_forms, .ref a_t_roll, .int c_t_many, .long c_t_taps, .int c_t_cells, .int c_t_acts_113, .int c_t_refused, .int c_t_knocks, .int c_t_thrown_j94]))]) (wr := [(a_t_forms, .inl (cyJ, 6, .inr (.inl f_t_forms_94)))]) (va_runV (As := [.int (1 : Int32)]) (rest := []) hcf (c_X9_done l D cyJ H.size a_t a_t_forms a_t_roll c_t_many c_t_taps c_t_cells c_t_acts_j94 c_t_refused c_t_knocks c_t_thrown_j94 (1 : Int32) r113 c_t_acts_113 hc113) (cwV 1 hts gX9_digit_X9_done rfl rfl rfl ydX9_done ⟨Nat.le_of_ble_eq_true rfl, Nat.le_of_ble_eq_true rfl⟩) ⟨bl_PD, va_recv hK hP (ci := 8) (q0 := 0) rfl rfl, pr_PD hPc hK0 hDc hnw⟩ rfl rfl hl.1 rfl (lv_room (Nat.le_of_ble_eq_true rfl)) dX9_digit_113 ⟨Nat.le_of_ble_eq_true rfl, Nat.le_of_ble_eq_true rfl⟩) hP hD hS hA [0] [1] rfl rfl (by decide) (by decide) (fun H locs hP hD hS => ?_)
      have hP : va_P D vwCl [(a_t_forms, .inl (cyJ, 6, .inr (.inl f_t_forms_94))), (a_t, .inr (8, [.ref a_t_forms, .ref a_t_roll, .int c_t_many, .long c_t_taps, .int c_t_cells, .int c_t_acts_113, .int c_t_refused, .int c_t_knocks, .int c_t_thrown_j94]))] H := hP
      have hD : va_D A [(a_t_forms, .inl (cyJ, 6, .inr (.inl f_t_forms_94))), (a_t, .inr (8, [.ref a_t_forms, .ref a_t_roll, .int c_t_many, .long c_t_taps, .int c_t_cells, .int c_t_acts_113, .int c_t_refused, .int c_t_knocks, .int c_t_thrown_j94]))] := hD
      obtain ⟨e0, e1, e2, e3⟩ := tup4 h
      subst e0
      subst e1
      subst e2
      subst e3
      have hP9 : va_P D vwCl [(a_t, .inr (8, [.ref a_t_forms, .ref a_t_roll, .int c_t_many, .long c_t_taps, .int c_t_cells, .int c_t_acts_113, .int c_t_refused, .int c_t_knocks, .int c_t_thrown_j94])), (a_t_forms, .inl (cyJ, 6, .inr (.inl f_t_forms_94)))] H := hP.sub [1, 0] rfl
      have hD9 : va_D A [(a_t, .inr (8, [.ref a_t_forms, .ref a_t_roll, .int c_t_many, .long c_t_taps, .int c_t_cells, .int c_t_acts_113, .int c_t_refused, .int c_t_knocks, .int c_t_thrown_j94])), (a_t_forms, .inl (cyJ, 6, .inr (.inl f_t_forms_94)))] := hD.sub [1, 0] (by decide) rfl
      exact W.iret hx hb hr (fun t ht hW => ⟨⟨_, (), rfl, rfl, wQA_of ht hP9 hD9⟩, hS.F ht⟩) hS.2.2 dX9_digit_116
    · have c105 := (lg_cmp_eq _ _).mp c105
      have h := it_ c105 h
      refine lv_iconst (v := 0) hx hb dX9_digit_108 (by decide) ?_
      refine lv_goto (tgt := 113) hx hb dX9_digit_109 (by decide) ?_
      obtain ⟨r113, c_t_acts_113, hc113, h⟩ := obn2_h h
      have hPc := hP.sub (ws' := [(a_t, .inr (8, [.ref a_t_forms, .ref a_t_roll, .int c_t_many, .long c_t_taps, .int c_t_cells, .int c_t_acts_j94, .int c_t_refused, .int c_t_knocks, .int c_t_thrown_j94]))]) [0] rfl
      have hDc := hD.sub (ws' := [(a_t, .inr (8, [.ref a_t_forms, .ref a_t_roll, .int c_t_many, .long c_t_taps, .int c_t_cells, .int c_t_acts_j94, .int c_t_refused, .int c_t_knocks, .int c_t_thrown_j94]))]) [0] (by decide) rfl
      refine hp_i (w1 := [(a_t, .inr (8, [.ref a_t_forms, .ref a_t_roll, .int c_t_many, .long c_t_taps, .int c_t_cells, .int c_t_acts_113, .int c_t_refused, .int c_t_knocks, .int c_t_thrown_j94]))]) (wr := [(a_t_forms, .inl (cyJ, 6, .inr (.inl f_t_forms_94)))]) (va_runV (As := [.int (0 : Int32)]) (rest := []) hcf (c_X9_done l D cyJ H.size a_t a_t_forms a_t_roll c_t_many c_t_taps c_t_cells c_t_acts_j94 c_t_refused c_t_knocks c_t_thrown_j94 (0 : Int32) r113 c_t_acts_113 hc113) (cwV 1 hts gX9_digit_X9_done rfl rfl rfl ydX9_done ⟨Nat.le_of_ble_eq_true rfl, Nat.le_of_ble_eq_true rfl⟩) ⟨bl_PD, va_recv hK hP (ci := 8) (q0 := 0) rfl rfl, pr_PD hPc hK0 hDc hnw⟩ rfl rfl hl.1 rfl (lv_room (Nat.le_of_ble_eq_true rfl)) dX9_digit_113 ⟨Nat.le_of_ble_eq_true rfl, Nat.le_of_ble_eq_true rfl⟩) hP hD hS hA [0] [1] rfl rfl (by decide) (by decide) (fun H locs hP hD hS => ?_)
      have hP : va_P D vwCl [(a_t_forms, .inl (cyJ, 6, .inr (.inl f_t_forms_94))), (a_t, .inr (8, [.ref a_t_forms, .ref a_t_roll, .int c_t_many, .long c_t_taps, .int c_t_cells, .int c_t_acts_113, .int c_t_refused, .int c_t_knocks, .int c_t_thrown_j94]))] H := hP
      have hD : va_D A [(a_t_forms, .inl (cyJ, 6, .inr (.inl f_t_forms_94))), (a_t, .inr (8, [.ref a_t_forms, .ref a_t_roll, .int c_t_many, .long c_t_taps, .int c_t_cells, .int c_t_acts_113, .int c_t_refused, .int c_t_knocks, .int c_t_thrown_j94]))] := hD
      obtain ⟨e0, e1, e2, e3⟩ := tup4 h
      subst e0
      subst e1
      subst e2
      subst e3
      have hP9 : va_P D vwCl [(a_t, .inr (8, [.ref a_t_forms, .ref a_t_roll, .int c_t_many, .long c_t_taps, .int c_t_cells, .int c_t_acts_113, .int c_t_refused, .int c_t_knocks, .int c_t_thrown_j94])), (a_t_forms, .inl (cyJ, 6, .inr (.inl f_t_forms_94)))] H := hP.sub [1, 0] rfl
      have hD9 : va_D A [(a_t, .inr (8, [.ref a_t_forms, .ref a_t_roll, .int c_t_many, .long c_t_taps, .int c_t_cells, .int c_t_acts_113, .int c_t_refused, .int c_t_knocks, .int c_t_thrown_j94])), (a_t_forms, .inl (cyJ, 6, .inr (.inl f_t_forms_94)))] := hD.sub [1, 0] (by decide) rfl
      exact W.iret hx hb hr (fun t ht hW => ⟨⟨_, (), rfl, rfl, wQA_of ht hP9 hD9⟩, hS.F ht⟩) hS.2.2 dX9_digit_116
  have hj34 : ∀ (js1_34 : Int32) (js2_34 : Int32) (c_t_acts_j34 : Int32) (c_t_thrown_j34 : Int32) (f_t_forms_j34 : Nat → Int64), J_X9_digit_34 p0 p1 p2 js1_34 js2_34 c_t_acts_j34 c_t_thrown_j34 f_t_forms_j34 = some (r0, o_c_t_acts, o_c_t_thrown, o_f_t_forms) → ∀ (H : Heap) (locs : List Loc), va_P D vwCl [(a_t, .inr (8, [.ref a_t_forms, .ref a_t_roll, .int c_t_many, .long c_t_taps, .int c_t_cells, .int c_t_acts_j34, .int c_t_refused, .int c_t_knocks, .int c_t_thrown_j34])), (a_t_forms, .inl (cyJ, 6, .inr (.inl f_t_forms_j34)))] H → va_D A [(a_t, .inr (8, [.ref a_t_forms, .ref a_t_roll, .int c_t_many, .long c_t_taps, .int c_t_cells, .int c_t_acts_j34, .int c_t_refused, .int c_t_knocks, .int c_t_thrown_j34])), (a_t_forms, .inl (cyJ, 6, .inr (.inl f_t_forms_j34)))] → va_S A s.heap H locs → ∀ (ls : Array Slot), lv_has ls 8 [(0, .ref a_t), (1, .int p0), (2, .int p1), (3, .int p2)] → W p l e rmX9_digit s m ([.ref a_t, .int p0, .int p1, .int p2] : List Value).toArray below meth c H locs 0 0 (MQ below (va_Qi (fun (r : Int32) (_ : Unit) => r = r0) (fun _ t => wQA D [(a_t, .inr (8, [.ref a_t_forms, .ref a_t_roll, .int c_t_many, .long c_t_taps, .int c_t_cells, .int o_c_t_acts, .int c_t_refused, .int c_t_knocks, .int o_c_t_thrown])), (a_t_forms, .inl (cyJ, 6, .inr (.inl o_f_t_forms)))] A t) A) ([.ref a_t, .int p0, .int p1, .int p2] : List Value).toArray s 0 0 A) (F0 m 34 ls [.int js2_34, .int js1_34, .ref a_t]) := by
    intro js1_34 js2_34 c_t_acts_j34 c_t_thrown_j34 f_t_forms_j34 h H locs hP hD hS ls hl
    unfold J_X9_digit_34 at h
    obtain ⟨r34, c_t_thrown_34, hc34, h⟩ := obn2_h h
    have hPc := hP.sub (ws' := [(a_t, .inr (8, [.ref a_t_forms, .ref a_t_roll, .int c_t_many, .long c_t_taps, .int c_t_cells, .int c_t_acts_j34, .int c_t_refused, .int c_t_knocks, .int c_t_thrown_j34]))]) [0] rfl
    have hDc := hD.sub (ws' := [(a_t, .inr (8, [.ref a_t_forms, .ref a_t_roll, .int c_t_many, .long c_t_taps, .int c_t_cells, .int c_t_acts_j34, .int c_t_refused, .int c_t_knocks, .int c_t_thrown_j34]))]) [0] (by decide) rfl
    refine hp_i (w1 := [(a_t, .inr (8, [.ref a_t_forms, .ref a_t_roll, .int c_t_many, .long c_t_taps, .int c_t_cells, .int c_t_acts_j34, .int c_t_refused, .int c_t_knocks, .int c_t_thrown_34]))]) (wr := [(a_t_forms, .inl (cyJ, 6, .inr (.inl f_t_forms_j34)))]) (va_runV (As := [.int js1_34, .int js2_34]) (rest := []) hcf (c_X9_isThrown l D cyJ H.size a_t a_t_forms a_t_roll c_t_many c_t_taps c_t_cells c_t_acts_j34 c_t_refused c_t_knocks c_t_thrown_j34 js1_34 js2_34 r34 c_t_thrown_34 hc34) (cwV 2 hts gX9_digit_X9_isThrown rfl rfl rfl ydX9_isThrown ⟨Nat.le_of_ble_eq_true rfl, Nat.le_of_ble_eq_true rfl⟩) ⟨bl_PD, va_recv hK hP (ci := 8) (q0 := 0) rfl rfl, pr_PD hPc hK0 hDc hnw⟩ rfl rfl hl.1 rfl (lv_room (Nat.le_of_ble_eq_true rfl)) dX9_digit_34 ⟨Nat.le_of_ble_eq_true rfl, Nat.le_of_ble_eq_true rfl⟩) hP hD hS hA [0] [1] rfl rfl (by decide) (by decide) (fun H locs hP hD hS => ?_)
    have hP : va_P D vwCl [(a_t_forms, .inl (cyJ, 6, .inr (.inl f_t_forms_j34))), (a_t, .inr (8, [.ref a_t_forms, .ref a_t_roll, .int c_t_many, .long c_t_taps, .int c_t_cells, .int c_t_acts_j34, .int c_t_refused, .int c_t_knocks, .int c_t_thrown_34]))] H := hP
    have hD : va_D A [(a_t_forms, .inl (cyJ, 6, .inr (.inl f_t_forms_j34))), (a_t, .inr (8, [.ref a_t_forms, .ref a_t_roll, .int c_t_many, .long c_t_taps, .int c_t_cells, .int c_t_acts_j34, .int c_t_refused, .int c_t_knocks, .int c_t_thrown_34]))] := hD
    refine lv_if_eq (tgt := 42) hx hb dX9_digit_37 (by decide) (fun c37 => ?_) (fun c37 => ?_)
    · have h := it_ c37 h
      refine lv_aload_n hx hb dX9_digit_42 rfl (lv_at hl 0 rfl) ?_
      refine va_get (D := D) (ci := 8) (v := .ref a_t_forms) (C := RX9) (T := TX9) (N := 9) hx hb hts hinX9 hown hK hP 1 rfl rfl 0 (by decide) hfl9 (fun _ h9 => h9) rfl dX9_digit_43 ?_
      refine lv_iload_n hx hb dX9_digit_46 rfl (lv_at hl 1 rfl) ?_
      obtain ⟨hq47, h⟩ := chk_h h
      refine va_lald hx hb hK hP 0 0 rfl rfl hq47 dX9_digit_47 ?_
      refine lv_topl (fun x4_48 e_x4_48 => ?_)
      have h := bnd_h e_x4_48 h
      refine lv_lstore (lv' := [(4, .long x4_48), (0, .ref a_t), (1, .int p0), (2, .int p1), (3, .int p2)]) hx hb dX9_digit_48 hl (by decide) rfl (fun ls hl => ?_)
      refine lv_lconst (v := 1) hx hb dX9_digit_50 (by decide) ?_
      refine lv_iload_n hx hb dX9_digit_51 rfl (lv_at hl 3 rfl) ?_
      refine lv_lshl (v := (1 : Int64) <<< (p1.toInt64 &&& 63)) hx hb dX9_digit_52 rfl ?_
      refine lv_topl (fun x6_53 e_x6_53 => ?_)
      have h := bnd_h e_x6_53 h
      refine lv_lstore (lv' := [(6, .long x6_53), (4, .long x4_48), (0, .ref a_t), (1, .int p0), (2, .int p1), (3, .int p2)]) hx hb dX9_digit_53 hl (by decide) rfl (fun ls hl => ?_)
      refine lv_aload_n hx hb dX9_digit_55 rfl (lv_at hl 2 rfl) ?_
      refine va_get (D := D) (ci := 8) (v := .ref a_t_forms) (C := RX9) (T := TX9) (N := 9) hx hb hts hinX9 hown hK hP 1 rfl rfl 0 (by decide) hfl9 (fun _ h9 => h9) rfl dX9_digit_56 ?_
      refine lv_iload_n hx hb dX9_digit_59 rfl (lv_at hl 3 rfl) ?_
      refine lv_iload_n hx hb dX9_digit_60 rfl (lv_at hl 5 rfl) ?_
      refine lv_if_ne (tgt := 76) hx hb dX9_digit_61 (by decide) (fun c61 => ?_) (fun c61 => ?_)
      · have h := if_ c61 h
        refine lv_iload_n hx hb dX9_digit_76 rfl (lv_at hl 5 rfl) ?_
        refine lv_iconst (v := 1) hx hb dX9_digit_77 (by decide) ?_
        refine lv_icmp_ne (tgt := 89) hx hb dX9_digit_78 (by decide) (fun c78 => ?_) (fun c78 => ?_)
        · have h := if_ c78 h
          refine lv_lload hx hb dX9_digit_89 (lv_at hl 1 rfl) ?_
          refine lv_lload hx hb dX9_digit_91 (lv_at hl 0 rfl) ?_
          refine lv_lxor hx hb dX9_digit_93 ?_
          exact hj94 x4_48 p0 (x4_48 ^^^ x6_53) c_t_acts_j34 c_t_thrown_34 f_t_forms_j34 h _ _ (hP.sub [1, 0] rfl) (hD.sub [1, 0] (by decide) rfl) hS ls (lv_sub hl [2, 3, 1] rfl)
        · have h := it_ c78 h
          refine lv_lload hx hb dX9_digit_81 (lv_at hl 1 rfl) ?_
          refine lv_lload hx hb dX9_digit_83 (lv_at hl 0 rfl) ?_
          refine lv_lor hx hb dX9_digit_85 ?_
          refine lv_goto (tgt := 94) hx hb dX9_digit_86 (by decide) ?_
          exact hj94 x4_48 p0 (x4_48 ||| x6_53) c_t_acts_j34 c_t_thrown_34 f_t_forms_j34 h _ _ (hP.sub [1, 0] rfl) (hD.sub [1, 0] (by decide) rfl) hS ls (lv_sub hl [2, 3, 1] rfl)
      · have h := it_ c61 h
        refine lv_lload hx hb dX9_digit_64 (lv_at hl 1 rfl) ?_
        refine lv_lload hx hb dX9_digit_66 (lv_at hl 0 rfl) ?_
        refine lv_ldc2 hx hb hown (hts (.constantLong RX9 87 (-1)) (by decide +kernel)) dX9_digit_68 ?_
        refine lv_lxor hx hb dX9_digit_71 ?_
        refine lv_land hx hb dX9_digit_72 ?_
        refine lv_goto (tgt := 94) hx hb dX9_digit_73 (by decide) ?_
        exact hj94 x4_48 p0 (x4_48 &&& (x6_53 ^^^ (-1 : Int64))) c_t_acts_j34 c_t_thrown_34 f_t_forms_j34 h _ _ (hP.sub [1, 0] rfl) (hD.sub [1, 0] (by decide) rfl) hS ls (lv_sub hl [2, 3, 1] rfl)
    · have h := if_ c37 h
      refine lv_iconst (v := 0) hx hb dX9_digit_40 (by decide) ?_
      obtain ⟨e0, e1, e2, e3⟩ := tup4 h
      subst e0
      subst e1
      subst e2
      subst e3
      have hP9 : va_P D vwCl [(a_t, .inr (8, [.ref a_t_forms, .ref a_t_roll, .int c_t_many, .long c_t_taps, .int c_t_cells, .int c_t_acts_j34, .int c_t_refused, .int c_t_knocks, .int c_t_thrown_34])), (a_t_forms, .inl (cyJ, 6, .inr (.inl f_t_forms_j34)))] H := hP.sub [1, 0] rfl
      have hD9 : va_D A [(a_t, .inr (8, [.ref a_t_forms, .ref a_t_roll, .int c_t_many, .long c_t_taps, .int c_t_cells, .int c_t_acts_j34, .int c_t_refused, .int c_t_knocks, .int c_t_thrown_34])), (a_t_forms, .inl (cyJ, 6, .inr (.inl f_t_forms_j34)))] := hD.sub [1, 0] (by decide) rfl
      exact W.iret hx hb hr (fun t ht hW => ⟨⟨_, (), rfl, rfl, wQA_of ht hP9 hD9⟩, hS.F ht⟩) hS.2.2 dX9_digit_41
  have hj29 : ∀ (js1_29 : Int32) (c_t_acts_j29 : Int32) (c_t_thrown_j29 : Int32) (f_t_forms_j29 : Nat → Int64), J_X9_digit_29 p0 p1 p2 js1_29 c_t_acts_j29 c_t_thrown_j29 f_t_forms_j29 = some (r0, o_c_t_acts, o_c_t_thrown, o_f_t_forms) → ∀ (H : Heap) (locs : List Loc), va_P D vwCl [(a_t, .inr (8, [.ref a_t_forms, .ref a_t_roll, .int c_t_many, .long c_t_taps, .int c_t_cells, .int c_t_acts_j29, .int c_t_refused, .int c_t_knocks, .int c_t_thrown_j29])), (a_t_forms, .inl (cyJ, 6, .inr (.inl f_t_forms_j29)))] H → va_D A [(a_t, .inr (8, [.ref a_t_forms, .ref a_t_roll, .int c_t_many, .long c_t_taps, .int c_t_cells, .int c_t_acts_j29, .int c_t_refused, .int c_t_knocks, .int c_t_thrown_j29])), (a_t_forms, .inl (cyJ, 6, .inr (.inl f_t_forms_j29)))] → va_S A s.heap H locs → ∀ (ls : Array Slot), lv_has ls 8 [(0, .ref a_t), (1, .int p0), (2, .int p1), (3, .int p2)] → W p l e rmX9_digit s m ([.ref a_t, .int p0, .int p1, .int p2] : List Value).toArray below meth c H locs 0 0 (MQ below (va_Qi (fun (r : Int32) (_ : Unit) => r = r0) (fun _ t => wQA D [(a_t, .inr (8, [.ref a_t_forms, .ref a_t_roll, .int c_t_many, .long c_t_taps, .int c_t_cells, .int o_c_t_acts, .int c_t_refused, .int c_t_knocks, .int o_c_t_thrown])), (a_t_forms, .inl (cyJ, 6, .inr (.inl o_f_t_forms)))] A t) A) ([.ref a_t, .int p0, .int p1, .int p2] : List Value).toArray s 0 0 A) (F0 m 29 ls [.int js1_29, .ref a_t]) := by
    intro js1_29 c_t_acts_j29 c_t_thrown_j29 f_t_forms_j29 h H locs hP hD hS ls hl
    unfold J_X9_digit_29 at h
    refine lv_iconst (v := 1) hx hb dX9_digit_29 (by decide) ?_
    refine lv_goto (tgt := 34) hx hb dX9_digit_30 (by decide) ?_
    exact hj34 js1_29 (1 : Int32) c_t_acts_j29 c_t_thrown_j29 f_t_forms_j29 h _ _ (hP.sub [0, 1] rfl) (hD.sub [0, 1] (by decide) rfl) hS ls (lv_sub hl [0, 1, 2, 3] rfl)
  have hj20 : ∀ (js1_20 : Int32) (c_t_acts_j20 : Int32) (c_t_thrown_j20 : Int32) (f_t_forms_j20 : Nat → Int64), J_X9_digit_20 p0 p1 p2 js1_20 c_t_acts_j20 c_t_thrown_j20 f_t_forms_j20 = some (r0, o_c_t_acts, o_c_t_thrown, o_f_t_forms) → ∀ (H : Heap) (locs : List Loc), va_P D vwCl [(a_t, .inr (8, [.ref a_t_forms, .ref a_t_roll, .int c_t_many, .long c_t_taps, .int c_t_cells, .int c_t_acts_j20, .int c_t_refused, .int c_t_knocks, .int c_t_thrown_j20])), (a_t_forms, .inl (cyJ, 6, .inr (.inl f_t_forms_j20)))] H → va_D A [(a_t, .inr (8, [.ref a_t_forms, .ref a_t_roll, .int c_t_many, .long c_t_taps, .int c_t_cells, .int c_t_acts_j20, .int c_t_refused, .int c_t_knocks, .int c_t_thrown_j20])), (a_t_forms, .inl (cyJ, 6, .inr (.inl f_t_forms_j20)))] → va_S A s.heap H locs → ∀ (ls : Array Slot), lv_has ls 8 [(0, .ref a_t), (1, .int p0), (2, .int p1), (3, .int p2)] → W p l e rmX9_digit s m ([.ref a_t, .int p0, .int p1, .int p2] : List Value).toArray below meth c H locs 0 0 (MQ below (va_Qi (fun (r : Int32) (_ : Unit) => r = r0) (fun _ t => wQA D [(a_t, .inr (8, [.ref a_t_forms, .ref a_t_roll, .int c_t_many, .long c_t_taps, .int c_t_cells, .int o_c_t_acts, .int c_t_refused, .int c_t_knocks, .int o_c_t_thrown])), (a_t_forms, .inl (cyJ, 6, .inr (.inl o_f_t_forms)))] A t) A) ([.ref a_t, .int p0, .int p1, .int p2] : List Value).toArray s 0 0 A) (F0 m 20 ls [.int js1_20, .ref a_t]) := by
    intro js1_20 c_t_acts_j20 c_t_thrown_j20 f_t_forms_j20 h H locs hP hD hS ls hl
    unfold J_X9_digit_20 at h
    refine lv_iload_n hx hb dX9_digit_20 rfl (lv_at hl 3 rfl) ?_
    refine lv_if_lt (tgt := 29) hx hb dX9_digit_21 (by decide) (fun c21 => ?_) (fun c21 => ?_)
    · have h := it_ c21 h
      exact hj29 js1_20 c_t_acts_j20 c_t_thrown_j20 f_t_forms_j20 h _ _ (hP.sub [0, 1] rfl) (hD.sub [0, 1] (by decide) rfl) hS ls (lv_sub hl [0, 1, 2, 3] rfl)
    · have h := if_ c21 h
      refine lv_iload_n hx hb dX9_digit_24 rfl (lv_at hl 3 rfl) ?_
      refine lv_iconst (v := 2) hx hb dX9_digit_25 (by decide) ?_
      refine lv_icmp_le (tgt := 33) hx hb dX9_digit_26 (by decide) (fun c26 => ?_) (fun c26 => ?_)
      · have h := it_ c26 h
        refine lv_iconst (v := 0) hx hb dX9_digit_33 (by decide) ?_
        exact hj34 js1_20 (0 : Int32) c_t_acts_j20 c_t_thrown_j20 f_t_forms_j20 h _ _ (hP.sub [0, 1] rfl) (hD.sub [0, 1] (by decide) rfl) hS ls (lv_sub hl [0, 1, 2, 3] rfl)
      · have h := if_ c26 h
        exact hj29 js1_20 c_t_acts_j20 c_t_thrown_j20 f_t_forms_j20 h _ _ (hP.sub [0, 1] rfl) (hD.sub [0, 1] (by decide) rfl) hS ls (lv_sub hl [0, 1, 2, 3] rfl)
  have hj15 : ∀ (c_t_acts_j15 : Int32) (c_t_thrown_j15 : Int32) (f_t_forms_j15 : Nat → Int64), J_X9_digit_15 p0 p1 p2 c_t_acts_j15 c_t_thrown_j15 f_t_forms_j15 = some (r0, o_c_t_acts, o_c_t_thrown, o_f_t_forms) → ∀ (H : Heap) (locs : List Loc), va_P D vwCl [(a_t, .inr (8, [.ref a_t_forms, .ref a_t_roll, .int c_t_many, .long c_t_taps, .int c_t_cells, .int c_t_acts_j15, .int c_t_refused, .int c_t_knocks, .int c_t_thrown_j15])), (a_t_forms, .inl (cyJ, 6, .inr (.inl f_t_forms_j15)))] H → va_D A [(a_t, .inr (8, [.ref a_t_forms, .ref a_t_roll, .int c_t_many, .long c_t_taps, .int c_t_cells, .int c_t_acts_j15, .int c_t_refused, .int c_t_knocks, .int c_t_thrown_j15])), (a_t_forms, .inl (cyJ, 6, .inr (.inl f_t_forms_j15)))] → va_S A s.heap H locs → ∀ (ls : Array Slot), lv_has ls 8 [(0, .ref a_t), (1, .int p0), (2, .int p1), (3, .int p2)] → W p l e rmX9_digit s m ([.ref a_t, .int p0, .int p1, .int p2] : List Value).toArray below meth c H locs 0 0 (MQ below (va_Qi (fun (r : Int32) (_ : Unit) => r = r0) (fun _ t => wQA D [(a_t, .inr (8, [.ref a_t_forms, .ref a_t_roll, .int c_t_many, .long c_t_taps, .int c_t_cells, .int o_c_t_acts, .int c_t_refused, .int c_t_knocks, .int o_c_t_thrown])), (a_t_forms, .inl (cyJ, 6, .inr (.inl o_f_t_forms)))] A t) A) ([.ref a_t, .int p0, .int p1, .int p2] : List Value).toArray s 0 0 A) (F0 m 15 ls [.ref a_t]) := by
    intro c_t_acts_j15 c_t_thrown_j15 f_t_forms_j15 h H locs hP hD hS ls hl
    unfold J_X9_digit_15 at h
    refine lv_iconst (v := 1) hx hb dX9_digit_15 (by decide) ?_
    refine lv_goto (tgt := 20) hx hb dX9_digit_16 (by decide) ?_
    exact hj20 (1 : Int32) c_t_acts_j15 c_t_thrown_j15 f_t_forms_j15 h _ _ (hP.sub [0, 1] rfl) (hD.sub [0, 1] (by decide) rfl) hS ls (lv_sub hl [0, 1, 2, 3] rfl)
  refine lv_aload_n hx hb dX9_digit_0 rfl (lv_at hl 0 rfl) ?_
  refine lv_iload_n hx hb dX9_digit_1 rfl (lv_at hl 1 rfl) ?_
  obtain ⟨r2, hc2, h⟩ := obn_h h
  refine pz_callS (As := [.int p0]) (rest := [.ref a_t]) hcf (c_X9_isForm l p0 r2 hc2) (va_cwS 1 hts gX9_digit_X9_isForm rfl rfl rfl ydX9_isForm ⟨Nat.le_of_ble_eq_true rfl, Nat.le_of_ble_eq_true rfl⟩) hnw rfl hl.1 rfl (Nat.le_of_ble_eq_true rfl) dX9_digit_2 ⟨Nat.le_of_ble_eq_true rfl, Nat.le_of_ble_eq_true rfl⟩ ?_
  refine lv_if_eq (tgt := 15) hx hb dX9_digit_5 (by decide) (fun c5 => ?_) (fun c5 => ?_)
  · have h := it_ c5 h
    exact hj15 c_t_acts c_t_thrown f_t_forms h _ _ (hP.sub [0, 1] rfl) (hD.sub [0, 1] (by decide) rfl) hS ls (lv_sub hl [0, 1, 2, 3] rfl)
  · have h := if_ c5 h
    refine lv_iload_n hx hb dX9_digit_8 rfl (lv_at hl 2 rfl) ?_
    obtain ⟨r9, hc9, h⟩ := obn_h h
    refine pz_callS (As := [.int p1]) (rest := [.ref a_t]) hcf (c_X9_isPlace l p1 r9 hc9) (va_cwS 1 hts gX9_digit_X9_isPlace rfl rfl rfl ydX9_isPlace ⟨Nat.le_of_ble_eq_true rfl, Nat.le_of_ble_eq_true rfl⟩) hnw rfl hl.1 rfl (Nat.le_of_ble_eq_true rfl) dX9_digit_9 ⟨Nat.le_of_ble_eq_true rfl, Nat.le_of_ble_eq_true rfl⟩ ?_
    refine lv_if_ne (tgt := 19) hx hb dX9_digit_12 (by decide) (fun c12 => ?_) (fun c12 => ?_)
    · have h := if_ c12 h
      refine lv_iconst (v := 0) hx hb dX9_digit_19 (by decide) ?_
      exact hj20 (0 : Int32) c_t_acts c_t_thrown f_t_forms h _ _ (hP.sub [0, 1] rfl) (hD.sub [0, 1] (by decide) rfl) hS ls (lv_sub hl [0, 1, 2, 3] rfl)
    · have h := it_ c12 h
      exact hj15 c_t_acts c_t_thrown f_t_forms h _ _ (hP.sub [0, 1] rfl) (hD.sub [0, 1] (by decide) rfl) hS ls (lv_sub hl [0, 1, 2, 3] rfl)

noncomputable abbrev rmX9_run : Room := { frames := 2, cells := 0, slots := 0, locals := 42 }
theorem ydX9_run : yX9_run.cls = RX9 ∧ yX9_run.cls ≠ "java/lang/invoke/MethodHandle" ∧ yX9_run.cls ≠ "java/lang/invoke/VarHandle" ∧ (parseMethodDescriptor yX9_run.desc).map (fun d => d.parameters.length) = some 3 := by decide +kernel
noncomputable def S_X9_run_44 (z1_44 : Int32) (z3_44 : Int32) (k69 : (Nat → Int64) → Option (Int32 × Int32 × Int32 × (Nat → Int64))) (ih44 : Int32 → (Nat → Int64) → Option (Int32 × Int32 × Int32 × (Nat → Int64))) (y4_44 : Int32) (f_t_forms_44 : Nat → Int64) : Option (Int32 × Int32 × Int32 × (Nat → Int64)) :=
 (if z3_44 ≤ y4_44 then
 k69 f_t_forms_44
else
 chk (¬ (z1_44 < 0 ∨ 6 ≤ z1_44.toNatClampNeg)) (
 chk (¬ (z1_44 < 0 ∨ 6 ≤ z1_44.toNatClampNeg)) (
 bnd (vp_updL f_t_forms_44 z1_44.toNatClampNeg ((f_t_forms_44 z1_44.toNatClampNeg) ^^^ ((1 : Int64) <<< (y4_44.toInt64 &&& 63)))) (fun f_t_forms_62 =>
 bnd (y4_44 + 1) (fun x4_63 =>
 ih44 x4_63 f_t_forms_62)))))
noncomputable def J_X9_run_33 (jl1_33 : Int32) (jl2_33 : Int32) (jl3_33 : Int32) (js1_33 : Int32) (js2_33 : Int32) (c_t_acts_j33 : Int32) (c_t_thrown_j33 : Int32) (f_t_forms_j33 : Nat → Int64) : Option (Int32 × Int32 × Int32 × (Nat → Int64)) :=
 obn2 (F_X9_isThrown js1_33 js2_33) (fun r33 c_t_thrown_33 =>
 (if r33 = 0 then
 LQ2 (S_X9_run_44 jl1_33 jl3_33 (fun f_t_forms_44_69 =>
 chk (¬ (jl1_33 < 0 ∨ 6 ≤ jl1_33.toNatClampNeg)) (
 obn (F_X9_onesOf (f_t_forms_44_69 jl1_33.toNatClampNeg)) (fun r76 =>
 obn2 (F_X9_done c_t_acts_j33 r76) (fun r79 c_t_acts_79 =>
 some (r79, c_t_acts_79, c_t_thrown_33, f_t_forms_44_69)))))) 20000 jl2_33 f_t_forms_j33
else
 some ((0 : Int32), c_t_acts_j33, c_t_thrown_33, f_t_forms_j33)))
noncomputable def J_X9_run_28 (jl1_28 : Int32) (jl2_28 : Int32) (jl3_28 : Int32) (js1_28 : Int32) (c_t_acts_j28 : Int32) (c_t_thrown_j28 : Int32) (f_t_forms_j28 : Nat → Int64) : Option (Int32 × Int32 × Int32 × (Nat → Int64)) :=
 J_X9_run_33 jl1_28 jl2_28 jl3_28 js1_28 (1 : Int32) c_t_acts_j28 c_t_thrown_j28 f_t_forms_j28
noncomputable def J_X9_run_13 (jl1_13 : Int32) (jl2_13 : Int32) (jl3_13 : Int32) (js1_13 : Int32) (c_t_acts_j13 : Int32) (c_t_thrown_j13 : Int32) (f_t_forms_j13 : Nat → Int64) : Option (Int32 × Int32 × Int32 × (Nat → Int64)) :=
 (if jl2_13 < 0 then
 J_X9_run_28 jl1_13 jl2_13 jl3_13 js1_13 c_t_acts_j13 c_t_thrown_j13 f_t_forms_j13
else
 (if jl3_13 < jl2_13 then
 J_X9_run_28 jl1_13 jl2_13 jl3_13 js1_13 c_t_acts_j13 c_t_thrown_j13 f_t_forms_j13
else
 (if jl3_13 ≤ (40 : Int32) then
 J_X9_run_33 jl1_13 jl2_13 jl3_13 js1_13 (0 : Int32) c_t_acts_j13 c_t_thrown_j13 f_t_forms_j13
else
 J_X9_run_28 jl1_13 jl2_13 jl3_13 js1_13 c_t_acts_j13 c_t_thrown_j13 f_t_forms_j13)))
noncomputable def F_X9_run (c_t_acts : Int32) (c_t_thrown : Int32) (f_t_forms : Nat → Int64) (p0 : Int32) (p1 : Int32) (p2 : Int32) : Option (Int32 × Int32 × Int32 × (Nat → Int64)) :=
 obn (F_X9_isForm p0) (fun r2 =>
 (if r2 = 0 then
 J_X9_run_13 p0 p1 p2 (1 : Int32) c_t_acts c_t_thrown f_t_forms
else
 J_X9_run_13 p0 p1 p2 (0 : Int32) c_t_acts c_t_thrown f_t_forms))
set_option maxHeartbeats 4000000 in
set_option maxRecDepth 100000 in
theorem c_X9_run (l : Launch) (D : va_G) (cyJ : ClassId) (sz : Nat) (a_t : Nat) (a_t_forms : Nat) (a_t_roll : Nat) (c_t_many : Int32) (c_t_taps : Int64) (c_t_cells : Int32) (c_t_acts : Int32) (c_t_refused : Int32) (c_t_knocks : Int32) (c_t_thrown : Int32) (f_t_forms : Nat → Int64) (p0 : Int32) (p1 : Int32) (p2 : Int32) (r0 : Int32) (o_c_t_acts : Int32) (o_c_t_thrown : Int32) (o_f_t_forms : Nat → Int64) (hF : F_X9_run c_t_acts c_t_thrown f_t_forms p0 p1 p2 = some (r0, o_c_t_acts, o_c_t_thrown, o_f_t_forms)) : Met l yX9_run wsX9_run rmX9_run (va_Pc [.ref a_t, .int p0, .int p1, .int p2] (wPD D [(cyJ, .long)] [(a_t, .inr (8, [.ref a_t_forms, .ref a_t_roll, .int c_t_many, .long c_t_taps, .int c_t_cells, .int c_t_acts, .int c_t_refused, .int c_t_knocks, .int c_t_thrown])), (a_t_forms, .inl (cyJ, 6, .inr (.inl f_t_forms)))] sz)) (va_Qi (fun (r : Int32) (_ : Unit) => r = r0) (fun _ t => wQA D [(a_t, .inr (8, [.ref a_t_forms, .ref a_t_roll, .int c_t_many, .long c_t_taps, .int c_t_cells, .int o_c_t_acts, .int c_t_refused, .int c_t_knocks, .int o_c_t_thrown])), (a_t_forms, .inl (cyJ, 6, .inr (.inl o_f_t_forms)))] (va_A [(a_t, .inr (8, [.ref a_t_forms, .ref a_t_roll, .int c_t_many, .long c_t_taps, .int c_t_cells, .int c_t_acts, .int c_t_refused, .int c_t_knocks, .int c_t_thrown])), (a_t_forms, .inl (cyJ, 6, .inr (.inl f_t_forms)))] sz) t) (va_A [(a_t, .inr (8, [.ref a_t_forms, .ref a_t_roll, .int c_t_many, .long c_t_taps, .int c_t_cells, .int c_t_acts, .int c_t_refused, .int c_t_knocks, .int c_t_thrown])), (a_t_forms, .inl (cyJ, 6, .inr (.inl f_t_forms)))] sz)) 0 0 (va_A [(a_t, .inr (8, [.ref a_t_forms, .ref a_t_roll, .int c_t_many, .long c_t_taps, .int c_t_cells, .int c_t_acts, .int c_t_refused, .int c_t_knocks, .int c_t_thrown])), (a_t_forms, .inl (cyJ, 6, .inr (.inl f_t_forms)))] sz) := by
  refine Met.ofW (cc := cX9_run) (maxL := 5) (ret := (some .int)) (by decide) rfl ?_
  intro p e s m args below meth c s₁ B hml hv
  obtain ⟨rfl, hsz, hP, hK, hD0, hnw⟩ := hv
  have hx := B.exec
  have hb := B.bytes
  have hr := B.returns
  have hts := atoms_spec (ws := wsX9_run) B.pre
  have hown : s.vm.findClass RX9 = some m.cls := findClass_of_methodNamed B.named
  have hlocks := B.notSynchronized
  have hcf : CallFix _ _ _ _ _ _ _ _ _ := ⟨hx, hb, hml, hown, hts⟩
  have hinX9 : ∀ w ∈ u_ws RX9 TX9 9, w ∈ wsX9_run := by decide +kernel
  have hfl9 := hts (.fieldLink RX9 9 "FormwheelModel" "forms" "[J") (by decide +kernel)
  subst hsz
  have hD := hD0.self (sz := s.heap.size)
  generalize hAe : va_A [(a_t, .inr (8, [.ref a_t_forms, .ref a_t_roll, .int c_t_many, .long c_t_taps, .int c_t_cells, .int c_t_acts, .int c_t_refused, .int c_t_knocks, .int c_t_thrown])), (a_t_forms, .inl (cyJ, 6, .inr (.inl f_t_forms)))] s.heap.size = A at hD ⊢
  have hA : ∀ q : Nat, s.heap.size ≤ q → A q := fun q h => by rw [← hAe]; exact Or.inr h
  have hS : va_S A s.heap s.heap [] := va_S.rf
  have hP : va_P D vwCl [(a_t, .inr (8, [.ref a_t_forms, .ref a_t_roll, .int c_t_many, .long c_t_taps, .int c_t_cells, .int c_t_acts, .int c_t_refused, .int c_t_knocks, .int c_t_thrown])), (a_t_forms, .inl (cyJ, 6, .inr (.inl f_t_forms)))] s.heap := hP
  have hK0 := hK
  have hl := lv_entry ([.ref a_t, .int p0, .int p1, .int p2]) (n := 5) (Nat.le_of_ble_eq_true rfl)
  rw [lg_entry_eq]
  generalize (lg_sl ([.ref a_t, .int p0, .int p1, .int p2]) ++ List.replicate (5 - (lg_sl ([.ref a_t, .int p0, .int p1, .int p2])).length) Slot.unset).toArray = ls at hl ⊢
  have hl : lv_has ls 5 [(0, .ref a_t), (1, .int p0), (2, .int p1), (3, .int p2)] := hl
  have h := hF
  clear hF
  unfold F_X9_run at h
  have hj33 : ∀ (js1_33 : Int32) (js2_33 : Int32) (c_t_acts_j33 : Int32) (c_t_thrown_j33 : Int32) (f_t_forms_j33 : Nat → Int64), J_X9_run_33 p0 p1 p2 js1_33 js2_33 c_t_acts_j33 c_t_thrown_j33 f_t_forms_j33 = some (r0, o_c_t_acts, o_c_t_thrown, o_f_t_forms) → ∀ (H : Heap) (locs : List Loc), va_P D vwCl [(a_t, .inr (8, [.ref a_t_forms, .ref a_t_roll, .int c_t_many, .long c_t_taps, .int c_t_cells, .int c_t_acts_j33, .int c_t_refused, .int c_t_knocks, .int c_t_thrown_j33])), (a_t_forms, .inl (cyJ, 6, .inr (.inl f_t_forms_j33)))] H → va_D A [(a_t, .inr (8, [.ref a_t_forms, .ref a_t_roll, .int c_t_many, .long c_t_taps, .int c_t_cells, .int c_t_acts_j33, .int c_t_refused, .int c_t_knocks, .int c_t_thrown_j33])), (a_t_forms, .inl (cyJ, 6, .inr (.inl f_t_forms_j33)))] → va_S A s.heap H locs → ∀ (ls : Array Slot), lv_has ls 5 [(0, .ref a_t), (1, .int p0), (2, .int p1), (3, .int p2)] → W p l e rmX9_run s m ([.ref a_t, .int p0, .int p1, .int p2] : List Value).toArray below meth c H locs 0 0 (MQ below (va_Qi (fun (r : Int32) (_ : Unit) => r = r0) (fun _ t => wQA D [(a_t, .inr (8, [.ref a_t_forms, .ref a_t_roll, .int c_t_many, .long c_t_taps, .int c_t_cells, .int o_c_t_acts, .int c_t_refused, .int c_t_knocks, .int o_c_t_thrown])), (a_t_forms, .inl (cyJ, 6, .inr (.inl o_f_t_forms)))] A t) A) ([.ref a_t, .int p0, .int p1, .int p2] : List Value).toArray s 0 0 A) (F0 m 33 ls [.int js2_33, .int js1_33, .ref a_t]) := by
    intro js1_33 js2_33 c_t_acts_j33 c_t_thrown_j33 f_t_forms_j33 h H locs hP hD hS ls hl
    unfold J_X9_run_33 at h
    obtain ⟨r33, c_t_thrown_33, hc33, h⟩ := obn2_h h
    have hPc := hP.sub (ws' := [(a_t, .inr (8, [.ref a_t_forms, .ref a_t_roll, .int c_t_many, .long c_t_taps, .int c_t_cells, .int c_t_acts_j33, .int c_t_refused, .int c_t_knocks, .int c_t_thrown_j33]))]) [0] rfl
    have hDc := hD.sub (ws' := [(a_t, .inr (8, [.ref a_t_forms, .ref a_t_roll, .int c_t_many, .long c_t_taps, .int c_t_cells, .int c_t_acts_j33, .int c_t_refused, .int c_t_knocks, .int c_t_thrown_j33]))]) [0] (by decide) rfl
    refine hp_i (w1 := [(a_t, .inr (8, [.ref a_t_forms, .ref a_t_roll, .int c_t_many, .long c_t_taps, .int c_t_cells, .int c_t_acts_j33, .int c_t_refused, .int c_t_knocks, .int c_t_thrown_33]))]) (wr := [(a_t_forms, .inl (cyJ, 6, .inr (.inl f_t_forms_j33)))]) (va_runV (As := [.int js1_33, .int js2_33]) (rest := []) hcf (c_X9_isThrown l D cyJ H.size a_t a_t_forms a_t_roll c_t_many c_t_taps c_t_cells c_t_acts_j33 c_t_refused c_t_knocks c_t_thrown_j33 js1_33 js2_33 r33 c_t_thrown_33 hc33) (cwV 2 hts gX9_run_X9_isThrown rfl rfl rfl ydX9_isThrown ⟨Nat.le_of_ble_eq_true rfl, Nat.le_of_ble_eq_true rfl⟩) ⟨bl_PD, va_recv hK hP (ci := 8) (q0 := 0) rfl rfl, pr_PD hPc hK0 hDc hnw⟩ rfl rfl hl.1 rfl (lv_room (Nat.le_of_ble_eq_true rfl)) dX9_run_33 ⟨Nat.le_of_ble_eq_true rfl, Nat.le_of_ble_eq_true rfl⟩) hP hD hS hA [0] [1] rfl rfl (by decide) (by decide) (fun H locs hP hD hS => ?_)
    have hP : va_P D vwCl [(a_t_forms, .inl (cyJ, 6, .inr (.inl f_t_forms_j33))), (a_t, .inr (8, [.ref a_t_forms, .ref a_t_roll, .int c_t_many, .long c_t_taps, .int c_t_cells, .int c_t_acts_j33, .int c_t_refused, .int c_t_knocks, .int c_t_thrown_33]))] H := hP
    have hD : va_D A [(a_t_forms, .inl (cyJ, 6, .inr (.inl f_t_forms_j33))), (a_t, .inr (8, [.ref a_t_forms, .ref a_t_roll, .int c_t_many, .long c_t_taps, .int c_t_cells, .int c_t_acts_j33, .int c_t_refused, .int c_t_knocks, .int c_t_thrown_33]))] := hD
    refine lv_if_eq (tgt := 41) hx hb dX9_run_36 (by decide) (fun c36 => ?_) (fun c36 => ?_)
    · have h := it_ c36 h
      refine lv_iload_n hx hb dX9_run_41 rfl (lv_at hl 2 rfl) ?_
      refine lv_istore (lv' := [(4, .int p1), (0, .ref a_t), (1, .int p0), (2, .int p1), (3, .int p2)]) hx hb dX9_run_42 hl (by decide) rfl (fun ls hl => ?_)
      refine LQ2_k1 (M := fun (y4_44 : Int32) (f_t_forms_44 : Nat → Int64) => ∀ (H : Heap) (locs : List Loc), va_P D vwCl [(a_t_forms, .inl (cyJ, 6, .inr (.inl f_t_forms_44))), (a_t, .inr (8, [.ref a_t_forms, .ref a_t_roll, .int c_t_many, .long c_t_taps, .int c_t_cells, .int c_t_acts_j33, .int c_t_refused, .int c_t_knocks, .int c_t_thrown_33]))] H → va_D A [(a_t_forms, .inl (cyJ, 6, .inr (.inl f_t_forms_44))), (a_t, .inr (8, [.ref a_t_forms, .ref a_t_roll, .int c_t_many, .long c_t_taps, .int c_t_cells, .int c_t_acts_j33, .int c_t_refused, .int c_t_knocks, .int c_t_thrown_33]))] → va_S A s.heap H locs → ∀ (ls : Array Slot), lv_has ls 5 [(0, .ref a_t), (1, .int p0), (3, .int p2), (4, .int y4_44)] → W p l e rmX9_run s m ([.ref a_t, .int p0, .int p1, .int p2] : List Value).toArray below meth c H locs 0 0 (MQ below (va_Qi (fun (r : Int32) (_ : Unit) => r = r0) (fun _ t => wQA D [(a_t, .inr (8, [.ref a_t_forms, .ref a_t_roll, .int c_t_many, .long c_t_taps, .int c_t_cells, .int o_c_t_acts, .int c_t_refused, .int c_t_knocks, .int o_c_t_thrown])), (a_t_forms, .inl (cyJ, 6, .inr (.inl o_f_t_forms)))] A t) A) ([.ref a_t, .int p0, .int p1, .int p2] : List Value).toArray s 0 0 A) (F0 m 44 ls [])) ?_ _ _ _ h _ _ hP hD hS ls (lv_sub hl [1, 2, 4, 0] rfl)
      intro k69 hk69 ih44 hih44 y4_44 f_t_forms_44 h H locs hP hD hS ls hl
      unfold S_X9_run_44 at h
      refine lv_iload hx hb dX9_run_44 (lv_at hl 3 rfl) ?_
      refine lv_iload_n hx hb dX9_run_46 rfl (lv_at hl 2 rfl) ?_
      refine lv_icmp_ge (tgt := 69) hx hb dX9_run_47 (by decide) (fun c47 => ?_) (fun c47 => ?_)
      · have h := it_ c47 h
        rw [hk69] at h
        refine lv_aload_n hx hb dX9_run_69 rfl (lv_at hl 0 rfl) ?_
        refine lv_aload_n hx hb dX9_run_70 rfl (lv_at hl 0 rfl) ?_
        refine va_get (D := D) (ci := 8) (v := .ref a_t_forms) (C := RX9) (T := TX9) (N := 9) hx hb hts hinX9 hown hK hP 1 rfl rfl 0 (by decide) hfl9 (fun _ h9 => h9) rfl dX9_run_71 ?_
        refine lv_iload_n hx hb dX9_run_74 rfl (lv_at hl 1 rfl) ?_
        obtain ⟨hq75, h⟩ := chk_h h
        refine va_lald hx hb hK hP 0 0 rfl rfl hq75 dX9_run_75 ?_
        obtain ⟨r76, hc76, h⟩ := obn_h h
        refine pz_callS (As := [.long (f_t_forms_44 p0.toNatClampNeg)]) (rest := [.ref a_t]) hcf (c_X9_onesOf l (f_t_forms_44 p0.toNatClampNeg) r76 hc76) (va_cwS 1 hts gX9_run_X9_onesOf rfl rfl rfl ydX9_onesOf ⟨Nat.le_of_ble_eq_true rfl, Nat.le_of_ble_eq_true rfl⟩) hnw rfl hl.1 rfl (Nat.le_of_ble_eq_true rfl) dX9_run_76 ⟨Nat.le_of_ble_eq_true rfl, Nat.le_of_ble_eq_true rfl⟩ ?_
        obtain ⟨r79, c_t_acts_79, hc79, h⟩ := obn2_h h
        have hPc := hP.sub (ws' := [(a_t, .inr (8, [.ref a_t_forms, .ref a_t_roll, .int c_t_many, .long c_t_taps, .int c_t_cells, .int c_t_acts_j33, .int c_t_refused, .int c_t_knocks, .int c_t_thrown_33]))]) [1] rfl
        have hDc := hD.sub (ws' := [(a_t, .inr (8, [.ref a_t_forms, .ref a_t_roll, .int c_t_many, .long c_t_taps, .int c_t_cells, .int c_t_acts_j33, .int c_t_refused, .int c_t_knocks, .int c_t_thrown_33]))]) [1] (by decide) rfl
        refine hp_i (w1 := [(a_t, .inr (8, [.ref a_t_forms, .ref a_t_roll, .int c_t_many, .long c_t_taps, .int c_t_cells, .int c_t_acts_79, .int c_t_refused, .int c_t_knocks, .int c_t_thrown_33]))]) (wr := [(a_t_forms, .inl (cyJ, 6, .inr (.inl f_t_forms_44)))]) (va_runV (As := [.int r76]) (rest := []) hcf (c_X9_done l D cyJ H.size a_t a_t_forms a_t_roll c_t_many c_t_taps c_t_cells c_t_acts_j33 c_t_refused c_t_knocks c_t_thrown_33 r76 r79 c_t_acts_79 hc79) (cwV 1 hts gX9_run_X9_done rfl rfl rfl ydX9_done ⟨Nat.le_of_ble_eq_true rfl, Nat.le_of_ble_eq_true rfl⟩) ⟨bl_PD, va_recv hK hP (ci := 8) (q0 := 1) rfl rfl, pr_PD hPc hK0 hDc hnw⟩ rfl rfl hl.1 rfl (lv_room (Nat.le_of_ble_eq_true rfl)) dX9_run_79 ⟨Nat.le_of_ble_eq_true rfl, Nat.le_of_ble_eq_true rfl⟩) hP hD hS hA [1] [0] rfl rfl (by decide) (by decide) (fun H locs hP hD hS => ?_)
        have hP : va_P D vwCl [(a_t_forms, .inl (cyJ, 6, .inr (.inl f_t_forms_44))), (a_t, .inr (8, [.ref a_t_forms, .ref a_t_roll, .int c_t_many, .long c_t_taps, .int c_t_cells, .int c_t_acts_79, .int c_t_refused, .int c_t_knocks, .int c_t_thrown_33]))] H := hP
        have hD : va_D A [(a_t_forms, .inl (cyJ, 6, .inr (.inl f_t_forms_44))), (a_t, .inr (8, [.ref a_t_forms, .ref a_t_roll, .int c_t_many, .long c_t_taps, .int c_t_cells, .int c_t_acts_79, .int c_t_refused, .int c_t_knocks, .int c_t_thrown_33]))] := hD
        obtain ⟨e0, e1, e2, e3⟩ := tup4 h
        subst e0
        subst e1
        subst e2
        subst e3
        have hP9 : va_P D vwCl [(a_t, .inr (8, [.ref a_t_forms, .ref a_t_roll, .int c_t_many, .long c_t_taps, .int c_t_cells, .int c_t_acts_79, .int c_t_refused, .int c_t_knocks, .int c_t_thrown_33])), (a_t_forms, .inl (cyJ, 6, .inr (.inl f_t_forms_44)))] H := hP.sub [1, 0] rfl
        have hD9 : va_D A [(a_t, .inr (8, [.ref a_t_forms, .ref a_t_roll, .int c_t_many, .long c_t_taps, .int c_t_cells, .int c_t_acts_79, .int c_t_refused, .int c_t_knocks, .int c_t_thrown_33])), (a_t_forms, .inl (cyJ, 6, .inr (.inl f_t_forms_44)))] := hD.sub [1, 0] (by decide) rfl
        exact W.iret hx hb hr (fun t ht hW => ⟨⟨_, (), rfl, rfl, wQA_of ht hP9 hD9⟩, hS.F ht⟩) hS.2.2 dX9_run_82
      · have h := if_ c47 h
        refine lv_aload_n hx hb dX9_run_50 rfl (lv_at hl 0 rfl) ?_
        refine va_get (D := D) (ci := 8) (v := .ref a_t_forms) (C := RX9) (T := TX9) (N := 9) hx hb hts hinX9 hown hK hP 1 rfl rfl 0 (by decide) hfl9 (fun _ h9 => h9) rfl dX9_run_51 ?_
        refine lv_iload_n hx hb dX9_run_54 rfl (lv_at hl 1 rfl) ?_
        refine lv_dup2_11 hx hb dX9_run_55 rfl rfl ?_
        obtain ⟨hq56, h⟩ := chk_h h
        refine va_lald hx hb hK hP 0 0 rfl rfl hq56 dX9_run_56 ?_
        refine lv_lconst (v := 1) hx hb dX9_run_57 (by decide) ?_
        refine lv_iload hx hb dX9_run_58 (lv_at hl 3 rfl) ?_
        refine lv_lshl (v := (1 : Int64) <<< (y4_44.toInt64 &&& 63)) hx hb dX9_run_60 rfl ?_
        refine lv_lxor hx hb dX9_run_61 ?_
        obtain ⟨hq62, h⟩ := chk_h h
        refine va_last hx hb hK hP hD hS 0 0 rfl rfl hq62 dX9_run_62 (fun H locs hP hD hS => ?_)
        obtain ⟨f_t_forms_62, e_f_t_forms_62⟩ : ∃ z, z = vp_updL f_t_forms_44 p0.toNatClampNeg ((f_t_forms_44 p0.toNatClampNeg) ^^^ ((1 : Int64) <<< (y4_44.toInt64 &&& 63))) := ⟨_, rfl⟩
        have h := bnd_h e_f_t_forms_62 h
        have hP : va_P D vwCl [(a_t_forms, .inl (cyJ, 6, .inr (.inl f_t_forms_62))), (a_t, .inr (8, [.ref a_t_forms, .ref a_t_roll, .int c_t_many, .long c_t_taps, .int c_t_cells, .int c_t_acts_j33, .int c_t_refused, .int c_t_knocks, .int c_t_thrown_33]))] H := by rw [e_f_t_forms_62]; exact hP
        have hD : va_D A [(a_t_forms, .inl (cyJ, 6, .inr (.inl f_t_forms_62))), (a_t, .inr (8, [.ref a_t_forms, .ref a_t_roll, .int c_t_many, .long c_t_taps, .int c_t_cells, .int c_t_acts_j33, .int c_t_refused, .int c_t_knocks, .int c_t_thrown_33]))] := by rw [e_f_t_forms_62]; exact hD
        obtain ⟨x4_63, e_x4_63⟩ : ∃ z : Int32, z = y4_44 + 1 := ⟨_, rfl⟩
        have h := bnd_h e_x4_63 h
        refine lv_iinc (v := x4_63) (lv' := [(4, .int x4_63), (0, .ref a_t), (1, .int p0), (3, .int p2)]) hx hb dX9_run_63 hl (k := 3) rfl (by rw [e_x4_63]; rfl) (by decide) rfl (fun ls hl => ?_)
        refine lv_goto (tgt := 44) hx hb dX9_run_66 (by decide) ?_
        exact hih44 x4_63 f_t_forms_62 h _ _ (hP.sub [0, 1] rfl) (hD.sub [0, 1] (by decide) rfl) hS ls (lv_sub hl [1, 2, 3, 0] rfl)
    · have h := if_ c36 h
      refine lv_iconst (v := 0) hx hb dX9_run_39 (by decide) ?_
      obtain ⟨e0, e1, e2, e3⟩ := tup4 h
      subst e0
      subst e1
      subst e2
      subst e3
      have hP9 : va_P D vwCl [(a_t, .inr (8, [.ref a_t_forms, .ref a_t_roll, .int c_t_many, .long c_t_taps, .int c_t_cells, .int c_t_acts_j33, .int c_t_refused, .int c_t_knocks, .int c_t_thrown_33])), (a_t_forms, .inl (cyJ, 6, .inr (.inl f_t_forms_j33)))] H := hP.sub [1, 0] rfl
      have hD9 : va_D A [(a_t, .inr (8, [.ref a_t_forms, .ref a_t_roll, .int c_t_many, .long c_t_taps, .int c_t_cells, .int c_t_acts_j33, .int c_t_refused, .int c_t_knocks, .int c_t_thrown_33])), (a_t_forms, .inl (cyJ, 6, .inr (.inl f_t_forms_j33)))] := hD.sub [1, 0] (by decide) rfl
      exact W.iret hx hb hr (fun t ht hW => ⟨⟨_, (), rfl, rfl, wQA_of ht hP9 hD9⟩, hS.F ht⟩) hS.2.2 dX9_run_40
  have hj28 : ∀ (js1_28 : Int32) (c_t_acts_j28 : Int32) (c_t_thrown_j28 : Int32) (f_t_forms_j28 : Nat → Int64), J_X9_run_28 p0 p1 p2 js1_28 c_t_acts_j28 c_t_thrown_j28 f_t_forms_j28 = some (r0, o_c_t_acts, o_c_t_thrown, o_f_t_forms) → ∀ (H : Heap) (locs : List Loc), va_P D vwCl [(a_t, .inr (8, [.ref a_t_forms, .ref a_t_roll, .int c_t_many, .long c_t_taps, .int c_t_cells, .int c_t_acts_j28, .int c_t_refused, .int c_t_knocks, .int c_t_thrown_j28])), (a_t_forms, .inl (cyJ, 6, .inr (.inl f_t_forms_j28)))] H → va_D A [(a_t, .inr (8, [.ref a_t_forms, .ref a_t_roll, .int c_t_many, .long c_t_taps, .int c_t_cells, .int c_t_acts_j28, .int c_t_refused, .int c_t_knocks, .int c_t_thrown_j28])), (a_t_forms, .inl (cyJ, 6, .inr (.inl f_t_forms_j28)))] → va_S A s.heap H locs → ∀ (ls : Array Slot), lv_has ls 5 [(0, .ref a_t), (1, .int p0), (2, .int p1), (3, .int p2)] → W p l e rmX9_run s m ([.ref a_t, .int p0, .int p1, .int p2] : List Value).toArray below meth c H locs 0 0 (MQ below (va_Qi (fun (r : Int32) (_ : Unit) => r = r0) (fun _ t => wQA D [(a_t, .inr (8, [.ref a_t_forms, .ref a_t_roll, .int c_t_many, .long c_t_taps, .int c_t_cells, .int o_c_t_acts, .int c_t_refused, .int c_t_knocks, .int o_c_t_thrown])), (a_t_forms, .inl (cyJ, 6, .inr (.inl o_f_t_forms)))] A t) A) ([.ref a_t, .int p0, .int p1, .int p2] : List Value).toArray s 0 0 A) (F0 m 28 ls [.int js1_28, .ref a_t]) := by
    intro js1_28 c_t_acts_j28 c_t_thrown_j28 f_t_forms_j28 h H locs hP hD hS ls hl
    unfold J_X9_run_28 at h
    refine lv_iconst (v := 1) hx hb dX9_run_28 (by decide) ?_
    refine lv_goto (tgt := 33) hx hb dX9_run_29 (by decide) ?_
    exact hj33 js1_28 (1 : Int32) c_t_acts_j28 c_t_thrown_j28 f_t_forms_j28 h _ _ (hP.sub [0, 1] rfl) (hD.sub [0, 1] (by decide) rfl) hS ls (lv_sub hl [0, 1, 2, 3] rfl)
  have hj13 : ∀ (js1_13 : Int32) (c_t_acts_j13 : Int32) (c_t_thrown_j13 : Int32) (f_t_forms_j13 : Nat → Int64), J_X9_run_13 p0 p1 p2 js1_13 c_t_acts_j13 c_t_thrown_j13 f_t_forms_j13 = some (r0, o_c_t_acts, o_c_t_thrown, o_f_t_forms) → ∀ (H : Heap) (locs : List Loc), va_P D vwCl [(a_t, .inr (8, [.ref a_t_forms, .ref a_t_roll, .int c_t_many, .long c_t_taps, .int c_t_cells, .int c_t_acts_j13, .int c_t_refused, .int c_t_knocks, .int c_t_thrown_j13])), (a_t_forms, .inl (cyJ, 6, .inr (.inl f_t_forms_j13)))] H → va_D A [(a_t, .inr (8, [.ref a_t_forms, .ref a_t_roll, .int c_t_many, .long c_t_taps, .int c_t_cells, .int c_t_acts_j13, .int c_t_refused, .int c_t_knocks, .int c_t_thrown_j13])), (a_t_forms, .inl (cyJ, 6, .inr (.inl f_t_forms_j13)))] → va_S A s.heap H locs → ∀ (ls : Array Slot), lv_has ls 5 [(0, .ref a_t), (1, .int p0), (2, .int p1), (3, .int p2)] → W p l e rmX9_run s m ([.ref a_t, .int p0, .int p1, .int p2] : List Value).toArray below meth c H locs 0 0 (MQ below (va_Qi (fun (r : Int32) (_ : Unit) => r = r0) (fun _ t => wQA D [(a_t, .inr (8, [.ref a_t_forms, .ref a_t_roll, .int c_t_many, .long c_t_taps, .int c_t_cells, .int o_c_t_acts, .int c_t_refused, .int c_t_knocks, .int o_c_t_thrown])), (a_t_forms, .inl (cyJ, 6, .inr (.inl o_f_t_forms)))] A t) A) ([.ref a_t, .int p0, .int p1, .int p2] : List Value).toArray s 0 0 A) (F0 m 13 ls [.int js1_13, .ref a_t]) := by
    intro js1_13 c_t_acts_j13 c_t_thrown_j13 f_t_forms_j13 h H locs hP hD hS ls hl
    unfold J_X9_run_13 at h
    refine lv_iload_n hx hb dX9_run_13 rfl (lv_at hl 2 rfl) ?_
    refine lv_if_lt (tgt := 28) hx hb dX9_run_14 (by decide) (fun c14 => ?_) (fun c14 => ?_)
    · have h := it_ c14 h
      exact hj28 js1_13 c_t_acts_j13 c_t_thrown_j13 f_t_forms_j13 h _ _ (hP.sub [0, 1] rfl) (hD.sub [0, 1] (by decide) rfl) hS ls (lv_sub hl [0, 1, 2, 3] rfl)
    · have h := if_ c14 h
      refine lv_iload_n hx hb dX9_run_17 rfl (lv_at hl 2 rfl) ?_
      refine lv_iload_n hx hb dX9_run_18 rfl (lv_at hl 3 rfl) ?_
      refine lv_icmp_gt (tgt := 28) hx hb dX9_run_19 (by decide) (fun c19 => ?_) (fun c19 => ?_)
      · have h := it_ c19 h
        exact hj28 js1_13 c_t_acts_j13 c_t_thrown_j13 f_t_forms_j13 h _ _ (hP.sub [0, 1] rfl) (hD.sub [0, 1] (by decide) rfl) hS ls (lv_sub hl [0, 1, 2, 3] rfl)
      · have h := if_ c19 h
        refine lv_iload_n hx hb dX9_run_22 rfl (lv_at hl 3 rfl) ?_
        refine lv_bipush (v := 40) hx hb dX9_run_23 (by decide) ?_
        refine lv_icmp_le (tgt := 32) hx hb dX9_run_25 (by decide) (fun c25 => ?_) (fun c25 => ?_)
        · have h := it_ c25 h
          refine lv_iconst (v := 0) hx hb dX9_run_32 (by decide) ?_
          exact hj33 js1_13 (0 : Int32) c_t_acts_j13 c_t_thrown_j13 f_t_forms_j13 h _ _ (hP.sub [0, 1] rfl) (hD.sub [0, 1] (by decide) rfl) hS ls (lv_sub hl [0, 1, 2, 3] rfl)
        · have h := if_ c25 h
          exact hj28 js1_13 c_t_acts_j13 c_t_thrown_j13 f_t_forms_j13 h _ _ (hP.sub [0, 1] rfl) (hD.sub [0, 1] (by decide) rfl) hS ls (lv_sub hl [0, 1, 2, 3] rfl)
  refine lv_aload_n hx hb dX9_run_0 rfl (lv_at hl 0 rfl) ?_
  refine lv_iload_n hx hb dX9_run_1 rfl (lv_at hl 1 rfl) ?_
  obtain ⟨r2, hc2, h⟩ := obn_h h
  refine pz_callS (As := [.int p0]) (rest := [.ref a_t]) hcf (c_X9_isForm l p0 r2 hc2) (va_cwS 1 hts gX9_run_X9_isForm rfl rfl rfl ydX9_isForm ⟨Nat.le_of_ble_eq_true rfl, Nat.le_of_ble_eq_true rfl⟩) hnw rfl hl.1 rfl (Nat.le_of_ble_eq_true rfl) dX9_run_2 ⟨Nat.le_of_ble_eq_true rfl, Nat.le_of_ble_eq_true rfl⟩ ?_
  refine lv_if_ne (tgt := 12) hx hb dX9_run_5 (by decide) (fun c5 => ?_) (fun c5 => ?_)
  · have h := if_ c5 h
    refine lv_iconst (v := 0) hx hb dX9_run_12 (by decide) ?_
    exact hj13 (0 : Int32) c_t_acts c_t_thrown f_t_forms h _ _ (hP.sub [0, 1] rfl) (hD.sub [0, 1] (by decide) rfl) hS ls (lv_sub hl [0, 1, 2, 3] rfl)
  · have h := it_ c5 h
    refine lv_iconst (v := 1) hx hb dX9_run_8 (by decide) ?_
    refine lv_goto (tgt := 13) hx hb dX9_run_9 (by decide) ?_
    exact hj13 (1 : Int32) c_t_acts c_t_thrown f_t_forms h _ _ (hP.sub [0, 1] rfl) (hD.sub [0, 1] (by decide) rfl) hS ls (lv_sub hl [0, 1, 2, 3] rfl)

noncomputable abbrev rmX9_copy : Room := { frames := 4, cells := 0, slots := 0, locals := 87 }
theorem ydX9_copy : yX9_copy.cls = RX9 ∧ yX9_copy.cls ≠ "java/lang/invoke/MethodHandle" ∧ yX9_copy.cls ≠ "java/lang/invoke/VarHandle" ∧ (parseMethodDescriptor yX9_copy.desc).map (fun d => d.parameters.length) = some 2 := by decide +kernel
noncomputable def F_X9_copy (c_t_acts : Int32) (f_t_forms : Nat → Int64) (p0 : Int32) (p1 : Int32) : Option (Int32 × Int32 × Int32 × (Nat → Int64)) :=
 obn (F_X9_isForm p0) (fun r2 =>
 (if r2 = 0 then
 obn2 (F_X9_isThrown_ (1 : Int32)) (fun r20 c_t_thrown_20 =>
 (if r20 = 0 then
 chk (¬ (p0 < 0 ∨ 6 ≤ p0.toNatClampNeg)) (
 obn3 (F_X9_give c_t_acts f_t_forms p1 (f_t_forms p0.toNatClampNeg)) (fun r38 c_t_acts_38 f_t_forms_38 =>
 some (r38, c_t_acts_38, c_t_thrown_20, f_t_forms_38)))
else
 some ((0 : Int32), c_t_acts, c_t_thrown_20, f_t_forms)))
else
 obn (F_X9_isForm p1) (fun r9 =>
 (if r9 = 0 then
 obn2 (F_X9_isThrown_ (1 : Int32)) (fun r20 c_t_thrown_20 =>
 (if r20 = 0 then
 chk (¬ (p0 < 0 ∨ 6 ≤ p0.toNatClampNeg)) (
 obn3 (F_X9_give c_t_acts f_t_forms p1 (f_t_forms p0.toNatClampNeg)) (fun r38 c_t_acts_38 f_t_forms_38 =>
 some (r38, c_t_acts_38, c_t_thrown_20, f_t_forms_38)))
else
 some ((0 : Int32), c_t_acts, c_t_thrown_20, f_t_forms)))
else
 obn2 (F_X9_isThrown_ (0 : Int32)) (fun r20 c_t_thrown_20 =>
 (if r20 = 0 then
 chk (¬ (p0 < 0 ∨ 6 ≤ p0.toNatClampNeg)) (
 obn3 (F_X9_give c_t_acts f_t_forms p1 (f_t_forms p0.toNatClampNeg)) (fun r38 c_t_acts_38 f_t_forms_38 =>
 some (r38, c_t_acts_38, c_t_thrown_20, f_t_forms_38)))
else
 some ((0 : Int32), c_t_acts, c_t_thrown_20, f_t_forms)))))))
set_option maxHeartbeats 4000000 in
set_option maxRecDepth 100000 in
theorem c_X9_copy (l : Launch) (D : va_G) (cyJ : ClassId) (sz : Nat) (a_t : Nat) (a_t_forms : Nat) (a_t_roll : Nat) (c_t_many : Int32) (c_t_taps : Int64) (c_t_cells : Int32) (c_t_acts : Int32) (c_t_refused : Int32) (c_t_knocks : Int32) (c_t_thrown : Int32) (f_t_forms : Nat → Int64) (p0 : Int32) (p1 : Int32) (r0 : Int32) (o_c_t_acts : Int32) (o_c_t_thrown : Int32) (o_f_t_forms : Nat → Int64) (hF : F_X9_copy c_t_acts f_t_forms p0 p1 = some (r0, o_c_t_acts, o_c_t_thrown, o_f_t_forms)) : Met l yX9_copy wsX9_copy rmX9_copy (va_Pc [.ref a_t, .int p0, .int p1] (wPD D [(cyJ, .long)] [(a_t, .inr (8, [.ref a_t_forms, .ref a_t_roll, .int c_t_many, .long c_t_taps, .int c_t_cells, .int c_t_acts, .int c_t_refused, .int c_t_knocks, .int c_t_thrown])), (a_t_forms, .inl (cyJ, 6, .inr (.inl f_t_forms)))] sz)) (va_Qi (fun (r : Int32) (_ : Unit) => r = r0) (fun _ t => wQA D [(a_t, .inr (8, [.ref a_t_forms, .ref a_t_roll, .int c_t_many, .long c_t_taps, .int c_t_cells, .int o_c_t_acts, .int c_t_refused, .int c_t_knocks, .int o_c_t_thrown])), (a_t_forms, .inl (cyJ, 6, .inr (.inl o_f_t_forms)))] (va_A [(a_t, .inr (8, [.ref a_t_forms, .ref a_t_roll, .int c_t_many, .long c_t_taps, .int c_t_cells, .int c_t_acts, .int c_t_refused, .int c_t_knocks, .int c_t_thrown])), (a_t_forms, .inl (cyJ, 6, .inr (.inl f_t_forms)))] sz) t) (va_A [(a_t, .inr (8, [.ref a_t_forms, .ref a_t_roll, .int c_t_many, .long c_t_taps, .int c_t_cells, .int c_t_acts, .int c_t_refused, .int c_t_knocks, .int c_t_thrown])), (a_t_forms, .inl (cyJ, 6, .inr (.inl f_t_forms)))] sz)) 0 0 (va_A [(a_t, .inr (8, [.ref a_t_forms, .ref a_t_roll, .int c_t_many, .long c_t_taps, .int c_t_cells, .int c_t_acts, .int c_t_refused, .int c_t_knocks, .int c_t_thrown])), (a_t_forms, .inl (cyJ, 6, .inr (.inl f_t_forms)))] sz) := by
  refine Met.ofW (cc := cX9_copy) (maxL := 3) (ret := (some .int)) (by decide) rfl ?_
  intro p e s m args below meth c s₁ B hml hv
  obtain ⟨rfl, hsz, hP, hK, hD0, hnw⟩ := hv
  have hx := B.exec
  have hb := B.bytes
  have hr := B.returns
  have hts := atoms_spec (ws := wsX9_copy) B.pre
  have hown : s.vm.findClass RX9 = some m.cls := findClass_of_methodNamed B.named
  have hlocks := B.notSynchronized
  have hcf : CallFix _ _ _ _ _ _ _ _ _ := ⟨hx, hb, hml, hown, hts⟩
  have hinX9 : ∀ w ∈ u_ws RX9 TX9 9, w ∈ wsX9_copy := by decide +kernel
  have hfl9 := hts (.fieldLink RX9 9 "FormwheelModel" "forms" "[J") (by decide +kernel)
  subst hsz
  have hD := hD0.self (sz := s.heap.size)
  generalize hAe : va_A [(a_t, .inr (8, [.ref a_t_forms, .ref a_t_roll, .int c_t_many, .long c_t_taps, .int c_t_cells, .int c_t_acts, .int c_t_refused, .int c_t_knocks, .int c_t_thrown])), (a_t_forms, .inl (cyJ, 6, .inr (.inl f_t_forms)))] s.heap.size = A at hD ⊢
  have hA : ∀ q : Nat, s.heap.size ≤ q → A q := fun q h => by rw [← hAe]; exact Or.inr h
  have hS : va_S A s.heap s.heap [] := va_S.rf
  have hP : va_P D vwCl [(a_t, .inr (8, [.ref a_t_forms, .ref a_t_roll, .int c_t_many, .long c_t_taps, .int c_t_cells, .int c_t_acts, .int c_t_refused, .int c_t_knocks, .int c_t_thrown])), (a_t_forms, .inl (cyJ, 6, .inr (.inl f_t_forms)))] s.heap := hP
  have hK0 := hK
  have hl := lv_entry ([.ref a_t, .int p0, .int p1]) (n := 3) (Nat.le_of_ble_eq_true rfl)
  rw [lg_entry_eq]
  generalize (lg_sl ([.ref a_t, .int p0, .int p1]) ++ List.replicate (3 - (lg_sl ([.ref a_t, .int p0, .int p1])).length) Slot.unset).toArray = ls at hl ⊢
  have hl : lv_has ls 3 [(0, .ref a_t), (1, .int p0), (2, .int p1)] := hl
  have h := hF
  clear hF
  unfold F_X9_copy at h
  refine lv_aload_n hx hb dX9_copy_0 rfl (lv_at hl 0 rfl) ?_
  refine lv_iload_n hx hb dX9_copy_1 rfl (lv_at hl 1 rfl) ?_
  obtain ⟨r2, hc2, h⟩ := obn_h h
  refine pz_callS (As := [.int p0]) (rest := [.ref a_t]) hcf (c_X9_isForm l p0 r2 hc2) (va_cwS 1 hts gX9_copy_X9_isForm rfl rfl rfl ydX9_isForm ⟨Nat.le_of_ble_eq_true rfl, Nat.le_of_ble_eq_true rfl⟩) hnw rfl hl.1 rfl (Nat.le_of_ble_eq_true rfl) dX9_copy_2 ⟨Nat.le_of_ble_eq_true rfl, Nat.le_of_ble_eq_true rfl⟩ ?_
  refine lv_if_eq (tgt := 15) hx hb dX9_copy_5 (by decide) (fun c5 => ?_) (fun c5 => ?_)
  · have h := it_ c5 h
    refine lv_iconst (v := 1) hx hb dX9_copy_15 (by decide) ?_
    refine lv_goto (tgt := 20) hx hb dX9_copy_16 (by decide) ?_
    obtain ⟨r20, c_t_thrown_20, hc20, h⟩ := obn2_h h
    have hPc := hP.sub (ws' := [(a_t, .inr (8, [.ref a_t_forms, .ref a_t_roll, .int c_t_many, .long c_t_taps, .int c_t_cells, .int c_t_acts, .int c_t_refused, .int c_t_knocks, .int c_t_thrown]))]) [0] rfl
    have hDc := hD.sub (ws' := [(a_t, .inr (8, [.ref a_t_forms, .ref a_t_roll, .int c_t_many, .long c_t_taps, .int c_t_cells, .int c_t_acts, .int c_t_refused, .int c_t_knocks, .int c_t_thrown]))]) [0] (by decide) rfl
    refine hp_i (w1 := [(a_t, .inr (8, [.ref a_t_forms, .ref a_t_roll, .int c_t_many, .long c_t_taps, .int c_t_cells, .int c_t_acts, .int c_t_refused, .int c_t_knocks, .int c_t_thrown_20]))]) (wr := [(a_t_forms, .inl (cyJ, 6, .inr (.inl f_t_forms)))]) (va_runV (As := [.int (1 : Int32)]) (rest := []) hcf (c_X9_isThrown_ l D cyJ s.heap.size a_t a_t_forms a_t_roll c_t_many c_t_taps c_t_cells c_t_acts c_t_refused c_t_knocks c_t_thrown (1 : Int32) r20 c_t_thrown_20 hc20) (cwV 1 hts gX9_copy_X9_isThrown_ rfl rfl rfl ydX9_isThrown_ ⟨Nat.le_of_ble_eq_true rfl, Nat.le_of_ble_eq_true rfl⟩) ⟨bl_PD, va_recv hK hP (ci := 8) (q0 := 0) rfl rfl, pr_PD hPc hK0 hDc hnw⟩ rfl rfl hl.1 rfl (lv_room (Nat.le_of_ble_eq_true rfl)) dX9_copy_20 ⟨Nat.le_of_ble_eq_true rfl, Nat.le_of_ble_eq_true rfl⟩) hP hD hS hA [0] [1] rfl rfl (by decide) (by decide) (fun H locs hP hD hS => ?_)
    have hP : va_P D vwCl [(a_t_forms, .inl (cyJ, 6, .inr (.inl f_t_forms))), (a_t, .inr (8, [.ref a_t_forms, .ref a_t_roll, .int c_t_many, .long c_t_taps, .int c_t_cells, .int c_t_acts, .int c_t_refused, .int c_t_knocks, .int c_t_thrown_20]))] H := hP
    have hD : va_D A [(a_t_forms, .inl (cyJ, 6, .inr (.inl f_t_forms))), (a_t, .inr (8, [.ref a_t_forms, .ref a_t_roll, .int c_t_many, .long c_t_taps, .int c_t_cells, .int c_t_acts, .int c_t_refused, .int c_t_knocks, .int c_t_thrown_20]))] := hD
    refine lv_if_eq (tgt := 30) hx hb dX9_copy_23 (by decide) (fun c23 => ?_) (fun c23 => ?_)
    · have h := it_ c23 h
      refine lv_aload_n hx hb dX9_copy_30 rfl (lv_at hl 0 rfl) ?_
      refine lv_iload_n hx hb dX9_copy_31 rfl (lv_at hl 2 rfl) ?_
      refine lv_aload_n hx hb dX9_copy_32 rfl (lv_at hl 0 rfl) ?_
      refine va_get (D := D) (ci := 8) (v := .ref a_t_forms) (C := RX9) (T := TX9) (N := 9) hx hb hts hinX9 hown hK hP 1 rfl rfl 0 (by decide) hfl9 (fun _ h9 => h9) rfl dX9_copy_33 ?_
      refine lv_iload_n hx hb dX9_copy_36 rfl (lv_at hl 1 rfl) ?_
      obtain ⟨hq37, h⟩ := chk_h h
      refine va_lald hx hb hK hP 0 0 rfl rfl hq37 dX9_copy_37 ?_
      obtain ⟨r38, c_t_acts_38, f_t_forms_38, hc38, h⟩ := obn3_h h
      have hPc := hP.sub (ws' := [(a_t, .inr (8, [.ref a_t_forms, .ref a_t_roll, .int c_t_many, .long c_t_taps, .int c_t_cells, .int c_t_acts, .int c_t_refused, .int c_t_knocks, .int c_t_thrown_20])), (a_t_forms, .inl (cyJ, 6, .inr (.inl f_t_forms)))]) [1, 0] rfl
      have hDc := hD.sub (ws' := [(a_t, .inr (8, [.ref a_t_forms, .ref a_t_roll, .int c_t_many, .long c_t_taps, .int c_t_cells, .int c_t_acts, .int c_t_refused, .int c_t_knocks, .int c_t_thrown_20])), (a_t_forms, .inl (cyJ, 6, .inr (.inl f_t_forms)))]) [1, 0] (by decide) rfl
      refine hp_i (w1 := [(a_t, .inr (8, [.ref a_t_forms, .ref a_t_roll, .int c_t_many, .long c_t_taps, .int c_t_cells, .int c_t_acts_38, .int c_t_refused, .int c_t_knocks, .int c_t_thrown_20])), (a_t_forms, .inl (cyJ, 6, .inr (.inl f_t_forms_38)))]) (wr := []) (va_runV (As := [.int p1, .long (f_t_forms p0.toNatClampNeg)]) (rest := []) hcf (c_X9_give l D cyJ H.size a_t a_t_forms a_t_roll c_t_many c_t_taps c_t_cells c_t_acts c_t_refused c_t_knocks c_t_thrown_20 f_t_forms p1 (f_t_forms p0.toNatClampNeg) r38 c_t_acts_38 f_t_forms_38 hc38) (cwV 2 hts gX9_copy_X9_give rfl rfl rfl ydX9_give ⟨Nat.le_of_ble_eq_true rfl, Nat.le_of_ble_eq_true rfl⟩) ⟨bl_PD, va_recv hK hP (ci := 8) (q0 := 1) rfl rfl, pr_PD hPc hK0 hDc hnw⟩ rfl rfl hl.1 rfl (lv_room (Nat.le_of_ble_eq_true rfl)) dX9_copy_38 ⟨Nat.le_of_ble_eq_true rfl, Nat.le_of_ble_eq_true rfl⟩) hP hD hS hA [1, 0] [] rfl rfl (by decide) (by decide) (fun H locs hP hD hS => ?_)
      have hP : va_P D vwCl [(a_t, .inr (8, [.ref a_t_forms, .ref a_t_roll, .int c_t_many, .long c_t_taps, .int c_t_cells, .int c_t_acts_38, .int c_t_refused, .int c_t_knocks, .int c_t_thrown_20])), (a_t_forms, .inl (cyJ, 6, .inr (.inl f_t_forms_38)))] H := hP
      have hD : va_D A [(a_t, .inr (8, [.ref a_t_forms, .ref a_t_roll, .int c_t_many, .long c_t_taps, .int c_t_cells, .int c_t_acts_38, .int c_t_refused, .int c_t_knocks, .int c_t_thrown_20])), (a_t_forms, .inl (cyJ, 6, .inr (.inl f_t_forms_38)))] := hD
      obtain ⟨e0, e1, e2, e3⟩ := tup4 h
      subst e0
      subst e1
      subst e2
      subst e3
      have hP9 : va_P D vwCl [(a_t, .inr (8, [.ref a_t_forms, .ref a_t_roll, .int c_t_many, .long c_t_taps, .int c_t_cells, .int c_t_acts_38, .int c_t_refused, .int c_t_knocks, .int c_t_thrown_20])), (a_t_forms, .inl (cyJ, 6, .inr (.inl f_t_forms_38)))] H := hP.sub [0, 1] rfl
      have hD9 : va_D A [(a_t, .inr (8, [.ref a_t_forms, .ref a_t_roll, .int c_t_many, .long c_t_taps, .int c_t_cells, .int c_t_acts_38, .int c_t_refused, .int c_t_knocks, .int c_t_thrown_20])), (a_t_forms, .inl (cyJ, 6, .inr (.inl f_t_forms_38)))] := hD.sub [0, 1] (by decide) rfl
      exact W.iret hx hb hr (fun t ht hW => ⟨⟨_, (), rfl, rfl, wQA_of ht hP9 hD9⟩, hS.F ht⟩) hS.2.2 dX9_copy_41
    · have h := if_ c23 h
      refine lv_iconst (v := 0) hx hb dX9_copy_26 (by decide) ?_
      refine lv_goto (tgt := 41) hx hb dX9_copy_27 (by decide) ?_
      obtain ⟨e0, e1, e2, e3⟩ := tup4 h
      subst e0
      subst e1
      subst e2
      subst e3
      have hP9 : va_P D vwCl [(a_t, .inr (8, [.ref a_t_forms, .ref a_t_roll, .int c_t_many, .long c_t_taps, .int c_t_cells, .int c_t_acts, .int c_t_refused, .int c_t_knocks, .int c_t_thrown_20])), (a_t_forms, .inl (cyJ, 6, .inr (.inl f_t_forms)))] H := hP.sub [1, 0] rfl
      have hD9 : va_D A [(a_t, .inr (8, [.ref a_t_forms, .ref a_t_roll, .int c_t_many, .long c_t_taps, .int c_t_cells, .int c_t_acts, .int c_t_refused, .int c_t_knocks, .int c_t_thrown_20])), (a_t_forms, .inl (cyJ, 6, .inr (.inl f_t_forms)))] := hD.sub [1, 0] (by decide) rfl
      exact W.iret hx hb hr (fun t ht hW => ⟨⟨_, (), rfl, rfl, wQA_of ht hP9 hD9⟩, hS.F ht⟩) hS.2.2 dX9_copy_41
  · have h := if_ c5 h
    refine lv_iload_n hx hb dX9_copy_8 rfl (lv_at hl 2 rfl) ?_
    obtain ⟨r9, hc9, h⟩ := obn_h h
    refine pz_callS (As := [.int p1]) (rest := [.ref a_t]) hcf (c_X9_isForm l p1 r9 hc9) (va_cwS 1 hts gX9_copy_X9_isForm rfl rfl rfl ydX9_isForm ⟨Nat.le_of_ble_eq_true rfl, Nat.le_of_ble_eq_true rfl⟩) hnw rfl hl.1 rfl (Nat.le_of_ble_eq_true rfl) dX9_copy_9 ⟨Nat.le_of_ble_eq_true rfl, Nat.le_of_ble_eq_true rfl⟩ ?_
    refine lv_if_ne (tgt := 19) hx hb dX9_copy_12 (by decide) (fun c12 => ?_) (fun c12 => ?_)
    · have h := if_ c12 h
      refine lv_iconst (v := 0) hx hb dX9_copy_19 (by decide) ?_
      obtain ⟨r20, c_t_thrown_20, hc20, h⟩ := obn2_h h
      have hPc := hP.sub (ws' := [(a_t, .inr (8, [.ref a_t_forms, .ref a_t_roll, .int c_t_many, .long c_t_taps, .int c_t_cells, .int c_t_acts, .int c_t_refused, .int c_t_knocks, .int c_t_thrown]))]) [0] rfl
      have hDc := hD.sub (ws' := [(a_t, .inr (8, [.ref a_t_forms, .ref a_t_roll, .int c_t_many, .long c_t_taps, .int c_t_cells, .int c_t_acts, .int c_t_refused, .int c_t_knocks, .int c_t_thrown]))]) [0] (by decide) rfl
      refine hp_i (w1 := [(a_t, .inr (8, [.ref a_t_forms, .ref a_t_roll, .int c_t_many, .long c_t_taps, .int c_t_cells, .int c_t_acts, .int c_t_refused, .int c_t_knocks, .int c_t_thrown_20]))]) (wr := [(a_t_forms, .inl (cyJ, 6, .inr (.inl f_t_forms)))]) (va_runV (As := [.int (0 : Int32)]) (rest := []) hcf (c_X9_isThrown_ l D cyJ s.heap.size a_t a_t_forms a_t_roll c_t_many c_t_taps c_t_cells c_t_acts c_t_refused c_t_knocks c_t_thrown (0 : Int32) r20 c_t_thrown_20 hc20) (cwV 1 hts gX9_copy_X9_isThrown_ rfl rfl rfl ydX9_isThrown_ ⟨Nat.le_of_ble_eq_true rfl, Nat.le_of_ble_eq_true rfl⟩) ⟨bl_PD, va_recv hK hP (ci := 8) (q0 := 0) rfl rfl, pr_PD hPc hK0 hDc hnw⟩ rfl rfl hl.1 rfl (lv_room (Nat.le_of_ble_eq_true rfl)) dX9_copy_20 ⟨Nat.le_of_ble_eq_true rfl, Nat.le_of_ble_eq_true rfl⟩) hP hD hS hA [0] [1] rfl rfl (by decide) (by decide) (fun H locs hP hD hS => ?_)
      have hP : va_P D vwCl [(a_t_forms, .inl (cyJ, 6, .inr (.inl f_t_forms))), (a_t, .inr (8, [.ref a_t_forms, .ref a_t_roll, .int c_t_many, .long c_t_taps, .int c_t_cells, .int c_t_acts, .int c_t_refused, .int c_t_knocks, .int c_t_thrown_20]))] H := hP
      have hD : va_D A [(a_t_forms, .inl (cyJ, 6, .inr (.inl f_t_forms))), (a_t, .inr (8, [.ref a_t_forms, .ref a_t_roll, .int c_t_many, .long c_t_taps, .int c_t_cells, .int c_t_acts, .int c_t_refused, .int c_t_knocks, .int c_t_thrown_20]))] := hD
      refine lv_if_eq (tgt := 30) hx hb dX9_copy_23 (by decide) (fun c23 => ?_) (fun c23 => ?_)
      · have h := it_ c23 h
        refine lv_aload_n hx hb dX9_copy_30 rfl (lv_at hl 0 rfl) ?_
        refine lv_iload_n hx hb dX9_copy_31 rfl (lv_at hl 2 rfl) ?_
        refine lv_aload_n hx hb dX9_copy_32 rfl (lv_at hl 0 rfl) ?_
        refine va_get (D := D) (ci := 8) (v := .ref a_t_forms) (C := RX9) (T := TX9) (N := 9) hx hb hts hinX9 hown hK hP 1 rfl rfl 0 (by decide) hfl9 (fun _ h9 => h9) rfl dX9_copy_33 ?_
        refine lv_iload_n hx hb dX9_copy_36 rfl (lv_at hl 1 rfl) ?_
        obtain ⟨hq37, h⟩ := chk_h h
        refine va_lald hx hb hK hP 0 0 rfl rfl hq37 dX9_copy_37 ?_
        obtain ⟨r38, c_t_acts_38, f_t_forms_38, hc38, h⟩ := obn3_h h
        have hPc := hP.sub (ws' := [(a_t, .inr (8, [.ref a_t_forms, .ref a_t_roll, .int c_t_many, .long c_t_taps, .int c_t_cells, .int c_t_acts, .int c_t_refused, .int c_t_knocks, .int c_t_thrown_20])), (a_t_forms, .inl (cyJ, 6, .inr (.inl f_t_forms)))]) [1, 0] rfl
        have hDc := hD.sub (ws' := [(a_t, .inr (8, [.ref a_t_forms, .ref a_t_roll, .int c_t_many, .long c_t_taps, .int c_t_cells, .int c_t_acts, .int c_t_refused, .int c_t_knocks, .int c_t_thrown_20])), (a_t_forms, .inl (cyJ, 6, .inr (.inl f_t_forms)))]) [1, 0] (by decide) rfl
        refine hp_i (w1 := [(a_t, .inr (8, [.ref a_t_forms, .ref a_t_roll, .int c_t_many, .long c_t_taps, .int c_t_cells, .int c_t_acts_38, .int c_t_refused, .int c_t_knocks, .int c_t_thrown_20])), (a_t_forms, .inl (cyJ, 6, .inr (.inl f_t_forms_38)))]) (wr := []) (va_runV (As := [.int p1, .long (f_t_forms p0.toNatClampNeg)]) (rest := []) hcf (c_X9_give l D cyJ H.size a_t a_t_forms a_t_roll c_t_many c_t_taps c_t_cells c_t_acts c_t_refused c_t_knocks c_t_thrown_20 f_t_forms p1 (f_t_forms p0.toNatClampNeg) r38 c_t_acts_38 f_t_forms_38 hc38) (cwV 2 hts gX9_copy_X9_give rfl rfl rfl ydX9_give ⟨Nat.le_of_ble_eq_true rfl, Nat.le_of_ble_eq_true rfl⟩) ⟨bl_PD, va_recv hK hP (ci := 8) (q0 := 1) rfl rfl, pr_PD hPc hK0 hDc hnw⟩ rfl rfl hl.1 rfl (lv_room (Nat.le_of_ble_eq_true rfl)) dX9_copy_38 ⟨Nat.le_of_ble_eq_true rfl, Nat.le_of_ble_eq_true rfl⟩) hP hD hS hA [1, 0] [] rfl rfl (by decide) (by decide) (fun H locs hP hD hS => ?_)
        have hP : va_P D vwCl [(a_t, .inr (8, [.ref a_t_forms, .ref a_t_roll, .int c_t_many, .long c_t_taps, .int c_t_cells, .int c_t_acts_38, .int c_t_refused, .int c_t_knocks, .int c_t_thrown_20])), (a_t_forms, .inl (cyJ, 6, .inr (.inl f_t_forms_38)))] H := hP
        have hD : va_D A [(a_t, .inr (8, [.ref a_t_forms, .ref a_t_roll, .int c_t_many, .long c_t_taps, .int c_t_cells, .int c_t_acts_38, .int c_t_refused, .int c_t_knocks, .int c_t_thrown_20])), (a_t_forms, .inl (cyJ, 6, .inr (.inl f_t_forms_38)))] := hD
        obtain ⟨e0, e1, e2, e3⟩ := tup4 h
        subst e0
        subst e1
        subst e2
        subst e3
        have hP9 : va_P D vwCl [(a_t, .inr (8, [.ref a_t_forms, .ref a_t_roll, .int c_t_many, .long c_t_taps, .int c_t_cells, .int c_t_acts_38, .int c_t_refused, .int c_t_knocks, .int c_t_thrown_20])), (a_t_forms, .inl (cyJ, 6, .inr (.inl f_t_forms_38)))] H := hP.sub [0, 1] rfl
        have hD9 : va_D A [(a_t, .inr (8, [.ref a_t_forms, .ref a_t_roll, .int c_t_many, .long c_t_taps, .int c_t_cells, .int c_t_acts_38, .int c_t_refused, .int c_t_knocks, .int c_t_thrown_20])), (a_t_forms, .inl (cyJ, 6, .inr (.inl f_t_forms_38)))] := hD.sub [0, 1] (by decide) rfl
        exact W.iret hx hb hr (fun t ht hW => ⟨⟨_, (), rfl, rfl, wQA_of ht hP9 hD9⟩, hS.F ht⟩) hS.2.2 dX9_copy_41
      · have h := if_ c23 h
        refine lv_iconst (v := 0) hx hb dX9_copy_26 (by decide) ?_
        refine lv_goto (tgt := 41) hx hb dX9_copy_27 (by decide) ?_
        obtain ⟨e0, e1, e2, e3⟩ := tup4 h
        subst e0
        subst e1
        subst e2
        subst e3
        have hP9 : va_P D vwCl [(a_t, .inr (8, [.ref a_t_forms, .ref a_t_roll, .int c_t_many, .long c_t_taps, .int c_t_cells, .int c_t_acts, .int c_t_refused, .int c_t_knocks, .int c_t_thrown_20])), (a_t_forms, .inl (cyJ, 6, .inr (.inl f_t_forms)))] H := hP.sub [1, 0] rfl
        have hD9 : va_D A [(a_t, .inr (8, [.ref a_t_forms, .ref a_t_roll, .int c_t_many, .long c_t_taps, .int c_t_cells, .int c_t_acts, .int c_t_refused, .int c_t_knocks, .int c_t_thrown_20])), (a_t_forms, .inl (cyJ, 6, .inr (.inl f_t_forms)))] := hD.sub [1, 0] (by decide) rfl
        exact W.iret hx hb hr (fun t ht hW => ⟨⟨_, (), rfl, rfl, wQA_of ht hP9 hD9⟩, hS.F ht⟩) hS.2.2 dX9_copy_41
    · have h := it_ c12 h
      refine lv_iconst (v := 1) hx hb dX9_copy_15 (by decide) ?_
      refine lv_goto (tgt := 20) hx hb dX9_copy_16 (by decide) ?_
      obtain ⟨r20, c_t_thrown_20, hc20, h⟩ := obn2_h h
      have hPc := hP.sub (ws' := [(a_t, .inr (8, [.ref a_t_forms, .ref a_t_roll, .int c_t_many, .long c_t_taps, .int c_t_cells, .int c_t_acts, .int c_t_refused, .int c_t_knocks, .int c_t_thrown]))]) [0] rfl
      have hDc := hD.sub (ws' := [(a_t, .inr (8, [.ref a_t_forms, .ref a_t_roll, .int c_t_many, .long c_t_taps, .int c_t_cells, .int c_t_acts, .int c_t_refused, .int c_t_knocks, .int c_t_thrown]))]) [0] (by decide) rfl
      refine hp_i (w1 := [(a_t, .inr (8, [.ref a_t_forms, .ref a_t_roll, .int c_t_many, .long c_t_taps, .int c_t_cells, .int c_t_acts, .int c_t_refused, .int c_t_knocks, .int c_t_thrown_20]))]) (wr := [(a_t_forms, .inl (cyJ, 6, .inr (.inl f_t_forms)))]) (va_runV (As := [.int (1 : Int32)]) (rest := []) hcf (c_X9_isThrown_ l D cyJ s.heap.size a_t a_t_forms a_t_roll c_t_many c_t_taps c_t_cells c_t_acts c_t_refused c_t_knocks c_t_thrown (1 : Int32) r20 c_t_thrown_20 hc20) (cwV 1 hts gX9_copy_X9_isThrown_ rfl rfl rfl ydX9_isThrown_ ⟨Nat.le_of_ble_eq_true rfl, Nat.le_of_ble_eq_true rfl⟩) ⟨bl_PD, va_recv hK hP (ci := 8) (q0 := 0) rfl rfl, pr_PD hPc hK0 hDc hnw⟩ rfl rfl hl.1 rfl (lv_room (Nat.le_of_ble_eq_true rfl)) dX9_copy_20 ⟨Nat.le_of_ble_eq_true rfl, Nat.le_of_ble_eq_true rfl⟩) hP hD hS hA [0] [1] rfl rfl (by decide) (by decide) (fun H locs hP hD hS => ?_)
      have hP : va_P D vwCl [(a_t_forms, .inl (cyJ, 6, .inr (.inl f_t_forms))), (a_t, .inr (8, [.ref a_t_forms, .ref a_t_roll, .int c_t_many, .long c_t_taps, .int c_t_cells, .int c_t_acts, .int c_t_refused, .int c_t_knocks, .int c_t_thrown_20]))] H := hP
      have hD : va_D A [(a_t_forms, .inl (cyJ, 6, .inr (.inl f_t_forms))), (a_t, .inr (8, [.ref a_t_forms, .ref a_t_roll, .int c_t_many, .long c_t_taps, .int c_t_cells, .int c_t_acts, .int c_t_refused, .int c_t_knocks, .int c_t_thrown_20]))] := hD
      refine lv_if_eq (tgt := 30) hx hb dX9_copy_23 (by decide) (fun c23 => ?_) (fun c23 => ?_)
      · have h := it_ c23 h
        refine lv_aload_n hx hb dX9_copy_30 rfl (lv_at hl 0 rfl) ?_
        refine lv_iload_n hx hb dX9_copy_31 rfl (lv_at hl 2 rfl) ?_
        refine lv_aload_n hx hb dX9_copy_32 rfl (lv_at hl 0 rfl) ?_
        refine va_get (D := D) (ci := 8) (v := .ref a_t_forms) (C := RX9) (T := TX9) (N := 9) hx hb hts hinX9 hown hK hP 1 rfl rfl 0 (by decide) hfl9 (fun _ h9 => h9) rfl dX9_copy_33 ?_
        refine lv_iload_n hx hb dX9_copy_36 rfl (lv_at hl 1 rfl) ?_
        obtain ⟨hq37, h⟩ := chk_h h
        refine va_lald hx hb hK hP 0 0 rfl rfl hq37 dX9_copy_37 ?_
        obtain ⟨r38, c_t_acts_38, f_t_forms_38, hc38, h⟩ := obn3_h h
        have hPc := hP.sub (ws' := [(a_t, .inr (8, [.ref a_t_forms, .ref a_t_roll, .int c_t_many, .long c_t_taps, .int c_t_cells, .int c_t_acts, .int c_t_refused, .int c_t_knocks, .int c_t_thrown_20])), (a_t_forms, .inl (cyJ, 6, .inr (.inl f_t_forms)))]) [1, 0] rfl
        have hDc := hD.sub (ws' := [(a_t, .inr (8, [.ref a_t_forms, .ref a_t_roll, .int c_t_many, .long c_t_taps, .int c_t_cells, .int c_t_acts, .int c_t_refused, .int c_t_knocks, .int c_t_thrown_20])), (a_t_forms, .inl (cyJ, 6, .inr (.inl f_t_forms)))]) [1, 0] (by decide) rfl
        refine hp_i (w1 := [(a_t, .inr (8, [.ref a_t_forms, .ref a_t_roll, .int c_t_many, .long c_t_taps, .int c_t_cells, .int c_t_acts_38, .int c_t_refused, .int c_t_knocks, .int c_t_thrown_20])), (a_t_forms, .inl (cyJ, 6, .inr (.inl f_t_forms_38)))]) (wr := []) (va_runV (As := [.int p1, .long (f_t_forms p0.toNatClampNeg)]) (rest := []) hcf (c_X9_give l D cyJ H.size a_t a_t_forms a_t_roll c_t_many c_t_taps c_t_cells c_t_acts c_t_refused c_t_knocks c_t_thrown_20 f_t_forms p1 (f_t_forms p0.toNatClampNeg) r38 c_t_acts_38 f_t_forms_38 hc38) (cwV 2 hts gX9_copy_X9_give rfl rfl rfl ydX9_give ⟨Nat.le_of_ble_eq_true rfl, Nat.le_of_ble_eq_true rfl⟩) ⟨bl_PD, va_recv hK hP (ci := 8) (q0 := 1) rfl rfl, pr_PD hPc hK0 hDc hnw⟩ rfl rfl hl.1 rfl (lv_room (Nat.le_of_ble_eq_true rfl)) dX9_copy_38 ⟨Nat.le_of_ble_eq_true rfl, Nat.le_of_ble_eq_true rfl⟩) hP hD hS hA [1, 0] [] rfl rfl (by decide) (by decide) (fun H locs hP hD hS => ?_)
        have hP : va_P D vwCl [(a_t, .inr (8, [.ref a_t_forms, .ref a_t_roll, .int c_t_many, .long c_t_taps, .int c_t_cells, .int c_t_acts_38, .int c_t_refused, .int c_t_knocks, .int c_t_thrown_20])), (a_t_forms, .inl (cyJ, 6, .inr (.inl f_t_forms_38)))] H := hP
        have hD : va_D A [(a_t, .inr (8, [.ref a_t_forms, .ref a_t_roll, .int c_t_many, .long c_t_taps, .int c_t_cells, .int c_t_acts_38, .int c_t_refused, .int c_t_knocks, .int c_t_thrown_20])), (a_t_forms, .inl (cyJ, 6, .inr (.inl f_t_forms_38)))] := hD
        obtain ⟨e0, e1, e2, e3⟩ := tup4 h
        subst e0
        subst e1
        subst e2
        subst e3
        have hP9 : va_P D vwCl [(a_t, .inr (8, [.ref a_t_forms, .ref a_t_roll, .int c_t_many, .long c_t_taps, .int c_t_cells, .int c_t_acts_38, .int c_t_refused, .int c_t_knocks, .int c_t_thrown_20])), (a_t_forms, .inl (cyJ, 6, .inr (.inl f_t_forms_38)))] H := hP.sub [0, 1] rfl
        have hD9 : va_D A [(a_t, .inr (8, [.ref a_t_forms, .ref a_t_roll, .int c_t_many, .long c_t_taps, .int c_t_cells, .int c_t_acts_38, .int c_t_refused, .int c_t_knocks, .int c_t_thrown_20])), (a_t_forms, .inl (cyJ, 6, .inr (.inl f_t_forms_38)))] := hD.sub [0, 1] (by decide) rfl
        exact W.iret hx hb hr (fun t ht hW => ⟨⟨_, (), rfl, rfl, wQA_of ht hP9 hD9⟩, hS.F ht⟩) hS.2.2 dX9_copy_41
      · have h := if_ c23 h
        refine lv_iconst (v := 0) hx hb dX9_copy_26 (by decide) ?_
        refine lv_goto (tgt := 41) hx hb dX9_copy_27 (by decide) ?_
        obtain ⟨e0, e1, e2, e3⟩ := tup4 h
        subst e0
        subst e1
        subst e2
        subst e3
        have hP9 : va_P D vwCl [(a_t, .inr (8, [.ref a_t_forms, .ref a_t_roll, .int c_t_many, .long c_t_taps, .int c_t_cells, .int c_t_acts, .int c_t_refused, .int c_t_knocks, .int c_t_thrown_20])), (a_t_forms, .inl (cyJ, 6, .inr (.inl f_t_forms)))] H := hP.sub [1, 0] rfl
        have hD9 : va_D A [(a_t, .inr (8, [.ref a_t_forms, .ref a_t_roll, .int c_t_many, .long c_t_taps, .int c_t_cells, .int c_t_acts, .int c_t_refused, .int c_t_knocks, .int c_t_thrown_20])), (a_t_forms, .inl (cyJ, 6, .inr (.inl f_t_forms)))] := hD.sub [1, 0] (by decide) rfl
        exact W.iret hx hb hr (fun t ht hW => ⟨⟨_, (), rfl, rfl, wQA_of ht hP9 hD9⟩, hS.F ht⟩) hS.2.2 dX9_copy_41

noncomputable abbrev rmX9_swap : Room := { frames := 2, cells := 0, slots := 0, locals := 43 }
theorem ydX9_swap : yX9_swap.cls = RX9 ∧ yX9_swap.cls ≠ "java/lang/invoke/MethodHandle" ∧ yX9_swap.cls ≠ "java/lang/invoke/VarHandle" ∧ (parseMethodDescriptor yX9_swap.desc).map (fun d => d.parameters.length) = some 2 := by decide +kernel
noncomputable def J_X9_swap_51 (jl1_51 : Int32) (jl2_51 : Int32) (j3_51 : Int64) (js0_51 : Int32) (c_t_acts_j51 : Int32) (c_t_thrown_j51 : Int32) (f_t_forms_j51 : Nat → Int64) : Option (Int32 × Int32 × Int32 × (Nat → Int64)) :=
 chk (¬ (jl2_51 < 0 ∨ 6 ≤ jl2_51.toNatClampNeg)) (
 chk (¬ (jl1_51 < 0 ∨ 6 ≤ jl1_51.toNatClampNeg)) (
 bnd (vp_updL f_t_forms_j51 jl1_51.toNatClampNeg (f_t_forms_j51 jl2_51.toNatClampNeg)) (fun f_t_forms_64 =>
 chk (¬ (jl2_51 < 0 ∨ 6 ≤ jl2_51.toNatClampNeg)) (
 bnd (vp_updL f_t_forms_64 jl2_51.toNatClampNeg j3_51) (fun f_t_forms_71 =>
 (if js0_51 = 0 then
 obn2 (F_X9_done c_t_acts_j51 (1 : Int32)) (fun r83 c_t_acts_83 =>
 some (r83, c_t_acts_83, c_t_thrown_j51, f_t_forms_71))
else
 obn2 (F_X9_done c_t_acts_j51 (0 : Int32)) (fun r83 c_t_acts_83 =>
 some (r83, c_t_acts_83, c_t_thrown_j51, f_t_forms_71))))))))
noncomputable def J_X9_swap_20 (jl1_20 : Int32) (jl2_20 : Int32) (js1_20 : Int32) (c_t_acts_j20 : Int32) (c_t_thrown_j20 : Int32) (f_t_forms_j20 : Nat → Int64) : Option (Int32 × Int32 × Int32 × (Nat → Int64)) :=
 obn2 (F_X9_isThrown_ js1_20) (fun r20 c_t_thrown_20 =>
 (if r20 = 0 then
 chk (¬ (jl1_20 < 0 ∨ 6 ≤ jl1_20.toNatClampNeg)) (
 bnd (f_t_forms_j20 jl1_20.toNatClampNeg) (fun x3_34 =>
 chk (¬ (jl2_20 < 0 ∨ 6 ≤ jl2_20.toNatClampNeg)) (
 (if x3_34 = (f_t_forms_j20 jl2_20.toNatClampNeg) then
 J_X9_swap_51 jl1_20 jl2_20 x3_34 (1 : Int32) c_t_acts_j20 c_t_thrown_20 f_t_forms_j20
else
 J_X9_swap_51 jl1_20 jl2_20 x3_34 (0 : Int32) c_t_acts_j20 c_t_thrown_20 f_t_forms_j20))))
else
 some ((0 : Int32), c_t_acts_j20, c_t_thrown_20, f_t_forms_j20)))
noncomputable def J_X9_swap_15 (jl1_15 : Int32) (jl2_15 : Int32) (c_t_acts_j15 : Int32) (c_t_thrown_j15 : Int32) (f_t_forms_j15 : Nat → Int64) : Option (Int32 × Int32 × Int32 × (Nat → Int64)) :=
 J_X9_swap_20 jl1_15 jl2_15 (1 : Int32) c_t_acts_j15 c_t_thrown_j15 f_t_forms_j15
noncomputable def F_X9_swap (c_t_acts : Int32) (c_t_thrown : Int32) (f_t_forms : Nat → Int64) (p0 : Int32) (p1 : Int32) : Option (Int32 × Int32 × Int32 × (Nat → Int64)) :=
 obn (F_X9_isForm p0) (fun r2 =>
 (if r2 = 0 then
 J_X9_swap_15 p0 p1 c_t_acts c_t_thrown f_t_forms
else
 obn (F_X9_isForm p1) (fun r9 =>
 (if r9 = 0 then
 J_X9_swap_15 p0 p1 c_t_acts c_t_thrown f_t_forms
else
 J_X9_swap_20 p0 p1 (0 : Int32) c_t_acts c_t_thrown f_t_forms))))
set_option maxHeartbeats 4000000 in
set_option maxRecDepth 100000 in
theorem c_X9_swap (l : Launch) (D : va_G) (cyJ : ClassId) (sz : Nat) (a_t : Nat) (a_t_forms : Nat) (a_t_roll : Nat) (c_t_many : Int32) (c_t_taps : Int64) (c_t_cells : Int32) (c_t_acts : Int32) (c_t_refused : Int32) (c_t_knocks : Int32) (c_t_thrown : Int32) (f_t_forms : Nat → Int64) (p0 : Int32) (p1 : Int32) (r0 : Int32) (o_c_t_acts : Int32) (o_c_t_thrown : Int32) (o_f_t_forms : Nat → Int64) (hF : F_X9_swap c_t_acts c_t_thrown f_t_forms p0 p1 = some (r0, o_c_t_acts, o_c_t_thrown, o_f_t_forms)) : Met l yX9_swap wsX9_swap rmX9_swap (va_Pc [.ref a_t, .int p0, .int p1] (wPD D [(cyJ, .long)] [(a_t, .inr (8, [.ref a_t_forms, .ref a_t_roll, .int c_t_many, .long c_t_taps, .int c_t_cells, .int c_t_acts, .int c_t_refused, .int c_t_knocks, .int c_t_thrown])), (a_t_forms, .inl (cyJ, 6, .inr (.inl f_t_forms)))] sz)) (va_Qi (fun (r : Int32) (_ : Unit) => r = r0) (fun _ t => wQA D [(a_t, .inr (8, [.ref a_t_forms, .ref a_t_roll, .int c_t_many, .long c_t_taps, .int c_t_cells, .int o_c_t_acts, .int c_t_refused, .int c_t_knocks, .int o_c_t_thrown])), (a_t_forms, .inl (cyJ, 6, .inr (.inl o_f_t_forms)))] (va_A [(a_t, .inr (8, [.ref a_t_forms, .ref a_t_roll, .int c_t_many, .long c_t_taps, .int c_t_cells, .int c_t_acts, .int c_t_refused, .int c_t_knocks, .int c_t_thrown])), (a_t_forms, .inl (cyJ, 6, .inr (.inl f_t_forms)))] sz) t) (va_A [(a_t, .inr (8, [.ref a_t_forms, .ref a_t_roll, .int c_t_many, .long c_t_taps, .int c_t_cells, .int c_t_acts, .int c_t_refused, .int c_t_knocks, .int c_t_thrown])), (a_t_forms, .inl (cyJ, 6, .inr (.inl f_t_forms)))] sz)) 0 0 (va_A [(a_t, .inr (8, [.ref a_t_forms, .ref a_t_roll, .int c_t_many, .long c_t_taps, .int c_t_cells, .int c_t_acts, .int c_t_refused, .int c_t_knocks, .int c_t_thrown])), (a_t_forms, .inl (cyJ, 6, .inr (.inl f_t_forms)))] sz) := by
  refine Met.ofW (cc := cX9_swap) (maxL := 6) (ret := (some .int)) (by decide) rfl ?_
  intro p e s m args below meth c s₁ B hml hv
  obtain ⟨rfl, hsz, hP, hK, hD0, hnw⟩ := hv
  have hx := B.exec
  have hb := B.bytes
  have hr := B.returns
  have hts := atoms_spec (ws := wsX9_swap) B.pre
  have hown : s.vm.findClass RX9 = some m.cls := findClass_of_methodNamed B.named
  have hlocks := B.notSynchronized
  have hcf : CallFix _ _ _ _ _ _ _ _ _ := ⟨hx, hb, hml, hown, hts⟩
  have hinX9 : ∀ w ∈ u_ws RX9 TX9 9, w ∈ wsX9_swap := by decide +kernel
  have hfl9 := hts (.fieldLink RX9 9 "FormwheelModel" "forms" "[J") (by decide +kernel)
  subst hsz
  have hD := hD0.self (sz := s.heap.size)
  generalize hAe : va_A [(a_t, .inr (8, [.ref a_t_forms, .ref a_t_roll, .int c_t_many, .long c_t_taps, .int c_t_cells, .int c_t_acts, .int c_t_refused, .int c_t_knocks, .int c_t_thrown])), (a_t_forms, .inl (cyJ, 6, .inr (.inl f_t_forms)))] s.heap.size = A at hD ⊢
  have hA : ∀ q : Nat, s.heap.size ≤ q → A q := fun q h => by rw [← hAe]; exact Or.inr h
  have hS : va_S A s.heap s.heap [] := va_S.rf
  have hP : va_P D vwCl [(a_t, .inr (8, [.ref a_t_forms, .ref a_t_roll, .int c_t_many, .long c_t_taps, .int c_t_cells, .int c_t_acts, .int c_t_refused, .int c_t_knocks, .int c_t_thrown])), (a_t_forms, .inl (cyJ, 6, .inr (.inl f_t_forms)))] s.heap := hP
  have hK0 := hK
  have hl := lv_entry ([.ref a_t, .int p0, .int p1]) (n := 6) (Nat.le_of_ble_eq_true rfl)
  rw [lg_entry_eq]
  generalize (lg_sl ([.ref a_t, .int p0, .int p1]) ++ List.replicate (6 - (lg_sl ([.ref a_t, .int p0, .int p1])).length) Slot.unset).toArray = ls at hl ⊢
  have hl : lv_has ls 6 [(0, .ref a_t), (1, .int p0), (2, .int p1)] := hl
  have h := hF
  clear hF
  unfold F_X9_swap at h
  have hj51 : ∀ (j3_51 : Int64) (js0_51 : Int32) (c_t_acts_j51 : Int32) (c_t_thrown_j51 : Int32) (f_t_forms_j51 : Nat → Int64), J_X9_swap_51 p0 p1 j3_51 js0_51 c_t_acts_j51 c_t_thrown_j51 f_t_forms_j51 = some (r0, o_c_t_acts, o_c_t_thrown, o_f_t_forms) → ∀ (H : Heap) (locs : List Loc), va_P D vwCl [(a_t, .inr (8, [.ref a_t_forms, .ref a_t_roll, .int c_t_many, .long c_t_taps, .int c_t_cells, .int c_t_acts_j51, .int c_t_refused, .int c_t_knocks, .int c_t_thrown_j51])), (a_t_forms, .inl (cyJ, 6, .inr (.inl f_t_forms_j51)))] H → va_D A [(a_t, .inr (8, [.ref a_t_forms, .ref a_t_roll, .int c_t_many, .long c_t_taps, .int c_t_cells, .int c_t_acts_j51, .int c_t_refused, .int c_t_knocks, .int c_t_thrown_j51])), (a_t_forms, .inl (cyJ, 6, .inr (.inl f_t_forms_j51)))] → va_S A s.heap H locs → ∀ (ls : Array Slot), lv_has ls 6 [(0, .ref a_t), (1, .int p0), (2, .int p1), (3, .long j3_51)] → W p l e rmX9_swap s m ([.ref a_t, .int p0, .int p1] : List Value).toArray below meth c H locs 0 0 (MQ below (va_Qi (fun (r : Int32) (_ : Unit) => r = r0) (fun _ t => wQA D [(a_t, .inr (8, [.ref a_t_forms, .ref a_t_roll, .int c_t_many, .long c_t_taps, .int c_t_cells, .int o_c_t_acts, .int c_t_refused, .int c_t_knocks, .int o_c_t_thrown])), (a_t_forms, .inl (cyJ, 6, .inr (.inl o_f_t_forms)))] A t) A) ([.ref a_t, .int p0, .int p1] : List Value).toArray s 0 0 A) (F0 m 51 ls [.int js0_51]) := by
    intro j3_51 js0_51 c_t_acts_j51 c_t_thrown_j51 f_t_forms_j51 h H locs hP hD hS ls hl
    unfold J_X9_swap_51 at h
    refine lv_istore (lv' := [(5, .int js0_51), (0, .ref a_t), (1, .int p0), (2, .int p1), (3, .long j3_51)]) hx hb dX9_swap_51 hl (by decide) rfl (fun ls hl => ?_)
    refine lv_aload_n hx hb dX9_swap_53 rfl (lv_at hl 1 rfl) ?_
    refine va_get (D := D) (ci := 8) (v := .ref a_t_forms) (C := RX9) (T := TX9) (N := 9) hx hb hts hinX9 hown hK hP 0 rfl rfl 0 (by decide) hfl9 (fun _ h9 => h9) rfl dX9_swap_54 ?_
    refine lv_iload_n hx hb dX9_swap_57 rfl (lv_at hl 2 rfl) ?_
    refine lv_aload_n hx hb dX9_swap_58 rfl (lv_at hl 1 rfl) ?_
    refine va_get (D := D) (ci := 8) (v := .ref a_t_forms) (C := RX9) (T := TX9) (N := 9) hx hb hts hinX9 hown hK hP 0 rfl rfl 0 (by decide) hfl9 (fun _ h9 => h9) rfl dX9_swap_59 ?_
    refine lv_iload_n hx hb dX9_swap_62 rfl (lv_at hl 3 rfl) ?_
    obtain ⟨hq63, h⟩ := chk_h h
    refine va_lald hx hb hK hP 1 0 rfl rfl hq63 dX9_swap_63 ?_
    obtain ⟨hq64, h⟩ := chk_h h
    refine va_last hx hb hK hP hD hS 1 0 rfl rfl hq64 dX9_swap_64 (fun H locs hP hD hS => ?_)
    obtain ⟨f_t_forms_64, e_f_t_forms_64⟩ : ∃ z, z = vp_updL f_t_forms_j51 p0.toNatClampNeg (f_t_forms_j51 p1.toNatClampNeg) := ⟨_, rfl⟩
    have h := bnd_h e_f_t_forms_64 h
    have hP : va_P D vwCl [(a_t, .inr (8, [.ref a_t_forms, .ref a_t_roll, .int c_t_many, .long c_t_taps, .int c_t_cells, .int c_t_acts_j51, .int c_t_refused, .int c_t_knocks, .int c_t_thrown_j51])), (a_t_forms, .inl (cyJ, 6, .inr (.inl f_t_forms_64)))] H := by rw [e_f_t_forms_64]; exact hP
    have hD : va_D A [(a_t, .inr (8, [.ref a_t_forms, .ref a_t_roll, .int c_t_many, .long c_t_taps, .int c_t_cells, .int c_t_acts_j51, .int c_t_refused, .int c_t_knocks, .int c_t_thrown_j51])), (a_t_forms, .inl (cyJ, 6, .inr (.inl f_t_forms_64)))] := by rw [e_f_t_forms_64]; exact hD
    refine lv_aload_n hx hb dX9_swap_65 rfl (lv_at hl 1 rfl) ?_
    refine va_get (D := D) (ci := 8) (v := .ref a_t_forms) (C := RX9) (T := TX9) (N := 9) hx hb hts hinX9 hown hK hP 0 rfl rfl 0 (by decide) hfl9 (fun _ h9 => h9) rfl dX9_swap_66 ?_
    refine lv_iload_n hx hb dX9_swap_69 rfl (lv_at hl 3 rfl) ?_
    refine lv_lload_n hx hb dX9_swap_70 rfl (lv_at hl 4 rfl) ?_
    obtain ⟨hq71, h⟩ := chk_h h
    refine va_last hx hb hK hP hD hS 1 0 rfl rfl hq71 dX9_swap_71 (fun H locs hP hD hS => ?_)
    obtain ⟨f_t_forms_71, e_f_t_forms_71⟩ : ∃ z, z = vp_updL f_t_forms_64 p1.toNatClampNeg j3_51 := ⟨_, rfl⟩
    have h := bnd_h e_f_t_forms_71 h
    have hP : va_P D vwCl [(a_t, .inr (8, [.ref a_t_forms, .ref a_t_roll, .int c_t_many, .long c_t_taps, .int c_t_cells, .int c_t_acts_j51, .int c_t_refused, .int c_t_knocks, .int c_t_thrown_j51])), (a_t_forms, .inl (cyJ, 6, .inr (.inl f_t_forms_71)))] H := by rw [e_f_t_forms_71]; exact hP
    have hD : va_D A [(a_t, .inr (8, [.ref a_t_forms, .ref a_t_roll, .int c_t_many, .long c_t_taps, .int c_t_cells, .int c_t_acts_j51, .int c_t_refused, .int c_t_knocks, .int c_t_thrown_j51])), (a_t_forms, .inl (cyJ, 6, .inr (.inl f_t_forms_71)))] := by rw [e_f_t_forms_71]; exact hD
    refine lv_aload_n hx hb dX9_swap_72 rfl (lv_at hl 1 rfl) ?_
    refine lv_iload hx hb dX9_swap_73 (lv_at hl 0 rfl) ?_
    refine lv_if_eq (tgt := 82) hx hb dX9_swap_75 (by decide) (fun c75 => ?_) (fun c75 => ?_)
    · have h := it_ c75 h
      refine lv_iconst (v := 1) hx hb dX9_swap_82 (by decide) ?_
      obtain ⟨r83, c_t_acts_83, hc83, h⟩ := obn2_h h
      have hPc := hP.sub (ws' := [(a_t, .inr (8, [.ref a_t_forms, .ref a_t_roll, .int c_t_many, .long c_t_taps, .int c_t_cells, .int c_t_acts_j51, .int c_t_refused, .int c_t_knocks, .int c_t_thrown_j51]))]) [0] rfl
      have hDc := hD.sub (ws' := [(a_t, .inr (8, [.ref a_t_forms, .ref a_t_roll, .int c_t_many, .long c_t_taps, .int c_t_cells, .int c_t_acts_j51, .int c_t_refused, .int c_t_knocks, .int c_t_thrown_j51]))]) [0] (by decide) rfl
      refine hp_i (w1 := [(a_t, .inr (8, [.ref a_t_forms, .ref a_t_roll, .int c_t_many, .long c_t_taps, .int c_t_cells, .int c_t_acts_83, .int c_t_refused, .int c_t_knocks, .int c_t_thrown_j51]))]) (wr := [(a_t_forms, .inl (cyJ, 6, .inr (.inl f_t_forms_71)))]) (va_runV (As := [.int (1 : Int32)]) (rest := []) hcf (c_X9_done l D cyJ H.size a_t a_t_forms a_t_roll c_t_many c_t_taps c_t_cells c_t_acts_j51 c_t_refused c_t_knocks c_t_thrown_j51 (1 : Int32) r83 c_t_acts_83 hc83) (cwV 1 hts gX9_swap_X9_done rfl rfl rfl ydX9_done ⟨Nat.le_of_ble_eq_true rfl, Nat.le_of_ble_eq_true rfl⟩) ⟨bl_PD, va_recv hK hP (ci := 8) (q0 := 0) rfl rfl, pr_PD hPc hK0 hDc hnw⟩ rfl rfl hl.1 rfl (lv_room (Nat.le_of_ble_eq_true rfl)) dX9_swap_83 ⟨Nat.le_of_ble_eq_true rfl, Nat.le_of_ble_eq_true rfl⟩) hP hD hS hA [0] [1] rfl rfl (by decide) (by decide) (fun H locs hP hD hS => ?_)
      have hP : va_P D vwCl [(a_t_forms, .inl (cyJ, 6, .inr (.inl f_t_forms_71))), (a_t, .inr (8, [.ref a_t_forms, .ref a_t_roll, .int c_t_many, .long c_t_taps, .int c_t_cells, .int c_t_acts_83, .int c_t_refused, .int c_t_knocks, .int c_t_thrown_j51]))] H := hP
      have hD : va_D A [(a_t_forms, .inl (cyJ, 6, .inr (.inl f_t_forms_71))), (a_t, .inr (8, [.ref a_t_forms, .ref a_t_roll, .int c_t_many, .long c_t_taps, .int c_t_cells, .int c_t_acts_83, .int c_t_refused, .int c_t_knocks, .int c_t_thrown_j51]))] := hD
      obtain ⟨e0, e1, e2, e3⟩ := tup4 h
      subst e0
      subst e1
      subst e2
      subst e3
      have hP9 : va_P D vwCl [(a_t, .inr (8, [.ref a_t_forms, .ref a_t_roll, .int c_t_many, .long c_t_taps, .int c_t_cells, .int c_t_acts_83, .int c_t_refused, .int c_t_knocks, .int c_t_thrown_j51])), (a_t_forms, .inl (cyJ, 6, .inr (.inl f_t_forms_71)))] H := hP.sub [1, 0] rfl
      have hD9 : va_D A [(a_t, .inr (8, [.ref a_t_forms, .ref a_t_roll, .int c_t_many, .long c_t_taps, .int c_t_cells, .int c_t_acts_83, .int c_t_refused, .int c_t_knocks, .int c_t_thrown_j51])), (a_t_forms, .inl (cyJ, 6, .inr (.inl f_t_forms_71)))] := hD.sub [1, 0] (by decide) rfl
      exact W.iret hx hb hr (fun t ht hW => ⟨⟨_, (), rfl, rfl, wQA_of ht hP9 hD9⟩, hS.F ht⟩) hS.2.2 dX9_swap_86
    · have h := if_ c75 h
      refine lv_iconst (v := 0) hx hb dX9_swap_78 (by decide) ?_
      refine lv_goto (tgt := 83) hx hb dX9_swap_79 (by decide) ?_
      obtain ⟨r83, c_t_acts_83, hc83, h⟩ := obn2_h h
      have hPc := hP.sub (ws' := [(a_t, .inr (8, [.ref a_t_forms, .ref a_t_roll, .int c_t_many, .long c_t_taps, .int c_t_cells, .int c_t_acts_j51, .int c_t_refused, .int c_t_knocks, .int c_t_thrown_j51]))]) [0] rfl
      have hDc := hD.sub (ws' := [(a_t, .inr (8, [.ref a_t_forms, .ref a_t_roll, .int c_t_many, .long c_t_taps, .int c_t_cells, .int c_t_acts_j51, .int c_t_refused, .int c_t_knocks, .int c_t_thrown_j51]))]) [0] (by decide) rfl
      refine hp_i (w1 := [(a_t, .inr (8, [.ref a_t_forms, .ref a_t_roll, .int c_t_many, .long c_t_taps, .int c_t_cells, .int c_t_acts_83, .int c_t_refused, .int c_t_knocks, .int c_t_thrown_j51]))]) (wr := [(a_t_forms, .inl (cyJ, 6, .inr (.inl f_t_forms_71)))]) (va_runV (As := [.int (0 : Int32)]) (rest := []) hcf (c_X9_done l D cyJ H.size a_t a_t_forms a_t_roll c_t_many c_t_taps c_t_cells c_t_acts_j51 c_t_refused c_t_knocks c_t_thrown_j51 (0 : Int32) r83 c_t_acts_83 hc83) (cwV 1 hts gX9_swap_X9_done rfl rfl rfl ydX9_done ⟨Nat.le_of_ble_eq_true rfl, Nat.le_of_ble_eq_true rfl⟩) ⟨bl_PD, va_recv hK hP (ci := 8) (q0 := 0) rfl rfl, pr_PD hPc hK0 hDc hnw⟩ rfl rfl hl.1 rfl (lv_room (Nat.le_of_ble_eq_true rfl)) dX9_swap_83 ⟨Nat.le_of_ble_eq_true rfl, Nat.le_of_ble_eq_true rfl⟩) hP hD hS hA [0] [1] rfl rfl (by decide) (by decide) (fun H locs hP hD hS => ?_)
      have hP : va_P D vwCl [(a_t_forms, .inl (cyJ, 6, .inr (.inl f_t_forms_71))), (a_t, .inr (8, [.ref a_t_forms, .ref a_t_roll, .int c_t_many, .long c_t_taps, .int c_t_cells, .int c_t_acts_83, .int c_t_refused, .int c_t_knocks, .int c_t_thrown_j51]))] H := hP
      have hD : va_D A [(a_t_forms, .inl (cyJ, 6, .inr (.inl f_t_forms_71))), (a_t, .inr (8, [.ref a_t_forms, .ref a_t_roll, .int c_t_many, .long c_t_taps, .int c_t_cells, .int c_t_acts_83, .int c_t_refused, .int c_t_knocks, .int c_t_thrown_j51]))] := hD
      obtain ⟨e0, e1, e2, e3⟩ := tup4 h
      subst e0
      subst e1
      subst e2
      subst e3
      have hP9 : va_P D vwCl [(a_t, .inr (8, [.ref a_t_forms, .ref a_t_roll, .int c_t_many, .long c_t_taps, .int c_t_cells, .int c_t_acts_83, .int c_t_refused, .int c_t_knocks, .int c_t_thrown_j51])), (a_t_forms, .inl (cyJ, 6, .inr (.inl f_t_forms_71)))] H := hP.sub [1, 0] rfl
      have hD9 : va_D A [(a_t, .inr (8, [.ref a_t_forms, .ref a_t_roll, .int c_t_many, .long c_t_taps, .int c_t_cells, .int c_t_acts_83, .int c_t_refused, .int c_t_knocks, .int c_t_thrown_j51])), (a_t_forms, .inl (cyJ, 6, .inr (.inl f_t_forms_71)))] := hD.sub [1, 0] (by decide) rfl
      exact W.iret hx hb hr (fun t ht hW => ⟨⟨_, (), rfl, rfl, wQA_of ht hP9 hD9⟩, hS.F ht⟩) hS.2.2 dX9_swap_86
  have hj20 : ∀ (js1_20 : Int32) (c_t_acts_j20 : Int32) (c_t_thrown_j20 : Int32) (f_t_forms_j20 : Nat → Int64), J_X9_swap_20 p0 p1 js1_20 c_t_acts_j20 c_t_thrown_j20 f_t_forms_j20 = some (r0, o_c_t_acts, o_c_t_thrown, o_f_t_forms) → ∀ (H : Heap) (locs : List Loc), va_P D vwCl [(a_t, .inr (8, [.ref a_t_forms, .ref a_t_roll, .int c_t_many, .long c_t_taps, .int c_t_cells, .int c_t_acts_j20, .int c_t_refused, .int c_t_knocks, .int c_t_thrown_j20])), (a_t_forms, .inl (cyJ, 6, .inr (.inl f_t_forms_j20)))] H → va_D A [(a_t, .inr (8, [.ref a_t_forms, .ref a_t_roll, .int c_t_many, .long c_t_taps, .int c_t_cells, .int c_t_acts_j20, .int c_t_refused, .int c_t_knocks, .int c_t_thrown_j20])), (a_t_forms, .inl (cyJ, 6, .inr (.inl f_t_forms_j20)))] → va_S A s.heap H locs → ∀ (ls : Array Slot), lv_has ls 6 [(0, .ref a_t), (1, .int p0), (2, .int p1)] → W p l e rmX9_swap s m ([.ref a_t, .int p0, .int p1] : List Value).toArray below meth c H locs 0 0 (MQ below (va_Qi (fun (r : Int32) (_ : Unit) => r = r0) (fun _ t => wQA D [(a_t, .inr (8, [.ref a_t_forms, .ref a_t_roll, .int c_t_many, .long c_t_taps, .int c_t_cells, .int o_c_t_acts, .int c_t_refused, .int c_t_knocks, .int o_c_t_thrown])), (a_t_forms, .inl (cyJ, 6, .inr (.inl o_f_t_forms)))] A t) A) ([.ref a_t, .int p0, .int p1] : List Value).toArray s 0 0 A) (F0 m 20 ls [.int js1_20, .ref a_t]) := by
    intro js1_20 c_t_acts_j20 c_t_thrown_j20 f_t_forms_j20 h H locs hP hD hS ls hl
    unfold J_X9_swap_20 at h
    obtain ⟨r20, c_t_thrown_20, hc20, h⟩ := obn2_h h
    have hPc := hP.sub (ws' := [(a_t, .inr (8, [.ref a_t_forms, .ref a_t_roll, .int c_t_many, .long c_t_taps, .int c_t_cells, .int c_t_acts_j20, .int c_t_refused, .int c_t_knocks, .int c_t_thrown_j20]))]) [0] rfl
    have hDc := hD.sub (ws' := [(a_t, .inr (8, [.ref a_t_forms, .ref a_t_roll, .int c_t_many, .long c_t_taps, .int c_t_cells, .int c_t_acts_j20, .int c_t_refused, .int c_t_knocks, .int c_t_thrown_j20]))]) [0] (by decide) rfl
    refine hp_i (w1 := [(a_t, .inr (8, [.ref a_t_forms, .ref a_t_roll, .int c_t_many, .long c_t_taps, .int c_t_cells, .int c_t_acts_j20, .int c_t_refused, .int c_t_knocks, .int c_t_thrown_20]))]) (wr := [(a_t_forms, .inl (cyJ, 6, .inr (.inl f_t_forms_j20)))]) (va_runV (As := [.int js1_20]) (rest := []) hcf (c_X9_isThrown_ l D cyJ H.size a_t a_t_forms a_t_roll c_t_many c_t_taps c_t_cells c_t_acts_j20 c_t_refused c_t_knocks c_t_thrown_j20 js1_20 r20 c_t_thrown_20 hc20) (cwV 1 hts gX9_swap_X9_isThrown_ rfl rfl rfl ydX9_isThrown_ ⟨Nat.le_of_ble_eq_true rfl, Nat.le_of_ble_eq_true rfl⟩) ⟨bl_PD, va_recv hK hP (ci := 8) (q0 := 0) rfl rfl, pr_PD hPc hK0 hDc hnw⟩ rfl rfl hl.1 rfl (lv_room (Nat.le_of_ble_eq_true rfl)) dX9_swap_20 ⟨Nat.le_of_ble_eq_true rfl, Nat.le_of_ble_eq_true rfl⟩) hP hD hS hA [0] [1] rfl rfl (by decide) (by decide) (fun H locs hP hD hS => ?_)
    have hP : va_P D vwCl [(a_t_forms, .inl (cyJ, 6, .inr (.inl f_t_forms_j20))), (a_t, .inr (8, [.ref a_t_forms, .ref a_t_roll, .int c_t_many, .long c_t_taps, .int c_t_cells, .int c_t_acts_j20, .int c_t_refused, .int c_t_knocks, .int c_t_thrown_20]))] H := hP
    have hD : va_D A [(a_t_forms, .inl (cyJ, 6, .inr (.inl f_t_forms_j20))), (a_t, .inr (8, [.ref a_t_forms, .ref a_t_roll, .int c_t_many, .long c_t_taps, .int c_t_cells, .int c_t_acts_j20, .int c_t_refused, .int c_t_knocks, .int c_t_thrown_20]))] := hD
    refine lv_if_eq (tgt := 28) hx hb dX9_swap_23 (by decide) (fun c23 => ?_) (fun c23 => ?_)
    · have h := it_ c23 h
      refine lv_aload_n hx hb dX9_swap_28 rfl (lv_at hl 0 rfl) ?_
      refine va_get (D := D) (ci := 8) (v := .ref a_t_forms) (C := RX9) (T := TX9) (N := 9) hx hb hts hinX9 hown hK hP 1 rfl rfl 0 (by decide) hfl9 (fun _ h9 => h9) rfl dX9_swap_29 ?_
      refine lv_iload_n hx hb dX9_swap_32 rfl (lv_at hl 1 rfl) ?_
      obtain ⟨hq33, h⟩ := chk_h h
      refine va_lald hx hb hK hP 0 0 rfl rfl hq33 dX9_swap_33 ?_
      refine lv_topl (fun x3_34 e_x3_34 => ?_)
      have h := bnd_h e_x3_34 h
      refine lv_lstore_n (lv' := [(3, .long x3_34), (0, .ref a_t), (1, .int p0), (2, .int p1)]) hx hb dX9_swap_34 rfl hl (by decide) rfl (fun ls hl => ?_)
      refine lv_lload_n hx hb dX9_swap_35 rfl (lv_at hl 0 rfl) ?_
      refine lv_aload_n hx hb dX9_swap_36 rfl (lv_at hl 1 rfl) ?_
      refine va_get (D := D) (ci := 8) (v := .ref a_t_forms) (C := RX9) (T := TX9) (N := 9) hx hb hts hinX9 hown hK hP 1 rfl rfl 0 (by decide) hfl9 (fun _ h9 => h9) rfl dX9_swap_37 ?_
      refine lv_iload_n hx hb dX9_swap_40 rfl (lv_at hl 3 rfl) ?_
      obtain ⟨hq41, h⟩ := chk_h h
      refine va_lald hx hb hK hP 0 0 rfl rfl hq41 dX9_swap_41 ?_
      refine W.lcmp hx hb dX9_swap_42 ?_
      refine lv_if_ne (tgt := 50) hx hb dX9_swap_43 (by decide) (fun c43 => ?_) (fun c43 => ?_)
      · have c43 := fun z => c43 ((lg_cmp_eq _ _).mpr z)
        have h := if_ c43 h
        refine lv_iconst (v := 0) hx hb dX9_swap_50 (by decide) ?_
        exact hj51 x3_34 (0 : Int32) c_t_acts_j20 c_t_thrown_20 f_t_forms_j20 h _ _ (hP.sub [1, 0] rfl) (hD.sub [1, 0] (by decide) rfl) hS ls (lv_sub hl [1, 2, 3, 0] rfl)
      · have c43 := (lg_cmp_eq _ _).mp c43
        have h := it_ c43 h
        refine lv_iconst (v := 1) hx hb dX9_swap_46 (by decide) ?_
        refine lv_goto (tgt := 51) hx hb dX9_swap_47 (by decide) ?_
        exact hj51 x3_34 (1 : Int32) c_t_acts_j20 c_t_thrown_20 f_t_forms_j20 h _ _ (hP.sub [1, 0] rfl) (hD.sub [1, 0] (by decide) rfl) hS ls (lv_sub hl [1, 2, 3, 0] rfl)
    · have h := if_ c23 h
      refine lv_iconst (v := 0) hx hb dX9_swap_26 (by decide) ?_
      obtain ⟨e0, e1, e2, e3⟩ := tup4 h
      subst e0
      subst e1
      subst e2
      subst e3
      have hP9 : va_P D vwCl [(a_t, .inr (8, [.ref a_t_forms, .ref a_t_roll, .int c_t_many, .long c_t_taps, .int c_t_cells, .int c_t_acts_j20, .int c_t_refused, .int c_t_knocks, .int c_t_thrown_20])), (a_t_forms, .inl (cyJ, 6, .inr (.inl f_t_forms_j20)))] H := hP.sub [1, 0] rfl
      have hD9 : va_D A [(a_t, .inr (8, [.ref a_t_forms, .ref a_t_roll, .int c_t_many, .long c_t_taps, .int c_t_cells, .int c_t_acts_j20, .int c_t_refused, .int c_t_knocks, .int c_t_thrown_20])), (a_t_forms, .inl (cyJ, 6, .inr (.inl f_t_forms_j20)))] := hD.sub [1, 0] (by decide) rfl
      exact W.iret hx hb hr (fun t ht hW => ⟨⟨_, (), rfl, rfl, wQA_of ht hP9 hD9⟩, hS.F ht⟩) hS.2.2 dX9_swap_27
  have hj15 : ∀ (c_t_acts_j15 : Int32) (c_t_thrown_j15 : Int32) (f_t_forms_j15 : Nat → Int64), J_X9_swap_15 p0 p1 c_t_acts_j15 c_t_thrown_j15 f_t_forms_j15 = some (r0, o_c_t_acts, o_c_t_thrown, o_f_t_forms) → ∀ (H : Heap) (locs : List Loc), va_P D vwCl [(a_t, .inr (8, [.ref a_t_forms, .ref a_t_roll, .int c_t_many, .long c_t_taps, .int c_t_cells, .int c_t_acts_j15, .int c_t_refused, .int c_t_knocks, .int c_t_thrown_j15])), (a_t_forms, .inl (cyJ, 6, .inr (.inl f_t_forms_j15)))] H → va_D A [(a_t, .inr (8, [.ref a_t_forms, .ref a_t_roll, .int c_t_many, .long c_t_taps, .int c_t_cells, .int c_t_acts_j15, .int c_t_refused, .int c_t_knocks, .int c_t_thrown_j15])), (a_t_forms, .inl (cyJ, 6, .inr (.inl f_t_forms_j15)))] → va_S A s.heap H locs → ∀ (ls : Array Slot), lv_has ls 6 [(0, .ref a_t), (1, .int p0), (2, .int p1)] → W p l e rmX9_swap s m ([.ref a_t, .int p0, .int p1] : List Value).toArray below meth c H locs 0 0 (MQ below (va_Qi (fun (r : Int32) (_ : Unit) => r = r0) (fun _ t => wQA D [(a_t, .inr (8, [.ref a_t_forms, .ref a_t_roll, .int c_t_many, .long c_t_taps, .int c_t_cells, .int o_c_t_acts, .int c_t_refused, .int c_t_knocks, .int o_c_t_thrown])), (a_t_forms, .inl (cyJ, 6, .inr (.inl o_f_t_forms)))] A t) A) ([.ref a_t, .int p0, .int p1] : List Value).toArray s 0 0 A) (F0 m 15 ls [.ref a_t]) := by
    intro c_t_acts_j15 c_t_thrown_j15 f_t_forms_j15 h H locs hP hD hS ls hl
    unfold J_X9_swap_15 at h
    refine lv_iconst (v := 1) hx hb dX9_swap_15 (by decide) ?_
    refine lv_goto (tgt := 20) hx hb dX9_swap_16 (by decide) ?_
    exact hj20 (1 : Int32) c_t_acts_j15 c_t_thrown_j15 f_t_forms_j15 h _ _ (hP.sub [0, 1] rfl) (hD.sub [0, 1] (by decide) rfl) hS ls (lv_sub hl [0, 1, 2] rfl)
  refine lv_aload_n hx hb dX9_swap_0 rfl (lv_at hl 0 rfl) ?_
  refine lv_iload_n hx hb dX9_swap_1 rfl (lv_at hl 1 rfl) ?_
  obtain ⟨r2, hc2, h⟩ := obn_h h
  refine pz_callS (As := [.int p0]) (rest := [.ref a_t]) hcf (c_X9_isForm l p0 r2 hc2) (va_cwS 1 hts gX9_swap_X9_isForm rfl rfl rfl ydX9_isForm ⟨Nat.le_of_ble_eq_true rfl, Nat.le_of_ble_eq_true rfl⟩) hnw rfl hl.1 rfl (Nat.le_of_ble_eq_true rfl) dX9_swap_2 ⟨Nat.le_of_ble_eq_true rfl, Nat.le_of_ble_eq_true rfl⟩ ?_
  refine lv_if_eq (tgt := 15) hx hb dX9_swap_5 (by decide) (fun c5 => ?_) (fun c5 => ?_)
  · have h := it_ c5 h
    exact hj15 c_t_acts c_t_thrown f_t_forms h _ _ (hP.sub [0, 1] rfl) (hD.sub [0, 1] (by decide) rfl) hS ls (lv_sub hl [0, 1, 2] rfl)
  · have h := if_ c5 h
    refine lv_iload_n hx hb dX9_swap_8 rfl (lv_at hl 2 rfl) ?_
    obtain ⟨r9, hc9, h⟩ := obn_h h
    refine pz_callS (As := [.int p1]) (rest := [.ref a_t]) hcf (c_X9_isForm l p1 r9 hc9) (va_cwS 1 hts gX9_swap_X9_isForm rfl rfl rfl ydX9_isForm ⟨Nat.le_of_ble_eq_true rfl, Nat.le_of_ble_eq_true rfl⟩) hnw rfl hl.1 rfl (Nat.le_of_ble_eq_true rfl) dX9_swap_9 ⟨Nat.le_of_ble_eq_true rfl, Nat.le_of_ble_eq_true rfl⟩ ?_
    refine lv_if_ne (tgt := 19) hx hb dX9_swap_12 (by decide) (fun c12 => ?_) (fun c12 => ?_)
    · have h := if_ c12 h
      refine lv_iconst (v := 0) hx hb dX9_swap_19 (by decide) ?_
      exact hj20 (0 : Int32) c_t_acts c_t_thrown f_t_forms h _ _ (hP.sub [0, 1] rfl) (hD.sub [0, 1] (by decide) rfl) hS ls (lv_sub hl [0, 1, 2] rfl)
    · have h := it_ c12 h
      exact hj15 c_t_acts c_t_thrown f_t_forms h _ _ (hP.sub [0, 1] rfl) (hD.sub [0, 1] (by decide) rfl) hS ls (lv_sub hl [0, 1, 2] rfl)

noncomputable abbrev rmX9_shift : Room := { frames := 4, cells := 0, slots := 0, locals := 87 }
theorem ydX9_shift : yX9_shift.cls = RX9 ∧ yX9_shift.cls ≠ "java/lang/invoke/MethodHandle" ∧ yX9_shift.cls ≠ "java/lang/invoke/VarHandle" ∧ (parseMethodDescriptor yX9_shift.desc).map (fun d => d.parameters.length) = some 2 := by decide +kernel
noncomputable def J_X9_shift_70 (jl1_70 : Int32) (jl2_70 : Int32) (c_t_acts_j70 : Int32) (c_t_refused_j70 : Int32) (c_t_thrown_j70 : Int32) (f_t_forms_j70 : Nat → Int64) : Option (Int32 × Int32 × Int32 × Int32 × (Nat → Int64)) :=
 (if 0 ≤ jl2_70 then
 chk (¬ (jl1_70 < 0 ∨ 6 ≤ jl1_70.toNatClampNeg)) (
 obn3 (F_X9_give c_t_acts_j70 f_t_forms_j70 jl1_70 ((f_t_forms_j70 jl1_70.toNatClampNeg) <<< (jl2_70.toInt64 &&& 63))) (fun r96 c_t_acts_96 f_t_forms_96 =>
 some (r96, c_t_acts_96, c_t_refused_j70, c_t_thrown_j70, f_t_forms_96)))
else
 chk (¬ (jl1_70 < 0 ∨ 6 ≤ jl1_70.toNatClampNeg)) (
 obn3 (F_X9_give c_t_acts_j70 f_t_forms_j70 jl1_70 ((f_t_forms_j70 jl1_70.toNatClampNeg) >>> ((-jl2_70).toInt64 &&& 63))) (fun r96 c_t_acts_96 f_t_forms_96 =>
 some (r96, c_t_acts_96, c_t_refused_j70, c_t_thrown_j70, f_t_forms_96))))
noncomputable def J_X9_shift_30 (jl1_30 : Int32) (jl2_30 : Int32) (js1_30 : Int32) (js2_30 : Int32) (c_t_acts_j30 : Int32) (c_t_refused_j30 : Int32) (c_t_thrown_j30 : Int32) (f_t_forms_j30 : Nat → Int64) : Option (Int32 × Int32 × Int32 × Int32 × (Nat → Int64)) :=
 obn2 (F_X9_isThrown js1_30 js2_30) (fun r30 c_t_thrown_30 =>
 (if r30 = 0 then
 chk (¬ (jl1_30 < 0 ∨ 6 ≤ jl1_30.toNatClampNeg)) (
 (if (f_t_forms_j30 jl1_30.toNatClampNeg) = (0 : Int64) then
 J_X9_shift_70 jl1_30 jl2_30 c_t_acts_j30 c_t_refused_j30 c_t_thrown_30 f_t_forms_j30
else
 chk (¬ (jl1_30 < 0 ∨ 6 ≤ jl1_30.toNatClampNeg)) (
 obn (F_X9_degreeOf (f_t_forms_j30 jl1_30.toNatClampNeg)) (fun r55 =>
 (if (r55 + jl2_30) < (40 : Int32) then
 J_X9_shift_70 jl1_30 jl2_30 c_t_acts_j30 c_t_refused_j30 c_t_thrown_30 f_t_forms_j30
else
 obn2 (F_X9_no c_t_refused_j30) (fun r66 c_t_refused_66 =>
 some (r66, c_t_acts_j30, c_t_refused_66, c_t_thrown_30, f_t_forms_j30)))))))
else
 some ((0 : Int32), c_t_acts_j30, c_t_refused_j30, c_t_thrown_30, f_t_forms_j30)))
noncomputable def J_X9_shift_25 (jl1_25 : Int32) (jl2_25 : Int32) (js1_25 : Int32) (c_t_acts_j25 : Int32) (c_t_refused_j25 : Int32) (c_t_thrown_j25 : Int32) (f_t_forms_j25 : Nat → Int64) : Option (Int32 × Int32 × Int32 × Int32 × (Nat → Int64)) :=
 J_X9_shift_30 jl1_25 jl2_25 js1_25 (1 : Int32) c_t_acts_j25 c_t_refused_j25 c_t_thrown_j25 f_t_forms_j25
noncomputable def J_X9_shift_13 (jl1_13 : Int32) (jl2_13 : Int32) (js1_13 : Int32) (c_t_acts_j13 : Int32) (c_t_refused_j13 : Int32) (c_t_thrown_j13 : Int32) (f_t_forms_j13 : Nat → Int64) : Option (Int32 × Int32 × Int32 × Int32 × (Nat → Int64)) :=
 (if jl2_13 ≤ (-40 : Int32) then
 J_X9_shift_25 jl1_13 jl2_13 js1_13 c_t_acts_j13 c_t_refused_j13 c_t_thrown_j13 f_t_forms_j13
else
 (if jl2_13 < (40 : Int32) then
 J_X9_shift_30 jl1_13 jl2_13 js1_13 (0 : Int32) c_t_acts_j13 c_t_refused_j13 c_t_thrown_j13 f_t_forms_j13
else
 J_X9_shift_25 jl1_13 jl2_13 js1_13 c_t_acts_j13 c_t_refused_j13 c_t_thrown_j13 f_t_forms_j13))
noncomputable def F_X9_shift (c_t_acts : Int32) (c_t_refused : Int32) (c_t_thrown : Int32) (f_t_forms : Nat → Int64) (p0 : Int32) (p1 : Int32) : Option (Int32 × Int32 × Int32 × Int32 × (Nat → Int64)) :=
 obn (F_X9_isForm p0) (fun r2 =>
 (if r2 = 0 then
 J_X9_shift_13 p0 p1 (1 : Int32) c_t_acts c_t_refused c_t_thrown f_t_forms
else
 J_X9_shift_13 p0 p1 (0 : Int32) c_t_acts c_t_refused c_t_thrown f_t_forms))
set_option maxHeartbeats 4000000 in
set_option maxRecDepth 100000 in
theorem c_X9_shift (l : Launch) (D : va_G) (cyJ : ClassId) (sz : Nat) (a_t : Nat) (a_t_forms : Nat) (a_t_roll : Nat) (c_t_many : Int32) (c_t_taps : Int64) (c_t_cells : Int32) (c_t_acts : Int32) (c_t_refused : Int32) (c_t_knocks : Int32) (c_t_thrown : Int32) (f_t_forms : Nat → Int64) (p0 : Int32) (p1 : Int32) (r0 : Int32) (o_c_t_acts : Int32) (o_c_t_refused : Int32) (o_c_t_thrown : Int32) (o_f_t_forms : Nat → Int64) (hF : F_X9_shift c_t_acts c_t_refused c_t_thrown f_t_forms p0 p1 = some (r0, o_c_t_acts, o_c_t_refused, o_c_t_thrown, o_f_t_forms)) : Met l yX9_shift wsX9_shift rmX9_shift (va_Pc [.ref a_t, .int p0, .int p1] (wPD D [(cyJ, .long)] [(a_t, .inr (8, [.ref a_t_forms, .ref a_t_roll, .int c_t_many, .long c_t_taps, .int c_t_cells, .int c_t_acts, .int c_t_refused, .int c_t_knocks, .int c_t_thrown])), (a_t_forms, .inl (cyJ, 6, .inr (.inl f_t_forms)))] sz)) (va_Qi (fun (r : Int32) (_ : Unit) => r = r0) (fun _ t => wQA D [(a_t, .inr (8, [.ref a_t_forms, .ref a_t_roll, .int c_t_many, .long c_t_taps, .int c_t_cells, .int o_c_t_acts, .int o_c_t_refused, .int c_t_knocks, .int o_c_t_thrown])), (a_t_forms, .inl (cyJ, 6, .inr (.inl o_f_t_forms)))] (va_A [(a_t, .inr (8, [.ref a_t_forms, .ref a_t_roll, .int c_t_many, .long c_t_taps, .int c_t_cells, .int c_t_acts, .int c_t_refused, .int c_t_knocks, .int c_t_thrown])), (a_t_forms, .inl (cyJ, 6, .inr (.inl f_t_forms)))] sz) t) (va_A [(a_t, .inr (8, [.ref a_t_forms, .ref a_t_roll, .int c_t_many, .long c_t_taps, .int c_t_cells, .int c_t_acts, .int c_t_refused, .int c_t_knocks, .int c_t_thrown])), (a_t_forms, .inl (cyJ, 6, .inr (.inl f_t_forms)))] sz)) 0 0 (va_A [(a_t, .inr (8, [.ref a_t_forms, .ref a_t_roll, .int c_t_many, .long c_t_taps, .int c_t_cells, .int c_t_acts, .int c_t_refused, .int c_t_knocks, .int c_t_thrown])), (a_t_forms, .inl (cyJ, 6, .inr (.inl f_t_forms)))] sz) := by
  refine Met.ofW (cc := cX9_shift) (maxL := 3) (ret := (some .int)) (by decide) rfl ?_
  intro p e s m args below meth c s₁ B hml hv
  obtain ⟨rfl, hsz, hP, hK, hD0, hnw⟩ := hv
  have hx := B.exec
  have hb := B.bytes
  have hr := B.returns
  have hts := atoms_spec (ws := wsX9_shift) B.pre
  have hown : s.vm.findClass RX9 = some m.cls := findClass_of_methodNamed B.named
  have hlocks := B.notSynchronized
  have hcf : CallFix _ _ _ _ _ _ _ _ _ := ⟨hx, hb, hml, hown, hts⟩
  have hinX9 : ∀ w ∈ u_ws RX9 TX9 9, w ∈ wsX9_shift := by decide +kernel
  have hfl9 := hts (.fieldLink RX9 9 "FormwheelModel" "forms" "[J") (by decide +kernel)
  subst hsz
  have hD := hD0.self (sz := s.heap.size)
  generalize hAe : va_A [(a_t, .inr (8, [.ref a_t_forms, .ref a_t_roll, .int c_t_many, .long c_t_taps, .int c_t_cells, .int c_t_acts, .int c_t_refused, .int c_t_knocks, .int c_t_thrown])), (a_t_forms, .inl (cyJ, 6, .inr (.inl f_t_forms)))] s.heap.size = A at hD ⊢
  have hA : ∀ q : Nat, s.heap.size ≤ q → A q := fun q h => by rw [← hAe]; exact Or.inr h
  have hS : va_S A s.heap s.heap [] := va_S.rf
  have hP : va_P D vwCl [(a_t, .inr (8, [.ref a_t_forms, .ref a_t_roll, .int c_t_many, .long c_t_taps, .int c_t_cells, .int c_t_acts, .int c_t_refused, .int c_t_knocks, .int c_t_thrown])), (a_t_forms, .inl (cyJ, 6, .inr (.inl f_t_forms)))] s.heap := hP
  have hK0 := hK
  have hl := lv_entry ([.ref a_t, .int p0, .int p1]) (n := 3) (Nat.le_of_ble_eq_true rfl)
  rw [lg_entry_eq]
  generalize (lg_sl ([.ref a_t, .int p0, .int p1]) ++ List.replicate (3 - (lg_sl ([.ref a_t, .int p0, .int p1])).length) Slot.unset).toArray = ls at hl ⊢
  have hl : lv_has ls 3 [(0, .ref a_t), (1, .int p0), (2, .int p1)] := hl
  have h := hF
  clear hF
  unfold F_X9_shift at h
  have hj70 : ∀ (c_t_acts_j70 : Int32) (c_t_refused_j70 : Int32) (c_t_thrown_j70 : Int32) (f_t_forms_j70 : Nat → Int64), J_X9_shift_70 p0 p1 c_t_acts_j70 c_t_refused_j70 c_t_thrown_j70 f_t_forms_j70 = some (r0, o_c_t_acts, o_c_t_refused, o_c_t_thrown, o_f_t_forms) → ∀ (H : Heap) (locs : List Loc), va_P D vwCl [(a_t, .inr (8, [.ref a_t_forms, .ref a_t_roll, .int c_t_many, .long c_t_taps, .int c_t_cells, .int c_t_acts_j70, .int c_t_refused_j70, .int c_t_knocks, .int c_t_thrown_j70])), (a_t_forms, .inl (cyJ, 6, .inr (.inl f_t_forms_j70)))] H → va_D A [(a_t, .inr (8, [.ref a_t_forms, .ref a_t_roll, .int c_t_many, .long c_t_taps, .int c_t_cells, .int c_t_acts_j70, .int c_t_refused_j70, .int c_t_knocks, .int c_t_thrown_j70])), (a_t_forms, .inl (cyJ, 6, .inr (.inl f_t_forms_j70)))] → va_S A s.heap H locs → ∀ (ls : Array Slot), lv_has ls 3 [(0, .ref a_t), (1, .int p0), (2, .int p1)] → W p l e rmX9_shift s m ([.ref a_t, .int p0, .int p1] : List Value).toArray below meth c H locs 0 0 (MQ below (va_Qi (fun (r : Int32) (_ : Unit) => r = r0) (fun _ t => wQA D [(a_t, .inr (8, [.ref a_t_forms, .ref a_t_roll, .int c_t_many, .long c_t_taps, .int c_t_cells, .int o_c_t_acts, .int o_c_t_refused, .int c_t_knocks, .int o_c_t_thrown])), (a_t_forms, .inl (cyJ, 6, .inr (.inl o_f_t_forms)))] A t) A) ([.ref a_t, .int p0, .int p1] : List Value).toArray s 0 0 A) (F0 m 70 ls []) := by
    intro c_t_acts_j70 c_t_refused_j70 c_t_thrown_j70 f_t_forms_j70 h H locs hP hD hS ls hl
    unfold J_X9_shift_70 at h
    refine lv_aload_n hx hb dX9_shift_70 rfl (lv_at hl 0 rfl) ?_
    refine lv_iload_n hx hb dX9_shift_71 rfl (lv_at hl 1 rfl) ?_
    refine lv_iload_n hx hb dX9_shift_72 rfl (lv_at hl 2 rfl) ?_
    refine lv_if_ge (tgt := 88) hx hb dX9_shift_73 (by decide) (fun c73 => ?_) (fun c73 => ?_)
    · have h := it_ c73 h
      refine lv_aload_n hx hb dX9_shift_88 rfl (lv_at hl 0 rfl) ?_
      refine va_get (D := D) (ci := 8) (v := .ref a_t_forms) (C := RX9) (T := TX9) (N := 9) hx hb hts hinX9 hown hK hP 0 rfl rfl 0 (by decide) hfl9 (fun _ h9 => h9) rfl dX9_shift_89 ?_
      refine lv_iload_n hx hb dX9_shift_92 rfl (lv_at hl 1 rfl) ?_
      obtain ⟨hq93, h⟩ := chk_h h
      refine va_lald hx hb hK hP 1 0 rfl rfl hq93 dX9_shift_93 ?_
      refine lv_iload_n hx hb dX9_shift_94 rfl (lv_at hl 2 rfl) ?_
      refine lv_lshl (v := (f_t_forms_j70 p0.toNatClampNeg) <<< (p1.toInt64 &&& 63)) hx hb dX9_shift_95 rfl ?_
      obtain ⟨r96, c_t_acts_96, f_t_forms_96, hc96, h⟩ := obn3_h h
      have hPc := hP.sub (ws' := [(a_t, .inr (8, [.ref a_t_forms, .ref a_t_roll, .int c_t_many, .long c_t_taps, .int c_t_cells, .int c_t_acts_j70, .int c_t_refused_j70, .int c_t_knocks, .int c_t_thrown_j70])), (a_t_forms, .inl (cyJ, 6, .inr (.inl f_t_forms_j70)))]) [0, 1] rfl
      have hDc := hD.sub (ws' := [(a_t, .inr (8, [.ref a_t_forms, .ref a_t_roll, .int c_t_many, .long c_t_taps, .int c_t_cells, .int c_t_acts_j70, .int c_t_refused_j70, .int c_t_knocks, .int c_t_thrown_j70])), (a_t_forms, .inl (cyJ, 6, .inr (.inl f_t_forms_j70)))]) [0, 1] (by decide) rfl
      refine hp_i (w1 := [(a_t, .inr (8, [.ref a_t_forms, .ref a_t_roll, .int c_t_many, .long c_t_taps, .int c_t_cells, .int c_t_acts_96, .int c_t_refused_j70, .int c_t_knocks, .int c_t_thrown_j70])), (a_t_forms, .inl (cyJ, 6, .inr (.inl f_t_forms_96)))]) (wr := []) (va_runV (As := [.int p0, .long ((f_t_forms_j70 p0.toNatClampNeg) <<< (p1.toInt64 &&& 63))]) (rest := []) hcf (c_X9_give l D cyJ H.size a_t a_t_forms a_t_roll c_t_many c_t_taps c_t_cells c_t_acts_j70 c_t_refused_j70 c_t_knocks c_t_thrown_j70 f_t_forms_j70 p0 ((f_t_forms_j70 p0.toNatClampNeg) <<< (p1.toInt64 &&& 63)) r96 c_t_acts_96 f_t_forms_96 hc96) (cwV 2 hts gX9_shift_X9_give rfl rfl rfl ydX9_give ⟨Nat.le_of_ble_eq_true rfl, Nat.le_of_ble_eq_true rfl⟩) ⟨bl_PD, va_recv hK hP (ci := 8) (q0 := 0) rfl rfl, pr_PD hPc hK0 hDc hnw⟩ rfl rfl hl.1 rfl (lv_room (Nat.le_of_ble_eq_true rfl)) dX9_shift_96 ⟨Nat.le_of_ble_eq_true rfl, Nat.le_of_ble_eq_true rfl⟩) hP hD hS hA [0, 1] [] rfl rfl (by decide) (by decide) (fun H locs hP hD hS => ?_)
      have hP : va_P D vwCl [(a_t, .inr (8, [.ref a_t_forms, .ref a_t_roll, .int c_t_many, .long c_t_taps, .int c_t_cells, .int c_t_acts_96, .int c_t_refused_j70, .int c_t_knocks, .int c_t_thrown_j70])), (a_t_forms, .inl (cyJ, 6, .inr (.inl f_t_forms_96)))] H := hP
      have hD : va_D A [(a_t, .inr (8, [.ref a_t_forms, .ref a_t_roll, .int c_t_many, .long c_t_taps, .int c_t_cells, .int c_t_acts_96, .int c_t_refused_j70, .int c_t_knocks, .int c_t_thrown_j70])), (a_t_forms, .inl (cyJ, 6, .inr (.inl f_t_forms_96)))] := hD
      obtain ⟨e0, e1, e2, e3, e4⟩ := tup5 h
      subst e0
      subst e1
      subst e2
      subst e3
      subst e4
      have hP9 : va_P D vwCl [(a_t, .inr (8, [.ref a_t_forms, .ref a_t_roll, .int c_t_many, .long c_t_taps, .int c_t_cells, .int c_t_acts_96, .int c_t_refused_j70, .int c_t_knocks, .int c_t_thrown_j70])), (a_t_forms, .inl (cyJ, 6, .inr (.inl f_t_forms_96)))] H := hP.sub [0, 1] rfl
      have hD9 : va_D A [(a_t, .inr (8, [.ref a_t_forms, .ref a_t_roll, .int c_t_many, .long c_t_taps, .int c_t_cells, .int c_t_acts_96, .int c_t_refused_j70, .int c_t_knocks, .int c_t_thrown_j70])), (a_t_forms, .inl (cyJ, 6, .inr (.inl f_t_forms_96)))] := hD.sub [0, 1] (by decide) rfl
      exact W.iret hx hb hr (fun t ht hW => ⟨⟨_, (), rfl, rfl, wQA_of ht hP9 hD9⟩, hS.F ht⟩) hS.2.2 dX9_shift_99
    · have h := if_ c73 h
      refine lv_aload_n hx hb dX9_shift_76 rfl (lv_at hl 0 rfl) ?_
      refine va_get (D := D) (ci := 8) (v := .ref a_t_forms) (C := RX9) (T := TX9) (N := 9) hx hb hts hinX9 hown hK hP 0 rfl rfl 0 (by decide) hfl9 (fun _ h9 => h9) rfl dX9_shift_77 ?_
      refine lv_iload_n hx hb dX9_shift_80 rfl (lv_at hl 1 rfl) ?_
      obtain ⟨hq81, h⟩ := chk_h h
      refine va_lald hx hb hK hP 1 0 rfl rfl hq81 dX9_shift_81 ?_
      refine lv_iload_n hx hb dX9_shift_82 rfl (lv_at hl 2 rfl) ?_
      refine lv_ineg hx hb dX9_shift_83 ?_
      refine lv_lshr (v := (f_t_forms_j70 p0.toNatClampNeg) >>> ((-p1).toInt64 &&& 63)) hx hb dX9_shift_84 rfl ?_
      refine lv_goto (tgt := 96) hx hb dX9_shift_85 (by decide) ?_
      obtain ⟨r96, c_t_acts_96, f_t_forms_96, hc96, h⟩ := obn3_h h
      have hPc := hP.sub (ws' := [(a_t, .inr (8, [.ref a_t_forms, .ref a_t_roll, .int c_t_many, .long c_t_taps, .int c_t_cells, .int c_t_acts_j70, .int c_t_refused_j70, .int c_t_knocks, .int c_t_thrown_j70])), (a_t_forms, .inl (cyJ, 6, .inr (.inl f_t_forms_j70)))]) [0, 1] rfl
      have hDc := hD.sub (ws' := [(a_t, .inr (8, [.ref a_t_forms, .ref a_t_roll, .int c_t_many, .long c_t_taps, .int c_t_cells, .int c_t_acts_j70, .int c_t_refused_j70, .int c_t_knocks, .int c_t_thrown_j70])), (a_t_forms, .inl (cyJ, 6, .inr (.inl f_t_forms_j70)))]) [0, 1] (by decide) rfl
      refine hp_i (w1 := [(a_t, .inr (8, [.ref a_t_forms, .ref a_t_roll, .int c_t_many, .long c_t_taps, .int c_t_cells, .int c_t_acts_96, .int c_t_refused_j70, .int c_t_knocks, .int c_t_thrown_j70])), (a_t_forms, .inl (cyJ, 6, .inr (.inl f_t_forms_96)))]) (wr := []) (va_runV (As := [.int p0, .long ((f_t_forms_j70 p0.toNatClampNeg) >>> ((-p1).toInt64 &&& 63))]) (rest := []) hcf (c_X9_give l D cyJ H.size a_t a_t_forms a_t_roll c_t_many c_t_taps c_t_cells c_t_acts_j70 c_t_refused_j70 c_t_knocks c_t_thrown_j70 f_t_forms_j70 p0 ((f_t_forms_j70 p0.toNatClampNeg) >>> ((-p1).toInt64 &&& 63)) r96 c_t_acts_96 f_t_forms_96 hc96) (cwV 2 hts gX9_shift_X9_give rfl rfl rfl ydX9_give ⟨Nat.le_of_ble_eq_true rfl, Nat.le_of_ble_eq_true rfl⟩) ⟨bl_PD, va_recv hK hP (ci := 8) (q0 := 0) rfl rfl, pr_PD hPc hK0 hDc hnw⟩ rfl rfl hl.1 rfl (lv_room (Nat.le_of_ble_eq_true rfl)) dX9_shift_96 ⟨Nat.le_of_ble_eq_true rfl, Nat.le_of_ble_eq_true rfl⟩) hP hD hS hA [0, 1] [] rfl rfl (by decide) (by decide) (fun H locs hP hD hS => ?_)
      have hP : va_P D vwCl [(a_t, .inr (8, [.ref a_t_forms, .ref a_t_roll, .int c_t_many, .long c_t_taps, .int c_t_cells, .int c_t_acts_96, .int c_t_refused_j70, .int c_t_knocks, .int c_t_thrown_j70])), (a_t_forms, .inl (cyJ, 6, .inr (.inl f_t_forms_96)))] H := hP
      have hD : va_D A [(a_t, .inr (8, [.ref a_t_forms, .ref a_t_roll, .int c_t_many, .long c_t_taps, .int c_t_cells, .int c_t_acts_96, .int c_t_refused_j70, .int c_t_knocks, .int c_t_thrown_j70])), (a_t_forms, .inl (cyJ, 6, .inr (.inl f_t_forms_96)))] := hD
      obtain ⟨e0, e1, e2, e3, e4⟩ := tup5 h
      subst e0
      subst e1
      subst e2
      subst e3
      subst e4
      have hP9 : va_P D vwCl [(a_t, .inr (8, [.ref a_t_forms, .ref a_t_roll, .int c_t_many, .long c_t_taps, .int c_t_cells, .int c_t_acts_96, .int c_t_refused_j70, .int c_t_knocks, .int c_t_thrown_j70])), (a_t_forms, .inl (cyJ, 6, .inr (.inl f_t_forms_96)))] H := hP.sub [0, 1] rfl
      have hD9 : va_D A [(a_t, .inr (8, [.ref a_t_forms, .ref a_t_roll, .int c_t_many, .long c_t_taps, .int c_t_cells, .int c_t_acts_96, .int c_t_refused_j70, .int c_t_knocks, .int c_t_thrown_j70])), (a_t_forms, .inl (cyJ, 6, .inr (.inl f_t_forms_96)))] := hD.sub [0, 1] (by decide) rfl
      exact W.iret hx hb hr (fun t ht hW => ⟨⟨_, (), rfl, rfl, wQA_of ht hP9 hD9⟩, hS.F ht⟩) hS.2.2 dX9_shift_99
  have hj30 : ∀ (js1_30 : Int32) (js2_30 : Int32) (c_t_acts_j30 : Int32) (c_t_refused_j30 : Int32) (c_t_thrown_j30 : Int32) (f_t_forms_j30 : Nat → Int64), J_X9_shift_30 p0 p1 js1_30 js2_30 c_t_acts_j30 c_t_refused_j30 c_t_thrown_j30 f_t_forms_j30 = some (r0, o_c_t_acts, o_c_t_refused, o_c_t_thrown, o_f_t_forms) → ∀ (H : Heap) (locs : List Loc), va_P D vwCl [(a_t, .inr (8, [.ref a_t_forms, .ref a_t_roll, .int c_t_many, .long c_t_taps, .int c_t_cells, .int c_t_acts_j30, .int c_t_refused_j30, .int c_t_knocks, .int c_t_thrown_j30])), (a_t_forms, .inl (cyJ, 6, .inr (.inl f_t_forms_j30)))] H → va_D A [(a_t, .inr (8, [.ref a_t_forms, .ref a_t_roll, .int c_t_many, .long c_t_taps, .int c_t_cells, .int c_t_acts_j30, .int c_t_refused_j30, .int c_t_knocks, .int c_t_thrown_j30])), (a_t_forms, .inl (cyJ, 6, .inr (.inl f_t_forms_j30)))] → va_S A s.heap H locs → ∀ (ls : Array Slot), lv_has ls 3 [(0, .ref a_t), (1, .int p0), (2, .int p1)] → W p l e rmX9_shift s m ([.ref a_t, .int p0, .int p1] : List Value).toArray below meth c H locs 0 0 (MQ below (va_Qi (fun (r : Int32) (_ : Unit) => r = r0) (fun _ t => wQA D [(a_t, .inr (8, [.ref a_t_forms, .ref a_t_roll, .int c_t_many, .long c_t_taps, .int c_t_cells, .int o_c_t_acts, .int o_c_t_refused, .int c_t_knocks, .int o_c_t_thrown])), (a_t_forms, .inl (cyJ, 6, .inr (.inl o_f_t_forms)))] A t) A) ([.ref a_t, .int p0, .int p1] : List Value).toArray s 0 0 A) (F0 m 30 ls [.int js2_30, .int js1_30, .ref a_t]) := by
    intro js1_30 js2_30 c_t_acts_j30 c_t_refused_j30 c_t_thrown_j30 f_t_forms_j30 h H locs hP hD hS ls hl
    unfold J_X9_shift_30 at h
    obtain ⟨r30, c_t_thrown_30, hc30, h⟩ := obn2_h h
    have hPc := hP.sub (ws' := [(a_t, .inr (8, [.ref a_t_forms, .ref a_t_roll, .int c_t_many, .long c_t_taps, .int c_t_cells, .int c_t_acts_j30, .int c_t_refused_j30, .int c_t_knocks, .int c_t_thrown_j30]))]) [0] rfl
    have hDc := hD.sub (ws' := [(a_t, .inr (8, [.ref a_t_forms, .ref a_t_roll, .int c_t_many, .long c_t_taps, .int c_t_cells, .int c_t_acts_j30, .int c_t_refused_j30, .int c_t_knocks, .int c_t_thrown_j30]))]) [0] (by decide) rfl
    refine hp_i (w1 := [(a_t, .inr (8, [.ref a_t_forms, .ref a_t_roll, .int c_t_many, .long c_t_taps, .int c_t_cells, .int c_t_acts_j30, .int c_t_refused_j30, .int c_t_knocks, .int c_t_thrown_30]))]) (wr := [(a_t_forms, .inl (cyJ, 6, .inr (.inl f_t_forms_j30)))]) (va_runV (As := [.int js1_30, .int js2_30]) (rest := []) hcf (c_X9_isThrown l D cyJ H.size a_t a_t_forms a_t_roll c_t_many c_t_taps c_t_cells c_t_acts_j30 c_t_refused_j30 c_t_knocks c_t_thrown_j30 js1_30 js2_30 r30 c_t_thrown_30 hc30) (cwV 2 hts gX9_shift_X9_isThrown rfl rfl rfl ydX9_isThrown ⟨Nat.le_of_ble_eq_true rfl, Nat.le_of_ble_eq_true rfl⟩) ⟨bl_PD, va_recv hK hP (ci := 8) (q0 := 0) rfl rfl, pr_PD hPc hK0 hDc hnw⟩ rfl rfl hl.1 rfl (lv_room (Nat.le_of_ble_eq_true rfl)) dX9_shift_30 ⟨Nat.le_of_ble_eq_true rfl, Nat.le_of_ble_eq_true rfl⟩) hP hD hS hA [0] [1] rfl rfl (by decide) (by decide) (fun H locs hP hD hS => ?_)
    have hP : va_P D vwCl [(a_t_forms, .inl (cyJ, 6, .inr (.inl f_t_forms_j30))), (a_t, .inr (8, [.ref a_t_forms, .ref a_t_roll, .int c_t_many, .long c_t_taps, .int c_t_cells, .int c_t_acts_j30, .int c_t_refused_j30, .int c_t_knocks, .int c_t_thrown_30]))] H := hP
    have hD : va_D A [(a_t_forms, .inl (cyJ, 6, .inr (.inl f_t_forms_j30))), (a_t, .inr (8, [.ref a_t_forms, .ref a_t_roll, .int c_t_many, .long c_t_taps, .int c_t_cells, .int c_t_acts_j30, .int c_t_refused_j30, .int c_t_knocks, .int c_t_thrown_30]))] := hD
    refine lv_if_eq (tgt := 38) hx hb dX9_shift_33 (by decide) (fun c33 => ?_) (fun c33 => ?_)
    · have h := it_ c33 h
      refine lv_aload_n hx hb dX9_shift_38 rfl (lv_at hl 0 rfl) ?_
      refine va_get (D := D) (ci := 8) (v := .ref a_t_forms) (C := RX9) (T := TX9) (N := 9) hx hb hts hinX9 hown hK hP 1 rfl rfl 0 (by decide) hfl9 (fun _ h9 => h9) rfl dX9_shift_39 ?_
      refine lv_iload_n hx hb dX9_shift_42 rfl (lv_at hl 1 rfl) ?_
      obtain ⟨hq43, h⟩ := chk_h h
      refine va_lald hx hb hK hP 0 0 rfl rfl hq43 dX9_shift_43 ?_
      refine lv_lconst (v := 0) hx hb dX9_shift_44 (by decide) ?_
      refine W.lcmp hx hb dX9_shift_45 ?_
      refine lv_if_eq (tgt := 70) hx hb dX9_shift_46 (by decide) (fun c46 => ?_) (fun c46 => ?_)
      · have c46 := (lg_cmp_eq _ _).mp c46
        have h := it_ c46 h
        exact hj70 c_t_acts_j30 c_t_refused_j30 c_t_thrown_30 f_t_forms_j30 h _ _ (hP.sub [1, 0] rfl) (hD.sub [1, 0] (by decide) rfl) hS ls (lv_sub hl [0, 1, 2] rfl)
      · have c46 := fun z => c46 ((lg_cmp_eq _ _).mpr z)
        have h := if_ c46 h
        refine lv_aload_n hx hb dX9_shift_49 rfl (lv_at hl 0 rfl) ?_
        refine va_get (D := D) (ci := 8) (v := .ref a_t_forms) (C := RX9) (T := TX9) (N := 9) hx hb hts hinX9 hown hK hP 1 rfl rfl 0 (by decide) hfl9 (fun _ h9 => h9) rfl dX9_shift_50 ?_
        refine lv_iload_n hx hb dX9_shift_53 rfl (lv_at hl 1 rfl) ?_
        obtain ⟨hq54, h⟩ := chk_h h
        refine va_lald hx hb hK hP 0 0 rfl rfl hq54 dX9_shift_54 ?_
        obtain ⟨r55, hc55, h⟩ := obn_h h
        refine pz_callS (As := [.long (f_t_forms_j30 p0.toNatClampNeg)]) (rest := []) hcf (c_X9_degreeOf l (f_t_forms_j30 p0.toNatClampNeg) r55 hc55) (va_cwS 1 hts gX9_shift_X9_degreeOf rfl rfl rfl ydX9_degreeOf ⟨Nat.le_of_ble_eq_true rfl, Nat.le_of_ble_eq_true rfl⟩) hnw rfl hl.1 rfl (Nat.le_of_ble_eq_true rfl) dX9_shift_55 ⟨Nat.le_of_ble_eq_true rfl, Nat.le_of_ble_eq_true rfl⟩ ?_
        refine lv_iload_n hx hb dX9_shift_58 rfl (lv_at hl 2 rfl) ?_
        refine lv_iadd hx hb dX9_shift_59 ?_
        refine lv_bipush (v := 40) hx hb dX9_shift_60 (by decide) ?_
        refine lv_icmp_lt (tgt := 70) hx hb dX9_shift_62 (by decide) (fun c62 => ?_) (fun c62 => ?_)
        · have h := it_ c62 h
          exact hj70 c_t_acts_j30 c_t_refused_j30 c_t_thrown_30 f_t_forms_j30 h _ _ (hP.sub [1, 0] rfl) (hD.sub [1, 0] (by decide) rfl) hS ls (lv_sub hl [0, 1, 2] rfl)
        · have h := if_ c62 h
          refine lv_aload_n hx hb dX9_shift_65 rfl (lv_at hl 0 rfl) ?_
          obtain ⟨r66, c_t_refused_66, hc66, h⟩ := obn2_h h
          have hPc := hP.sub (ws' := [(a_t, .inr (8, [.ref a_t_forms, .ref a_t_roll, .int c_t_many, .long c_t_taps, .int c_t_cells, .int c_t_acts_j30, .int c_t_refused_j30, .int c_t_knocks, .int c_t_thrown_30]))]) [1] rfl
          have hDc := hD.sub (ws' := [(a_t, .inr (8, [.ref a_t_forms, .ref a_t_roll, .int c_t_many, .long c_t_taps, .int c_t_cells, .int c_t_acts_j30, .int c_t_refused_j30, .int c_t_knocks, .int c_t_thrown_30]))]) [1] (by decide) rfl
          refine hp_i (w1 := [(a_t, .inr (8, [.ref a_t_forms, .ref a_t_roll, .int c_t_many, .long c_t_taps, .int c_t_cells, .int c_t_acts_j30, .int c_t_refused_66, .int c_t_knocks, .int c_t_thrown_30]))]) (wr := [(a_t_forms, .inl (cyJ, 6, .inr (.inl f_t_forms_j30)))]) (va_runV (As := []) (rest := []) hcf (c_X9_no l D cyJ H.size a_t a_t_forms a_t_roll c_t_many c_t_taps c_t_cells c_t_acts_j30 c_t_refused_j30 c_t_knocks c_t_thrown_30 r66 c_t_refused_66 hc66) (cwV 0 hts gX9_shift_X9_no rfl rfl rfl ydX9_no ⟨Nat.le_of_ble_eq_true rfl, Nat.le_of_ble_eq_true rfl⟩) ⟨bl_PD, va_recv hK hP (ci := 8) (q0 := 1) rfl rfl, pr_PD hPc hK0 hDc hnw⟩ rfl rfl hl.1 rfl (lv_room (Nat.le_of_ble_eq_true rfl)) dX9_shift_66 ⟨Nat.le_of_ble_eq_true rfl, Nat.le_of_ble_eq_true rfl⟩) hP hD hS hA [1] [0] rfl rfl (by decide) (by decide) (fun H locs hP hD hS => ?_)
          have hP : va_P D vwCl [(a_t_forms, .inl (cyJ, 6, .inr (.inl f_t_forms_j30))), (a_t, .inr (8, [.ref a_t_forms, .ref a_t_roll, .int c_t_many, .long c_t_taps, .int c_t_cells, .int c_t_acts_j30, .int c_t_refused_66, .int c_t_knocks, .int c_t_thrown_30]))] H := hP
          have hD : va_D A [(a_t_forms, .inl (cyJ, 6, .inr (.inl f_t_forms_j30))), (a_t, .inr (8, [.ref a_t_forms, .ref a_t_roll, .int c_t_many, .long c_t_taps, .int c_t_cells, .int c_t_acts_j30, .int c_t_refused_66, .int c_t_knocks, .int c_t_thrown_30]))] := hD
          obtain ⟨e0, e1, e2, e3, e4⟩ := tup5 h
          subst e0
          subst e1
          subst e2
          subst e3
          subst e4
          have hP9 : va_P D vwCl [(a_t, .inr (8, [.ref a_t_forms, .ref a_t_roll, .int c_t_many, .long c_t_taps, .int c_t_cells, .int c_t_acts_j30, .int c_t_refused_66, .int c_t_knocks, .int c_t_thrown_30])), (a_t_forms, .inl (cyJ, 6, .inr (.inl f_t_forms_j30)))] H := hP.sub [1, 0] rfl
          have hD9 : va_D A [(a_t, .inr (8, [.ref a_t_forms, .ref a_t_roll, .int c_t_many, .long c_t_taps, .int c_t_cells, .int c_t_acts_j30, .int c_t_refused_66, .int c_t_knocks, .int c_t_thrown_30])), (a_t_forms, .inl (cyJ, 6, .inr (.inl f_t_forms_j30)))] := hD.sub [1, 0] (by decide) rfl
          exact W.iret hx hb hr (fun t ht hW => ⟨⟨_, (), rfl, rfl, wQA_of ht hP9 hD9⟩, hS.F ht⟩) hS.2.2 dX9_shift_69
    · have h := if_ c33 h
      refine lv_iconst (v := 0) hx hb dX9_shift_36 (by decide) ?_
      obtain ⟨e0, e1, e2, e3, e4⟩ := tup5 h
      subst e0
      subst e1
      subst e2
      subst e3
      subst e4
      have hP9 : va_P D vwCl [(a_t, .inr (8, [.ref a_t_forms, .ref a_t_roll, .int c_t_many, .long c_t_taps, .int c_t_cells, .int c_t_acts_j30, .int c_t_refused_j30, .int c_t_knocks, .int c_t_thrown_30])), (a_t_forms, .inl (cyJ, 6, .inr (.inl f_t_forms_j30)))] H := hP.sub [1, 0] rfl
      have hD9 : va_D A [(a_t, .inr (8, [.ref a_t_forms, .ref a_t_roll, .int c_t_many, .long c_t_taps, .int c_t_cells, .int c_t_acts_j30, .int c_t_refused_j30, .int c_t_knocks, .int c_t_thrown_30])), (a_t_forms, .inl (cyJ, 6, .inr (.inl f_t_forms_j30)))] := hD.sub [1, 0] (by decide) rfl
      exact W.iret hx hb hr (fun t ht hW => ⟨⟨_, (), rfl, rfl, wQA_of ht hP9 hD9⟩, hS.F ht⟩) hS.2.2 dX9_shift_37
  have hj25 : ∀ (js1_25 : Int32) (c_t_acts_j25 : Int32) (c_t_refused_j25 : Int32) (c_t_thrown_j25 : Int32) (f_t_forms_j25 : Nat → Int64), J_X9_shift_25 p0 p1 js1_25 c_t_acts_j25 c_t_refused_j25 c_t_thrown_j25 f_t_forms_j25 = some (r0, o_c_t_acts, o_c_t_refused, o_c_t_thrown, o_f_t_forms) → ∀ (H : Heap) (locs : List Loc), va_P D vwCl [(a_t, .inr (8, [.ref a_t_forms, .ref a_t_roll, .int c_t_many, .long c_t_taps, .int c_t_cells, .int c_t_acts_j25, .int c_t_refused_j25, .int c_t_knocks, .int c_t_thrown_j25])), (a_t_forms, .inl (cyJ, 6, .inr (.inl f_t_forms_j25)))] H → va_D A [(a_t, .inr (8, [.ref a_t_forms, .ref a_t_roll, .int c_t_many, .long c_t_taps, .int c_t_cells, .int c_t_acts_j25, .int c_t_refused_j25, .int c_t_knocks, .int c_t_thrown_j25])), (a_t_forms, .inl (cyJ, 6, .inr (.inl f_t_forms_j25)))] → va_S A s.heap H locs → ∀ (ls : Array Slot), lv_has ls 3 [(0, .ref a_t), (1, .int p0), (2, .int p1)] → W p l e rmX9_shift s m ([.ref a_t, .int p0, .int p1] : List Value).toArray below meth c H locs 0 0 (MQ below (va_Qi (fun (r : Int32) (_ : Unit) => r = r0) (fun _ t => wQA D [(a_t, .inr (8, [.ref a_t_forms, .ref a_t_roll, .int c_t_many, .long c_t_taps, .int c_t_cells, .int o_c_t_acts, .int o_c_t_refused, .int c_t_knocks, .int o_c_t_thrown])), (a_t_forms, .inl (cyJ, 6, .inr (.inl o_f_t_forms)))] A t) A) ([.ref a_t, .int p0, .int p1] : List Value).toArray s 0 0 A) (F0 m 25 ls [.int js1_25, .ref a_t]) := by
    intro js1_25 c_t_acts_j25 c_t_refused_j25 c_t_thrown_j25 f_t_forms_j25 h H locs hP hD hS ls hl
    unfold J_X9_shift_25 at h
    refine lv_iconst (v := 1) hx hb dX9_shift_25 (by decide) ?_
    refine lv_goto (tgt := 30) hx hb dX9_shift_26 (by decide) ?_
    exact hj30 js1_25 (1 : Int32) c_t_acts_j25 c_t_refused_j25 c_t_thrown_j25 f_t_forms_j25 h _ _ (hP.sub [0, 1] rfl) (hD.sub [0, 1] (by decide) rfl) hS ls (lv_sub hl [0, 1, 2] rfl)
  have hj13 : ∀ (js1_13 : Int32) (c_t_acts_j13 : Int32) (c_t_refused_j13 : Int32) (c_t_thrown_j13 : Int32) (f_t_forms_j13 : Nat → Int64), J_X9_shift_13 p0 p1 js1_13 c_t_acts_j13 c_t_refused_j13 c_t_thrown_j13 f_t_forms_j13 = some (r0, o_c_t_acts, o_c_t_refused, o_c_t_thrown, o_f_t_forms) → ∀ (H : Heap) (locs : List Loc), va_P D vwCl [(a_t, .inr (8, [.ref a_t_forms, .ref a_t_roll, .int c_t_many, .long c_t_taps, .int c_t_cells, .int c_t_acts_j13, .int c_t_refused_j13, .int c_t_knocks, .int c_t_thrown_j13])), (a_t_forms, .inl (cyJ, 6, .inr (.inl f_t_forms_j13)))] H → va_D A [(a_t, .inr (8, [.ref a_t_forms, .ref a_t_roll, .int c_t_many, .long c_t_taps, .int c_t_cells, .int c_t_acts_j13, .int c_t_refused_j13, .int c_t_knocks, .int c_t_thrown_j13])), (a_t_forms, .inl (cyJ, 6, .inr (.inl f_t_forms_j13)))] → va_S A s.heap H locs → ∀ (ls : Array Slot), lv_has ls 3 [(0, .ref a_t), (1, .int p0), (2, .int p1)] → W p l e rmX9_shift s m ([.ref a_t, .int p0, .int p1] : List Value).toArray below meth c H locs 0 0 (MQ below (va_Qi (fun (r : Int32) (_ : Unit) => r = r0) (fun _ t => wQA D [(a_t, .inr (8, [.ref a_t_forms, .ref a_t_roll, .int c_t_many, .long c_t_taps, .int c_t_cells, .int o_c_t_acts, .int o_c_t_refused, .int c_t_knocks, .int o_c_t_thrown])), (a_t_forms, .inl (cyJ, 6, .inr (.inl o_f_t_forms)))] A t) A) ([.ref a_t, .int p0, .int p1] : List Value).toArray s 0 0 A) (F0 m 13 ls [.int js1_13, .ref a_t]) := by
    intro js1_13 c_t_acts_j13 c_t_refused_j13 c_t_thrown_j13 f_t_forms_j13 h H locs hP hD hS ls hl
    unfold J_X9_shift_13 at h
    refine lv_iload_n hx hb dX9_shift_13 rfl (lv_at hl 2 rfl) ?_
    refine lv_bipush (v := -40) hx hb dX9_shift_14 (by decide) ?_
    refine lv_icmp_le (tgt := 25) hx hb dX9_shift_16 (by decide) (fun c16 => ?_) (fun c16 => ?_)
    · have h := it_ c16 h
      exact hj25 js1_13 c_t_acts_j13 c_t_refused_j13 c_t_thrown_j13 f_t_forms_j13 h _ _ (hP.sub [0, 1] rfl) (hD.sub [0, 1] (by decide) rfl) hS ls (lv_sub hl [0, 1, 2] rfl)
    · have h := if_ c16 h
      refine lv_iload_n hx hb dX9_shift_19 rfl (lv_at hl 2 rfl) ?_
      refine lv_bipush (v := 40) hx hb dX9_shift_20 (by decide) ?_
      refine lv_icmp_lt (tgt := 29) hx hb dX9_shift_22 (by decide) (fun c22 => ?_) (fun c22 => ?_)
      · have h := it_ c22 h
        refine lv_iconst (v := 0) hx hb dX9_shift_29 (by decide) ?_
        exact hj30 js1_13 (0 : Int32) c_t_acts_j13 c_t_refused_j13 c_t_thrown_j13 f_t_forms_j13 h _ _ (hP.sub [0, 1] rfl) (hD.sub [0, 1] (by decide) rfl) hS ls (lv_sub hl [0, 1, 2] rfl)
      · have h := if_ c22 h
        exact hj25 js1_13 c_t_acts_j13 c_t_refused_j13 c_t_thrown_j13 f_t_forms_j13 h _ _ (hP.sub [0, 1] rfl) (hD.sub [0, 1] (by decide) rfl) hS ls (lv_sub hl [0, 1, 2] rfl)
  refine lv_aload_n hx hb dX9_shift_0 rfl (lv_at hl 0 rfl) ?_
  refine lv_iload_n hx hb dX9_shift_1 rfl (lv_at hl 1 rfl) ?_
  obtain ⟨r2, hc2, h⟩ := obn_h h
  refine pz_callS (As := [.int p0]) (rest := [.ref a_t]) hcf (c_X9_isForm l p0 r2 hc2) (va_cwS 1 hts gX9_shift_X9_isForm rfl rfl rfl ydX9_isForm ⟨Nat.le_of_ble_eq_true rfl, Nat.le_of_ble_eq_true rfl⟩) hnw rfl hl.1 rfl (Nat.le_of_ble_eq_true rfl) dX9_shift_2 ⟨Nat.le_of_ble_eq_true rfl, Nat.le_of_ble_eq_true rfl⟩ ?_
  refine lv_if_ne (tgt := 12) hx hb dX9_shift_5 (by decide) (fun c5 => ?_) (fun c5 => ?_)
  · have h := if_ c5 h
    refine lv_iconst (v := 0) hx hb dX9_shift_12 (by decide) ?_
    exact hj13 (0 : Int32) c_t_acts c_t_refused c_t_thrown f_t_forms h _ _ (hP.sub [0, 1] rfl) (hD.sub [0, 1] (by decide) rfl) hS ls (lv_sub hl [0, 1, 2] rfl)
  · have h := it_ c5 h
    refine lv_iconst (v := 1) hx hb dX9_shift_8 (by decide) ?_
    refine lv_goto (tgt := 13) hx hb dX9_shift_9 (by decide) ?_
    exact hj13 (1 : Int32) c_t_acts c_t_refused c_t_thrown f_t_forms h _ _ (hP.sub [0, 1] rfl) (hD.sub [0, 1] (by decide) rfl) hS ls (lv_sub hl [0, 1, 2] rfl)
