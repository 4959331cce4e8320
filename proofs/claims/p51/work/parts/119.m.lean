noncomputable abbrev rmX9_clear : Room := { frames := 1, cells := 0, slots := 0, locals := 21 }
theorem ydX9_clear : yX9_clear.cls = RX9 ∧ yX9_clear.cls ≠ "java/lang/invoke/MethodHandle" ∧ yX9_clear.cls ≠ "java/lang/invoke/VarHandle" ∧ (parseMethodDescriptor yX9_clear.desc).map (fun d => d.parameters.length) = some 0 := by decide +kernel
noncomputable def F_X9_clear (c_t_many : Int32) (c_t_acts : Int32) : Option (Int32 × Int32 × Int32 × Int32) :=
 obn2 (F_X9_done c_t_acts c_t_many) (fun r17 c_t_acts_17 =>
 some (r17, (0 : Int32), c_t_acts_17, (0 : Int32)))
set_option maxHeartbeats 4000000 in
set_option maxRecDepth 100000 in
theorem c_X9_clear (l : Launch) (D : va_G) (cyJ : ClassId) (sz : Nat) (a_t : Nat) (a_t_forms : Nat) (a_t_roll : Nat) (c_t_many : Int32) (c_t_taps : Int64) (c_t_cells : Int32) (c_t_acts : Int32) (c_t_refused : Int32) (c_t_knocks : Int32) (c_t_thrown : Int32) (r0 : Int32) (o_c_t_many : Int32) (o_c_t_acts : Int32) (o_c_t_thrown : Int32) (hF : F_X9_clear c_t_many c_t_acts = some (r0, o_c_t_many, o_c_t_acts, o_c_t_thrown)) : Met l yX9_clear wsX9_clear rmX9_clear (va_Pc [.ref a_t] (wPD D [(cyJ, .long)] [(a_t, .inr (8, [.ref a_t_forms, .ref a_t_roll, .int c_t_many, .long c_t_taps, .int c_t_cells, .int c_t_acts, .int c_t_refused, .int c_t_knocks, .int c_t_thrown]))] sz)) (va_Qi (fun (r : Int32) (_ : Unit) => r = r0) (fun _ t => wQA D [(a_t, .inr (8, [.ref a_t_forms, .ref a_t_roll, .int o_c_t_many, .long c_t_taps, .int c_t_cells, .int o_c_t_acts, .int c_t_refused, .int c_t_knocks, .int o_c_t_thrown]))] (va_A [(a_t, .inr (8, [.ref a_t_forms, .ref a_t_roll, .int c_t_many, .long c_t_taps, .int c_t_cells, .int c_t_acts, .int c_t_refused, .int c_t_knocks, .int c_t_thrown]))] sz) t) (va_A [(a_t, .inr (8, [.ref a_t_forms, .ref a_t_roll, .int c_t_many, .long c_t_taps, .int c_t_cells, .int c_t_acts, .int c_t_refused, .int c_t_knocks, .int c_t_thrown]))] sz)) 0 0 (va_A [(a_t, .inr (8, [.ref a_t_forms, .ref a_t_roll, .int c_t_many, .long c_t_taps, .int c_t_cells, .int c_t_acts, .int c_t_refused, .int c_t_knocks, .int c_t_thrown]))] sz) := by
  refine Met.ofW (cc := cX9_clear) (maxL := 2) (ret := (some .int)) (by decide) rfl ?_
  intro p e s m args below meth c s₁ B hml hv
  obtain ⟨rfl, hsz, hP, hK, hD0, hnw⟩ := hv
  have hx := B.exec
  have hb := B.bytes
  have hr := B.returns
  have hts := atoms_spec (ws := wsX9_clear) B.pre
  have hown : s.vm.findClass RX9 = some m.cls := findClass_of_methodNamed B.named
  have hlocks := B.notSynchronized
  have hcf : CallFix _ _ _ _ _ _ _ _ _ := ⟨hx, hb, hml, hown, hts⟩
  have hinX9 : ∀ w ∈ u_ws RX9 TX9 9, w ∈ wsX9_clear := by decide +kernel
  have hfl26 := hts (.fieldLink RX9 26 "FormwheelModel" "thrown" "I") (by decide +kernel)
  have hfl123 := hts (.fieldLink RX9 123 "FormwheelModel" "many" "I") (by decide +kernel)
  subst hsz
  have hD := hD0.self (sz := s.heap.size)
  generalize hAe : va_A [(a_t, .inr (8, [.ref a_t_forms, .ref a_t_roll, .int c_t_many, .long c_t_taps, .int c_t_cells, .int c_t_acts, .int c_t_refused, .int c_t_knocks, .int c_t_thrown]))] s.heap.size = A at hD ⊢
  have hA : ∀ q : Nat, s.heap.size ≤ q → A q := fun q h => by rw [← hAe]; exact Or.inr h
  have hS : va_S A s.heap s.heap [] := va_S.rf
  have hP : va_P D vwCl [(a_t, .inr (8, [.ref a_t_forms, .ref a_t_roll, .int c_t_many, .long c_t_taps, .int c_t_cells, .int c_t_acts, .int c_t_refused, .int c_t_knocks, .int c_t_thrown]))] s.heap := hP
  have hK0 := hK
  have hl := lv_entry ([.ref a_t]) (n := 2) (Nat.le_of_ble_eq_true rfl)
  rw [lg_entry_eq]
  generalize (lg_sl ([.ref a_t]) ++ List.replicate (2 - (lg_sl ([.ref a_t])).length) Slot.unset).toArray = ls at hl ⊢
  have hl : lv_has ls 2 [(0, .ref a_t)] := hl
  have h := hF
  clear hF
  unfold F_X9_clear at h
  refine lv_aload_n hx hb dX9_clear_0 rfl (lv_at hl 0 rfl) ?_
  refine lv_iconst (v := 0) hx hb dX9_clear_1 (by decide) ?_
  refine va_put (D := D) (ci := 8) (v := .int (0 : Int32)) (ty := .int) (C := RX9) (T := TX9) (N := 9) hx hb hts hinX9 tyX9 tyX9_ok nmX9 hown hK hP hD hS 0 rfl rfl 8 (by decide) hfl26 (fun _ h9 => h9) rfl (by decide +kernel) rfl rfl (Nat.le_of_ble_eq_true rfl) dX9_clear_2 (fun H locs hP hD hS => ?_)
  have hP : va_P D vwCl [(a_t, .inr (8, [.ref a_t_forms, .ref a_t_roll, .int c_t_many, .long c_t_taps, .int c_t_cells, .int c_t_acts, .int c_t_refused, .int c_t_knocks, .int (0 : Int32)]))] H := hP
  have hD : va_D A [(a_t, .inr (8, [.ref a_t_forms, .ref a_t_roll, .int c_t_many, .long c_t_taps, .int c_t_cells, .int c_t_acts, .int c_t_refused, .int c_t_knocks, .int (0 : Int32)]))] := hD
  refine lv_aload_n hx hb dX9_clear_5 rfl (lv_at hl 0 rfl) ?_
  refine va_get (D := D) (ci := 8) (v := .int c_t_many) (C := RX9) (T := TX9) (N := 9) hx hb hts hinX9 hown hK hP 0 rfl rfl 2 (by decide) hfl123 (fun _ h9 => h9) rfl dX9_clear_6 ?_
  refine lv_istore_n (lv' := [(1, .int c_t_many), (0, .ref a_t)]) hx hb dX9_clear_9 rfl hl (by decide) rfl (fun ls hl => ?_)
  refine lv_aload_n hx hb dX9_clear_10 rfl (lv_at hl 1 rfl) ?_
  refine lv_iconst (v := 0) hx hb dX9_clear_11 (by decide) ?_
  refine va_put (D := D) (ci := 8) (v := .int (0 : Int32)) (ty := .int) (C := RX9) (T := TX9) (N := 9) hx hb hts hinX9 tyX9 tyX9_ok nmX9 hown hK hP hD hS 0 rfl rfl 2 (by decide) hfl123 (fun _ h9 => h9) rfl (by decide +kernel) rfl rfl (Nat.le_of_ble_eq_true rfl) dX9_clear_12 (fun H locs hP hD hS => ?_)
  have hP : va_P D vwCl [(a_t, .inr (8, [.ref a_t_forms, .ref a_t_roll, .int (0 : Int32), .long c_t_taps, .int c_t_cells, .int c_t_acts, .int c_t_refused, .int c_t_knocks, .int (0 : Int32)]))] H := hP
  have hD : va_D A [(a_t, .inr (8, [.ref a_t_forms, .ref a_t_roll, .int (0 : Int32), .long c_t_taps, .int c_t_cells, .int c_t_acts, .int c_t_refused, .int c_t_knocks, .int (0 : Int32)]))] := hD
  refine lv_aload_n hx hb dX9_clear_15 rfl (lv_at hl 1 rfl) ?_
  refine lv_iload_n hx hb dX9_clear_16 rfl (lv_at hl 0 rfl) ?_
  obtain ⟨r17, c_t_acts_17, hc17, h⟩ := obn2_h h
  have hPc := hP.sub (ws' := [(a_t, .inr (8, [.ref a_t_forms, .ref a_t_roll, .int (0 : Int32), .long c_t_taps, .int c_t_cells, .int c_t_acts, .int c_t_refused, .int c_t_knocks, .int (0 : Int32)]))]) [0] rfl
  have hDc := hD.sub (ws' := [(a_t, .inr (8, [.ref a_t_forms, .ref a_t_roll, .int (0 : Int32), .long c_t_taps, .int c_t_cells, .int c_t_acts, .int c_t_refused, .int c_t_knocks, .int (0 : Int32)]))]) [0] (by decide) rfl
  refine hp_i (w1 := [(a_t, .inr (8, [.ref a_t_forms, .ref a_t_roll, .int (0 : Int32), .long c_t_taps, .int c_t_cells, .int c_t_acts_17, .int c_t_refused, .int c_t_knocks, .int (0 : Int32)]))]) (wr := []) (va_runV (As := [.int c_t_many]) (rest := []) hcf (c_X9_done l D cyJ H.size a_t a_t_forms a_t_roll (0 : Int32) c_t_taps c_t_cells c_t_acts c_t_refused c_t_knocks (0 : Int32) c_t_many r17 c_t_acts_17 hc17) (cwV 1 hts gX9_clear_X9_done rfl rfl rfl ydX9_done ⟨Nat.le_of_ble_eq_true rfl, Nat.le_of_ble_eq_true rfl⟩) ⟨bl_PD, va_recv hK hP (ci := 8) (q0 := 0) rfl rfl, pr_PD hPc hK0 hDc hnw⟩ rfl rfl hl.1 rfl (lv_room (Nat.le_of_ble_eq_true rfl)) dX9_clear_17 ⟨Nat.le_of_ble_eq_true rfl, Nat.le_of_ble_eq_true rfl⟩) hP hD hS hA [0] [] rfl rfl (by decide) (by decide) (fun H locs hP hD hS => ?_)
  have hP : va_P D vwCl [(a_t, .inr (8, [.ref a_t_forms, .ref a_t_roll, .int (0 : Int32), .long c_t_taps, .int c_t_cells, .int c_t_acts_17, .int c_t_refused, .int c_t_knocks, .int (0 : Int32)]))] H := hP
  have hD : va_D A [(a_t, .inr (8, [.ref a_t_forms, .ref a_t_roll, .int (0 : Int32), .long c_t_taps, .int c_t_cells, .int c_t_acts_17, .int c_t_refused, .int c_t_knocks, .int (0 : Int32)]))] := hD
  obtain ⟨e0, e1, e2, e3⟩ := tup4 h
  subst e0
  subst e1
  subst e2
  subst e3
  have hP9 : va_P D vwCl [(a_t, .inr (8, [.ref a_t_forms, .ref a_t_roll, .int (0 : Int32), .long c_t_taps, .int c_t_cells, .int c_t_acts_17, .int c_t_refused, .int c_t_knocks, .int (0 : Int32)]))] H := hP.sub [0] rfl
  have hD9 : va_D A [(a_t, .inr (8, [.ref a_t_forms, .ref a_t_roll, .int (0 : Int32), .long c_t_taps, .int c_t_cells, .int c_t_acts_17, .int c_t_refused, .int c_t_knocks, .int (0 : Int32)]))] := hD.sub [0] (by decide) rfl
  exact W.iret hx hb hr (fun t ht hW => ⟨⟨_, (), rfl, rfl, wQA_of ht hP9 hD9⟩, hS.F ht⟩) hS.2.2 dX9_clear_20

noncomputable abbrev rmX9_sort : Room := { frames := 1, cells := 1, slots := 12, locals := 21 }
theorem ydX9_sort : yX9_sort.cls = RX9 ∧ yX9_sort.cls ≠ "java/lang/invoke/MethodHandle" ∧ yX9_sort.cls ≠ "java/lang/invoke/VarHandle" ∧ (parseMethodDescriptor yX9_sort.desc).map (fun d => d.parameters.length) = some 1 := by decide +kernel
noncomputable def J_X9_sort_108 (ih28 : Int32 → Int32 → Option (Int32 × Int32 × Int32 × (Nat → Int64))) (j5_108 : Int32) (js0_108 : Int32) (js1_108 : Int32) : Option (Int32 × Int32 × Int32 × (Nat → Int64)) :=
 bnd (js0_108 + js1_108) (fun x4_109 =>
 bnd (j5_108 + 1) (fun x5_111 =>
 ih28 x4_109 x5_111))
noncomputable def J_X9_sort_103 (ih28 : Int32 → Int32 → Option (Int32 × Int32 × Int32 × (Nat → Int64))) (j5_103 : Int32) (js0_103 : Int32) : Option (Int32 × Int32 × Int32 × (Nat → Int64)) :=
 J_X9_sort_108 ih28 j5_103 js0_103 (1 : Int32)
noncomputable def J_X9_sort_107 (ih28 : Int32 → Int32 → Option (Int32 × Int32 × Int32 × (Nat → Int64))) (j5_107 : Int32) (js0_107 : Int32) : Option (Int32 × Int32 × Int32 × (Nat → Int64)) :=
 J_X9_sort_108 ih28 j5_107 js0_107 (0 : Int32)
noncomputable def J_X9_sort_80 (jl3_80 : Int32) (f_t_roll_jz80 : Nat → Int64) (ih28 : Int32 → Int32 → Option (Int32 × Int32 × Int32 × (Nat → Int64))) (j5_80 : Int32) (js0_80 : Int32) : Option (Int32 × Int32 × Int32 × (Nat → Int64)) :=
 chk (¬ (j5_80 < 0 ∨ 12 ≤ j5_80.toNatClampNeg)) (
 chk (¬ (jl3_80 < 0 ∨ 12 ≤ jl3_80.toNatClampNeg)) (
 (if (f_t_roll_jz80 j5_80.toNatClampNeg) = (f_t_roll_jz80 jl3_80.toNatClampNeg) then
 (if jl3_80 ≤ j5_80 then
 J_X9_sort_107 ih28 j5_80 js0_80
else
 J_X9_sort_103 ih28 j5_80 js0_80)
else
 J_X9_sort_107 ih28 j5_80 js0_80)))
noncomputable def S_X9_sort_28 (z1_28 : Int32) (z3_28 : Int32) (c_t_many_z28 : Int32) (f_t_roll_z28 : Nat → Int64) (k117 : Int32 → Option (Int32 × Int32 × Int32 × (Nat → Int64))) (ih28 : Int32 → Int32 → Option (Int32 × Int32 × Int32 × (Nat → Int64))) (y4_28 : Int32) (y5_28 : Int32) : Option (Int32 × Int32 × Int32 × (Nat → Int64)) :=
 (if c_t_many_z28 ≤ y5_28 then
 k117 y4_28
else
 (if z1_28 = 0 then
 chk (¬ (y5_28 < 0 ∨ 12 ≤ y5_28.toNatClampNeg)) (
 chk (¬ (z3_28 < 0 ∨ 12 ≤ z3_28.toNatClampNeg)) (
 (if (f_t_roll_z28 y5_28.toNatClampNeg) < (f_t_roll_z28 z3_28.toNatClampNeg) then
 J_X9_sort_103 ih28 y5_28 y4_28
else
 J_X9_sort_80 z3_28 f_t_roll_z28 ih28 y5_28 y4_28)))
else
 chk (¬ (y5_28 < 0 ∨ 12 ≤ y5_28.toNatClampNeg)) (
 chk (¬ (z3_28 < 0 ∨ 12 ≤ z3_28.toNatClampNeg)) (
 (if (f_t_roll_z28 y5_28.toNatClampNeg) ≤ (f_t_roll_z28 z3_28.toNatClampNeg) then
 J_X9_sort_80 z3_28 f_t_roll_z28 ih28 y5_28 y4_28
else
 J_X9_sort_103 ih28 y5_28 y4_28)))))
noncomputable def S_X9_sort_14 (z1_14 : Int32) (c_t_many_z14 : Int32) (f_t_roll_z14 : Nat → Int64) (n_n9_z14 : Nat) (k133 : (Nat → Int64) → Option (Int32 × Int32 × Int32 × (Nat → Int64))) (ih14 : Int32 → (Nat → Int64) → Option (Int32 × Int32 × Int32 × (Nat → Int64))) (y3_14 : Int32) (f_n9_14 : Nat → Int64) : Option (Int32 × Int32 × Int32 × (Nat → Int64)) :=
 (if c_t_many_z14 ≤ y3_14 then
 k133 f_n9_14
else
 LQ2 (S_X9_sort_28 z1_14 y3_14 c_t_many_z14 f_t_roll_z14 (fun y4_28_117 =>
 chk (¬ (y3_14 < 0 ∨ 12 ≤ y3_14.toNatClampNeg)) (
 chk (¬ (y4_28_117 < 0 ∨ n_n9_z14 ≤ y4_28_117.toNatClampNeg)) (
 bnd (vp_updL f_n9_14 y4_28_117.toNatClampNeg (f_t_roll_z14 y3_14.toNatClampNeg)) (fun f_n9_126 =>
 bnd (y3_14 + 1) (fun x3_127 =>
 ih14 x3_127 f_n9_126)))))) 20000 (0 : Int32) (0 : Int32))
noncomputable def J_X9_sort_168 (n_n9_jz168 : Nat) (f_n9_jz168 : Nat → Int64) (ih138 : Int32 → Int32 → (Nat → Int64) → Option (Int32 × Int32 × Int32 × (Nat → Int64))) (j4_168 : Int32) (js0_168 : Int32) (js1_168 : Int32) (f_t_roll_j168 : Nat → Int64) : Option (Int32 × Int32 × Int32 × (Nat → Int64)) :=
 bnd (js0_168 + js1_168) (fun x3_169 =>
 chk (¬ (j4_168 < 0 ∨ n_n9_jz168 ≤ j4_168.toNatClampNeg)) (
 chk (¬ (j4_168 < 0 ∨ 12 ≤ j4_168.toNatClampNeg)) (
 bnd (vp_updL f_t_roll_j168 j4_168.toNatClampNeg (f_n9_jz168 j4_168.toNatClampNeg)) (fun f_t_roll_180 =>
 bnd (j4_168 + 1) (fun x4_181 =>
 ih138 x3_169 x4_181 f_t_roll_180)))))
noncomputable def S_X9_sort_138 (c_t_many_z138 : Int32) (n_n9_z138 : Nat) (f_n9_z138 : Nat → Int64) (k187 : Int32 → (Nat → Int64) → Option (Int32 × Int32 × Int32 × (Nat → Int64))) (ih138 : Int32 → Int32 → (Nat → Int64) → Option (Int32 × Int32 × Int32 × (Nat → Int64))) (y3_138 : Int32) (y4_138 : Int32) (f_t_roll_138 : Nat → Int64) : Option (Int32 × Int32 × Int32 × (Nat → Int64)) :=
 (if c_t_many_z138 ≤ y4_138 then
 k187 y3_138 f_t_roll_138
else
 chk (¬ (y4_138 < 0 ∨ n_n9_z138 ≤ y4_138.toNatClampNeg)) (
 chk (¬ (y4_138 < 0 ∨ 12 ≤ y4_138.toNatClampNeg)) (
 (if (f_n9_z138 y4_138.toNatClampNeg) = (f_t_roll_138 y4_138.toNatClampNeg) then
 J_X9_sort_168 n_n9_z138 f_n9_z138 ih138 y4_138 y3_138 (0 : Int32) f_t_roll_138
else
 J_X9_sort_168 n_n9_z138 f_n9_z138 ih138 y4_138 y3_138 (1 : Int32) f_t_roll_138))))
noncomputable def F_X9_sort (c_t_many : Int32) (c_t_acts : Int32) (f_t_roll : Nat → Int64) (p0 : Int32) : Option (Int32 × Int32 × Int32 × (Nat → Int64)) :=
 chk (¬ c_t_many < 0 ∧ c_t_many.toNatClampNeg ≤ 12) (
 LQ2 (S_X9_sort_14 p0 c_t_many f_t_roll c_t_many.toNatClampNeg (fun f_n9_14_133 =>
 LQ3 (S_X9_sort_138 c_t_many c_t_many.toNatClampNeg f_n9_14_133 (fun y3_138_187 f_t_roll_138_187 =>
 obn2 (F_X9_done c_t_acts y3_138_187) (fun r189 c_t_acts_189 =>
 some (r189, c_t_acts_189, (0 : Int32), f_t_roll_138_187)))) 20000 (0 : Int32) (0 : Int32) f_t_roll)) 20000 (0 : Int32) (fun _ => (0 : Int64)))
set_option maxHeartbeats 4000000 in
set_option maxRecDepth 100000 in
theorem c_X9_sort (l : Launch) (D : va_G) (cyJ : ClassId) (sz : Nat) (a_t : Nat) (a_t_forms : Nat) (a_t_roll : Nat) (c_t_many : Int32) (c_t_taps : Int64) (c_t_cells : Int32) (c_t_acts : Int32) (c_t_refused : Int32) (c_t_knocks : Int32) (c_t_thrown : Int32) (f_t_roll : Nat → Int64) (p0 : Int32) (r0 : Int32) (o_c_t_acts : Int32) (o_c_t_thrown : Int32) (o_f_t_roll : Nat → Int64) (hF : F_X9_sort c_t_many c_t_acts f_t_roll p0 = some (r0, o_c_t_acts, o_c_t_thrown, o_f_t_roll)) : Met l yX9_sort wsX9_sort rmX9_sort (va_Pc [.ref a_t, .int p0] (wPD D [(cyJ, .long)] [(a_t, .inr (8, [.ref a_t_forms, .ref a_t_roll, .int c_t_many, .long c_t_taps, .int c_t_cells, .int c_t_acts, .int c_t_refused, .int c_t_knocks, .int c_t_thrown])), (a_t_roll, .inl (cyJ, 12, .inr (.inl f_t_roll)))] sz)) (va_Qi (fun (r : Int32) (_ : Unit) => r = r0) (fun _ t => wQA D [(a_t, .inr (8, [.ref a_t_forms, .ref a_t_roll, .int c_t_many, .long c_t_taps, .int c_t_cells, .int o_c_t_acts, .int c_t_refused, .int c_t_knocks, .int o_c_t_thrown])), (a_t_roll, .inl (cyJ, 12, .inr (.inl o_f_t_roll)))] (va_A [(a_t, .inr (8, [.ref a_t_forms, .ref a_t_roll, .int c_t_many, .long c_t_taps, .int c_t_cells, .int c_t_acts, .int c_t_refused, .int c_t_knocks, .int c_t_thrown])), (a_t_roll, .inl (cyJ, 12, .inr (.inl f_t_roll)))] sz) t) (va_A [(a_t, .inr (8, [.ref a_t_forms, .ref a_t_roll, .int c_t_many, .long c_t_taps, .int c_t_cells, .int c_t_acts, .int c_t_refused, .int c_t_knocks, .int c_t_thrown])), (a_t_roll, .inl (cyJ, 12, .inr (.inl f_t_roll)))] sz)) 1 12 (va_A [(a_t, .inr (8, [.ref a_t_forms, .ref a_t_roll, .int c_t_many, .long c_t_taps, .int c_t_cells, .int c_t_acts, .int c_t_refused, .int c_t_knocks, .int c_t_thrown])), (a_t_roll, .inl (cyJ, 12, .inr (.inl f_t_roll)))] sz) := by
  refine Met.ofW (cc := cX9_sort) (maxL := 6) (ret := (some .int)) (by decide) rfl ?_
  intro p e s m args below meth c s₁ B hml hv
  obtain ⟨rfl, hsz, hP, hK, hD0, hnw⟩ := hv
  have hx := B.exec
  have hb := B.bytes
  have hr := B.returns
  have hts := atoms_spec (ws := wsX9_sort) B.pre
  have hown : s.vm.findClass RX9 = some m.cls := findClass_of_methodNamed B.named
  have hlocks := B.notSynchronized
  have hcf : CallFix _ _ _ _ _ _ _ _ _ := ⟨hx, hb, hml, hown, hts⟩
  have hinX9 : ∀ w ∈ u_ws RX9 TX9 9, w ∈ wsX9_sort := by decide +kernel
  have hfl26 := hts (.fieldLink RX9 26 "FormwheelModel" "thrown" "I") (by decide +kernel)
  have hfl123 := hts (.fieldLink RX9 123 "FormwheelModel" "many" "I") (by decide +kernel)
  have hfl13 := hts (.fieldLink RX9 13 "FormwheelModel" "roll" "[J") (by decide +kernel)
  subst hsz
  have hD := hD0.self (sz := s.heap.size)
  generalize hAe : va_A [(a_t, .inr (8, [.ref a_t_forms, .ref a_t_roll, .int c_t_many, .long c_t_taps, .int c_t_cells, .int c_t_acts, .int c_t_refused, .int c_t_knocks, .int c_t_thrown])), (a_t_roll, .inl (cyJ, 12, .inr (.inl f_t_roll)))] s.heap.size = A at hD ⊢
  have hA : ∀ q : Nat, s.heap.size ≤ q → A q := fun q h => by rw [← hAe]; exact Or.inr h
  have hS : va_S A s.heap s.heap [] := va_S.rf
  have hP : va_P D vwCl [(a_t, .inr (8, [.ref a_t_forms, .ref a_t_roll, .int c_t_many, .long c_t_taps, .int c_t_cells, .int c_t_acts, .int c_t_refused, .int c_t_knocks, .int c_t_thrown])), (a_t_roll, .inl (cyJ, 12, .inr (.inl f_t_roll)))] s.heap := hP
  have hK0 := hK
  have hl := lv_entry ([.ref a_t, .int p0]) (n := 6) (Nat.le_of_ble_eq_true rfl)
  rw [lg_entry_eq]
  generalize (lg_sl ([.ref a_t, .int p0]) ++ List.replicate (6 - (lg_sl ([.ref a_t, .int p0])).length) Slot.unset).toArray = ls at hl ⊢
  have hl : lv_has ls 6 [(0, .ref a_t), (1, .int p0)] := hl
  have h := hF
  clear hF
  unfold F_X9_sort at h
  refine lv_aload_n hx hb dX9_sort_0 rfl (lv_at hl 0 rfl) ?_
  refine lv_iconst (v := 0) hx hb dX9_sort_1 (by decide) ?_
  refine va_put (D := D) (ci := 8) (v := .int (0 : Int32)) (ty := .int) (C := RX9) (T := TX9) (N := 9) hx hb hts hinX9 tyX9 tyX9_ok nmX9 hown hK hP hD hS 0 rfl rfl 8 (by decide) hfl26 (fun _ h9 => h9) rfl (by decide +kernel) rfl rfl (Nat.le_of_ble_eq_true rfl) dX9_sort_2 (fun H locs hP hD hS => ?_)
  have hP : va_P D vwCl [(a_t, .inr (8, [.ref a_t_forms, .ref a_t_roll, .int c_t_many, .long c_t_taps, .int c_t_cells, .int c_t_acts, .int c_t_refused, .int c_t_knocks, .int (0 : Int32)])), (a_t_roll, .inl (cyJ, 12, .inr (.inl f_t_roll)))] H := hP
  have hD : va_D A [(a_t, .inr (8, [.ref a_t_forms, .ref a_t_roll, .int c_t_many, .long c_t_taps, .int c_t_cells, .int c_t_acts, .int c_t_refused, .int c_t_knocks, .int (0 : Int32)])), (a_t_roll, .inl (cyJ, 12, .inr (.inl f_t_roll)))] := hD
  refine lv_aload_n hx hb dX9_sort_5 rfl (lv_at hl 0 rfl) ?_
  refine va_get (D := D) (ci := 8) (v := .int c_t_many) (C := RX9) (T := TX9) (N := 9) hx hb hts hinX9 hown hK hP 0 rfl rfl 2 (by decide) hfl123 (fun _ h9 => h9) rfl dX9_sort_6 ?_
  obtain ⟨hq9, h⟩ := chk_h h
  refine va_newa (atype := .long) (ty := .long) (a0 := (c_t_many.toNatClampNeg, .inr (.inl (fun _ => (0 : Int64))))) (N' := c_t_many.toNatClampNeg) hx hb (hts (.arrayClass .long) (by decide +kernel)) rfl hK hP hD hS hA (fun _ => rfl) hq9.1 rfl (Nat.le_trans (Nat.mul_le_mul_right 8 hq9.2) (by decide)) (Nat.le_of_ble_eq_true rfl) (Nat.le_trans (Nat.add_le_add_left hq9.2 _) (Nat.le_of_ble_eq_true rfl)) dX9_sort_9 (fun a_n9 cy_9 H hK hP hD hS => ?_)
  have e_cy_9 := cy_eq hK0 hK
  subst e_cy_9
  have hK := hK0
  have hP : va_P D vwCl [(a_t, .inr (8, [.ref a_t_forms, .ref a_t_roll, .int c_t_many, .long c_t_taps, .int c_t_cells, .int c_t_acts, .int c_t_refused, .int c_t_knocks, .int (0 : Int32)])), (a_t_roll, .inl (cyJ, 12, .inr (.inl f_t_roll))), (a_n9, .inl (cyJ, c_t_many.toNatClampNeg, .inr (.inl (fun _ => (0 : Int64)))))] H := hP
  have hD : va_D A [(a_t, .inr (8, [.ref a_t_forms, .ref a_t_roll, .int c_t_many, .long c_t_taps, .int c_t_cells, .int c_t_acts, .int c_t_refused, .int c_t_knocks, .int (0 : Int32)])), (a_t_roll, .inl (cyJ, 12, .inr (.inl f_t_roll))), (a_n9, .inl (cyJ, c_t_many.toNatClampNeg, .inr (.inl (fun _ => (0 : Int64)))))] := hD
  refine W.widen (k := 1) (n := 12) (Nat.le_of_ble_eq_true rfl) (Nat.add_le_add_left hq9.2 _) ?_
  refine lv_astore_n (lv' := [(2, .ref a_n9), (0, .ref a_t), (1, .int p0)]) hx hb dX9_sort_11 rfl hl (by decide) rfl (fun ls hl => ?_)
  refine lv_iconst (v := 0) hx hb dX9_sort_12 (by decide) ?_
  refine lv_istore_n (lv' := [(3, .int (0 : Int32)), (2, .ref a_n9), (0, .ref a_t), (1, .int p0)]) hx hb dX9_sort_13 rfl hl (by decide) rfl (fun ls hl => ?_)
  refine LQ2_k1 (M := fun (y3_14 : Int32) (f_n9_14 : Nat → Int64) => ∀ (H : Heap) (locs : List Loc), va_P D vwCl [(a_t, .inr (8, [.ref a_t_forms, .ref a_t_roll, .int c_t_many, .long c_t_taps, .int c_t_cells, .int c_t_acts, .int c_t_refused, .int c_t_knocks, .int (0 : Int32)])), (a_t_roll, .inl (cyJ, 12, .inr (.inl f_t_roll))), (a_n9, .inl (cyJ, c_t_many.toNatClampNeg, .inr (.inl f_n9_14)))] H → va_D A [(a_t, .inr (8, [.ref a_t_forms, .ref a_t_roll, .int c_t_many, .long c_t_taps, .int c_t_cells, .int c_t_acts, .int c_t_refused, .int c_t_knocks, .int (0 : Int32)])), (a_t_roll, .inl (cyJ, 12, .inr (.inl f_t_roll))), (a_n9, .inl (cyJ, c_t_many.toNatClampNeg, .inr (.inl f_n9_14)))] → va_S A s.heap H locs → ∀ (ls : Array Slot), lv_has ls 6 [(0, .ref a_t), (1, .int p0), (2, .ref a_n9), (3, .int y3_14)] → W p l e rmX9_sort s m ([.ref a_t, .int p0] : List Value).toArray below meth c H locs 1 12 (MQ below (va_Qi (fun (r : Int32) (_ : Unit) => r = r0) (fun _ t => wQA D [(a_t, .inr (8, [.ref a_t_forms, .ref a_t_roll, .int c_t_many, .long c_t_taps, .int c_t_cells, .int o_c_t_acts, .int c_t_refused, .int c_t_knocks, .int o_c_t_thrown])), (a_t_roll, .inl (cyJ, 12, .inr (.inl o_f_t_roll)))] A t) A) ([.ref a_t, .int p0] : List Value).toArray s 1 12 A) (F0 m 14 ls [])) ?_ _ _ _ h _ _ hP hD hS ls (lv_sub hl [2, 3, 1, 0] rfl)
  intro k133 hk133 ih14 hih14 y3_14 f_n9_14 h H locs hP hD hS ls hl
  unfold S_X9_sort_14 at h
  refine lv_iload_n hx hb dX9_sort_14 rfl (lv_at hl 3 rfl) ?_
  refine lv_aload_n hx hb dX9_sort_15 rfl (lv_at hl 0 rfl) ?_
  refine va_get (D := D) (ci := 8) (v := .int c_t_many) (C := RX9) (T := TX9) (N := 9) hx hb hts hinX9 hown hK hP 0 rfl rfl 2 (by decide) hfl123 (fun _ h9 => h9) rfl dX9_sort_16 ?_
  refine lv_icmp_ge (tgt := 133) hx hb dX9_sort_19 (by decide) (fun c19 => ?_) (fun c19 => ?_)
  · have h := it_ c19 h
    rw [hk133] at h
    refine lv_iconst (v := 0) hx hb dX9_sort_133 (by decide) ?_
    refine lv_istore_n (lv' := [(3, .int (0 : Int32)), (0, .ref a_t), (1, .int p0), (2, .ref a_n9)]) hx hb dX9_sort_134 rfl hl (by decide) rfl (fun ls hl => ?_)
    refine lv_iconst (v := 0) hx hb dX9_sort_135 (by decide) ?_
    refine lv_istore (lv' := [(4, .int (0 : Int32)), (3, .int (0 : Int32)), (0, .ref a_t), (1, .int p0), (2, .ref a_n9)]) hx hb dX9_sort_136 hl (by decide) rfl (fun ls hl => ?_)
    refine LQ3_k1 (M := fun (y3_138 : Int32) (y4_138 : Int32) (f_t_roll_138 : Nat → Int64) => ∀ (H : Heap) (locs : List Loc), va_P D vwCl [(a_t, .inr (8, [.ref a_t_forms, .ref a_t_roll, .int c_t_many, .long c_t_taps, .int c_t_cells, .int c_t_acts, .int c_t_refused, .int c_t_knocks, .int (0 : Int32)])), (a_t_roll, .inl (cyJ, 12, .inr (.inl f_t_roll_138))), (a_n9, .inl (cyJ, c_t_many.toNatClampNeg, .inr (.inl f_n9_14)))] H → va_D A [(a_t, .inr (8, [.ref a_t_forms, .ref a_t_roll, .int c_t_many, .long c_t_taps, .int c_t_cells, .int c_t_acts, .int c_t_refused, .int c_t_knocks, .int (0 : Int32)])), (a_t_roll, .inl (cyJ, 12, .inr (.inl f_t_roll_138))), (a_n9, .inl (cyJ, c_t_many.toNatClampNeg, .inr (.inl f_n9_14)))] → va_S A s.heap H locs → ∀ (ls : Array Slot), lv_has ls 6 [(0, .ref a_t), (2, .ref a_n9), (3, .int y3_138), (4, .int y4_138)] → W p l e rmX9_sort s m ([.ref a_t, .int p0] : List Value).toArray below meth c H locs 1 12 (MQ below (va_Qi (fun (r : Int32) (_ : Unit) => r = r0) (fun _ t => wQA D [(a_t, .inr (8, [.ref a_t_forms, .ref a_t_roll, .int c_t_many, .long c_t_taps, .int c_t_cells, .int o_c_t_acts, .int c_t_refused, .int c_t_knocks, .int o_c_t_thrown])), (a_t_roll, .inl (cyJ, 12, .inr (.inl o_f_t_roll)))] A t) A) ([.ref a_t, .int p0] : List Value).toArray s 1 12 A) (F0 m 138 ls [])) ?_ _ _ _ _ h _ _ hP hD hS ls (lv_sub hl [2, 4, 1, 0] rfl)
    intro k187 hk187 ih138 hih138 y3_138 y4_138 f_t_roll_138 h H locs hP hD hS ls hl
    unfold S_X9_sort_138 at h
    have hj168 : ∀ (j4_168 : Int32) (js0_168 : Int32) (js1_168 : Int32) (f_t_roll_j168 : Nat → Int64), J_X9_sort_168 c_t_many.toNatClampNeg f_n9_14 ih138 j4_168 js0_168 js1_168 f_t_roll_j168 = some (r0, o_c_t_acts, o_c_t_thrown, o_f_t_roll) → ∀ (H : Heap) (locs : List Loc), va_P D vwCl [(a_t, .inr (8, [.ref a_t_forms, .ref a_t_roll, .int c_t_many, .long c_t_taps, .int c_t_cells, .int c_t_acts, .int c_t_refused, .int c_t_knocks, .int (0 : Int32)])), (a_t_roll, .inl (cyJ, 12, .inr (.inl f_t_roll_j168))), (a_n9, .inl (cyJ, c_t_many.toNatClampNeg, .inr (.inl f_n9_14)))] H → va_D A [(a_t, .inr (8, [.ref a_t_forms, .ref a_t_roll, .int c_t_many, .long c_t_taps, .int c_t_cells, .int c_t_acts, .int c_t_refused, .int c_t_knocks, .int (0 : Int32)])), (a_t_roll, .inl (cyJ, 12, .inr (.inl f_t_roll_j168))), (a_n9, .inl (cyJ, c_t_many.toNatClampNeg, .inr (.inl f_n9_14)))] → va_S A s.heap H locs → ∀ (ls : Array Slot), lv_has ls 6 [(0, .ref a_t), (2, .ref a_n9), (4, .int j4_168)] → W p l e rmX9_sort s m ([.ref a_t, .int p0] : List Value).toArray below meth c H locs 1 12 (MQ below (va_Qi (fun (r : Int32) (_ : Unit) => r = r0) (fun _ t => wQA D [(a_t, .inr (8, [.ref a_t_forms, .ref a_t_roll, .int c_t_many, .long c_t_taps, .int c_t_cells, .int o_c_t_acts, .int c_t_refused, .int c_t_knocks, .int o_c_t_thrown])), (a_t_roll, .inl (cyJ, 12, .inr (.inl o_f_t_roll)))] A t) A) ([.ref a_t, .int p0] : List Value).toArray s 1 12 A) (F0 m 168 ls [.int js1_168, .int js0_168]) := by
      intro j4_168 js0_168 js1_168 f_t_roll_j168 h H locs hP hD hS ls hl
      unfold J_X9_sort_168 at h
      refine lv_iadd hx hb dX9_sort_168 ?_
      refine lv_topi (fun x3_169 e_x3_169 => ?_)
      have h := bnd_h e_x3_169 h
      refine lv_istore_n (lv' := [(3, .int x3_169), (0, .ref a_t), (2, .ref a_n9), (4, .int j4_168)]) hx hb dX9_sort_169 rfl hl (by decide) rfl (fun ls hl => ?_)
      refine lv_aload_n hx hb dX9_sort_170 rfl (lv_at hl 1 rfl) ?_
      refine va_get (D := D) (ci := 8) (v := .ref a_t_roll) (C := RX9) (T := TX9) (N := 9) hx hb hts hinX9 hown hK hP 0 rfl rfl 1 (by decide) hfl13 (fun _ h9 => h9) rfl dX9_sort_171 ?_
      refine lv_iload hx hb dX9_sort_174 (lv_at hl 3 rfl) ?_
      refine lv_aload_n hx hb dX9_sort_176 rfl (lv_at hl 2 rfl) ?_
      refine lv_iload hx hb dX9_sort_177 (lv_at hl 3 rfl) ?_
      obtain ⟨hq179, h⟩ := chk_h h
      refine va_lald hx hb hK hP 2 0 rfl rfl hq179 dX9_sort_179 ?_
      obtain ⟨hq180, h⟩ := chk_h h
      refine va_last hx hb hK hP hD hS 1 0 rfl rfl hq180 dX9_sort_180 (fun H locs hP hD hS => ?_)
      obtain ⟨f_t_roll_180, e_f_t_roll_180⟩ : ∃ z, z = vp_updL f_t_roll_j168 j4_168.toNatClampNeg (f_n9_14 j4_168.toNatClampNeg) := ⟨_, rfl⟩
      have h := bnd_h e_f_t_roll_180 h
      have hP : va_P D vwCl [(a_t, .inr (8, [.ref a_t_forms, .ref a_t_roll, .int c_t_many, .long c_t_taps, .int c_t_cells, .int c_t_acts, .int c_t_refused, .int c_t_knocks, .int (0 : Int32)])), (a_t_roll, .inl (cyJ, 12, .inr (.inl f_t_roll_180))), (a_n9, .inl (cyJ, c_t_many.toNatClampNeg, .inr (.inl f_n9_14)))] H := by rw [e_f_t_roll_180]; exact hP
      have hD : va_D A [(a_t, .inr (8, [.ref a_t_forms, .ref a_t_roll, .int c_t_many, .long c_t_taps, .int c_t_cells, .int c_t_acts, .int c_t_refused, .int c_t_knocks, .int (0 : Int32)])), (a_t_roll, .inl (cyJ, 12, .inr (.inl f_t_roll_180))), (a_n9, .inl (cyJ, c_t_many.toNatClampNeg, .inr (.inl f_n9_14)))] := by rw [e_f_t_roll_180]; exact hD
      obtain ⟨x4_181, e_x4_181⟩ : ∃ z : Int32, z = j4_168 + 1 := ⟨_, rfl⟩
      have h := bnd_h e_x4_181 h
      refine lv_iinc (v := x4_181) (lv' := [(4, .int x4_181), (3, .int x3_169), (0, .ref a_t), (2, .ref a_n9)]) hx hb dX9_sort_181 hl (k := 3) rfl (by rw [e_x4_181]; rfl) (by decide) rfl (fun ls hl => ?_)
      refine lv_goto (tgt := 138) hx hb dX9_sort_184 (by decide) ?_
      exact hih138 x3_169 x4_181 f_t_roll_180 h _ _ (hP.sub [0, 1, 2] rfl) (hD.sub [0, 1, 2] (by decide) rfl) hS ls (lv_sub hl [2, 3, 1, 0] rfl)
    refine lv_iload hx hb dX9_sort_138 (lv_at hl 3 rfl) ?_
    refine lv_aload_n hx hb dX9_sort_140 rfl (lv_at hl 0 rfl) ?_
    refine va_get (D := D) (ci := 8) (v := .int c_t_many) (C := RX9) (T := TX9) (N := 9) hx hb hts hinX9 hown hK hP 0 rfl rfl 2 (by decide) hfl123 (fun _ h9 => h9) rfl dX9_sort_141 ?_
    refine lv_icmp_ge (tgt := 187) hx hb dX9_sort_144 (by decide) (fun c144 => ?_) (fun c144 => ?_)
    · have h := it_ c144 h
      rw [hk187] at h
      refine lv_aload_n hx hb dX9_sort_187 rfl (lv_at hl 0 rfl) ?_
      refine lv_iload_n hx hb dX9_sort_188 rfl (lv_at hl 2 rfl) ?_
      obtain ⟨r189, c_t_acts_189, hc189, h⟩ := obn2_h h
      have hPc := hP.sub (ws' := [(a_t, .inr (8, [.ref a_t_forms, .ref a_t_roll, .int c_t_many, .long c_t_taps, .int c_t_cells, .int c_t_acts, .int c_t_refused, .int c_t_knocks, .int (0 : Int32)]))]) [0] rfl
      have hDc := hD.sub (ws' := [(a_t, .inr (8, [.ref a_t_forms, .ref a_t_roll, .int c_t_many, .long c_t_taps, .int c_t_cells, .int c_t_acts, .int c_t_refused, .int c_t_knocks, .int (0 : Int32)]))]) [0] (by decide) rfl
      refine hp_i (w1 := [(a_t, .inr (8, [.ref a_t_forms, .ref a_t_roll, .int c_t_many, .long c_t_taps, .int c_t_cells, .int c_t_acts_189, .int c_t_refused, .int c_t_knocks, .int (0 : Int32)]))]) (wr := [(a_t_roll, .inl (cyJ, 12, .inr (.inl f_t_roll_138))), (a_n9, .inl (cyJ, c_t_many.toNatClampNeg, .inr (.inl f_n9_14)))]) (va_runV (As := [.int y3_138]) (rest := []) hcf (c_X9_done l D cyJ H.size a_t a_t_forms a_t_roll c_t_many c_t_taps c_t_cells c_t_acts c_t_refused c_t_knocks (0 : Int32) y3_138 r189 c_t_acts_189 hc189) (cwV 1 hts gX9_sort_X9_done rfl rfl rfl ydX9_done ⟨Nat.le_of_ble_eq_true rfl, Nat.le_of_ble_eq_true rfl⟩) ⟨bl_PD, va_recv hK hP (ci := 8) (q0 := 0) rfl rfl, pr_PD hPc hK0 hDc hnw⟩ rfl rfl hl.1 rfl (lv_room (Nat.le_of_ble_eq_true rfl)) dX9_sort_189 ⟨Nat.le_of_ble_eq_true rfl, Nat.le_of_ble_eq_true rfl⟩) hP hD hS hA [0] [1, 2] rfl rfl (by decide) (by decide) (fun H locs hP hD hS => ?_)
      have hP : va_P D vwCl [(a_t_roll, .inl (cyJ, 12, .inr (.inl f_t_roll_138))), (a_n9, .inl (cyJ, c_t_many.toNatClampNeg, .inr (.inl f_n9_14))), (a_t, .inr (8, [.ref a_t_forms, .ref a_t_roll, .int c_t_many, .long c_t_taps, .int c_t_cells, .int c_t_acts_189, .int c_t_refused, .int c_t_knocks, .int (0 : Int32)]))] H := hP
      have hD : va_D A [(a_t_roll, .inl (cyJ, 12, .inr (.inl f_t_roll_138))), (a_n9, .inl (cyJ, c_t_many.toNatClampNeg, .inr (.inl f_n9_14))), (a_t, .inr (8, [.ref a_t_forms, .ref a_t_roll, .int c_t_many, .long c_t_taps, .int c_t_cells, .int c_t_acts_189, .int c_t_refused, .int c_t_knocks, .int (0 : Int32)]))] := hD
      obtain ⟨e0, e1, e2, e3⟩ := tup4 h
      subst e0
      subst e1
      subst e2
      subst e3
      have hP9 : va_P D vwCl [(a_t, .inr (8, [.ref a_t_forms, .ref a_t_roll, .int c_t_many, .long c_t_taps, .int c_t_cells, .int c_t_acts_189, .int c_t_refused, .int c_t_knocks, .int (0 : Int32)])), (a_t_roll, .inl (cyJ, 12, .inr (.inl f_t_roll_138)))] H := hP.sub [2, 0] rfl
      have hD9 : va_D A [(a_t, .inr (8, [.ref a_t_forms, .ref a_t_roll, .int c_t_many, .long c_t_taps, .int c_t_cells, .int c_t_acts_189, .int c_t_refused, .int c_t_knocks, .int (0 : Int32)])), (a_t_roll, .inl (cyJ, 12, .inr (.inl f_t_roll_138)))] := hD.sub [2, 0] (by decide) rfl
      exact W.iret hx hb hr (fun t ht hW => ⟨⟨_, (), rfl, rfl, wQA_of ht hP9 hD9⟩, hS.F ht⟩) hS.2.2 dX9_sort_192
    · have h := if_ c144 h
      refine lv_iload_n hx hb dX9_sort_147 rfl (lv_at hl 2 rfl) ?_
      refine lv_aload_n hx hb dX9_sort_148 rfl (lv_at hl 1 rfl) ?_
      refine lv_iload hx hb dX9_sort_149 (lv_at hl 3 rfl) ?_
      obtain ⟨hq151, h⟩ := chk_h h
      refine va_lald hx hb hK hP 2 0 rfl rfl hq151 dX9_sort_151 ?_
      refine lv_aload_n hx hb dX9_sort_152 rfl (lv_at hl 0 rfl) ?_
      refine va_get (D := D) (ci := 8) (v := .ref a_t_roll) (C := RX9) (T := TX9) (N := 9) hx hb hts hinX9 hown hK hP 0 rfl rfl 1 (by decide) hfl13 (fun _ h9 => h9) rfl dX9_sort_153 ?_
      refine lv_iload hx hb dX9_sort_156 (lv_at hl 3 rfl) ?_
      obtain ⟨hq158, h⟩ := chk_h h
      refine va_lald hx hb hK hP 1 0 rfl rfl hq158 dX9_sort_158 ?_
      refine W.lcmp hx hb dX9_sort_159 ?_
      refine lv_if_ne (tgt := 167) hx hb dX9_sort_160 (by decide) (fun c160 => ?_) (fun c160 => ?_)
      · have c160 := fun z => c160 ((lg_cmp_eq _ _).mpr z)
        have h := if_ c160 h
        refine lv_iconst (v := 1) hx hb dX9_sort_167 (by decide) ?_
        exact hj168 y4_138 y3_138 (1 : Int32) f_t_roll_138 h _ _ (hP.sub [0, 1, 2] rfl) (hD.sub [0, 1, 2] (by decide) rfl) hS ls (lv_sub hl [0, 1, 3] rfl)
      · have c160 := (lg_cmp_eq _ _).mp c160
        have h := it_ c160 h
        refine lv_iconst (v := 0) hx hb dX9_sort_163 (by decide) ?_
        refine lv_goto (tgt := 168) hx hb dX9_sort_164 (by decide) ?_
        exact hj168 y4_138 y3_138 (0 : Int32) f_t_roll_138 h _ _ (hP.sub [0, 1, 2] rfl) (hD.sub [0, 1, 2] (by decide) rfl) hS ls (lv_sub hl [0, 1, 3] rfl)
  · have h := if_ c19 h
    refine lv_iconst (v := 0) hx hb dX9_sort_22 (by decide) ?_
    refine lv_istore (lv' := [(4, .int (0 : Int32)), (0, .ref a_t), (1, .int p0), (2, .ref a_n9), (3, .int y3_14)]) hx hb dX9_sort_23 hl (by decide) rfl (fun ls hl => ?_)
    refine lv_iconst (v := 0) hx hb dX9_sort_25 (by decide) ?_
    refine lv_istore (lv' := [(5, .int (0 : Int32)), (4, .int (0 : Int32)), (0, .ref a_t), (1, .int p0), (2, .ref a_n9), (3, .int y3_14)]) hx hb dX9_sort_26 hl (by decide) rfl (fun ls hl => ?_)
    refine LQ2_k1 (M := fun (y4_28 : Int32) (y5_28 : Int32) => ∀ (ls : Array Slot), lv_has ls 6 [(0, .ref a_t), (1, .int p0), (2, .ref a_n9), (3, .int y3_14), (4, .int y4_28), (5, .int y5_28)] → W p l e rmX9_sort s m ([.ref a_t, .int p0] : List Value).toArray below meth c H locs 1 12 (MQ below (va_Qi (fun (r : Int32) (_ : Unit) => r = r0) (fun _ t => wQA D [(a_t, .inr (8, [.ref a_t_forms, .ref a_t_roll, .int c_t_many, .long c_t_taps, .int c_t_cells, .int o_c_t_acts, .int c_t_refused, .int c_t_knocks, .int o_c_t_thrown])), (a_t_roll, .inl (cyJ, 12, .inr (.inl o_f_t_roll)))] A t) A) ([.ref a_t, .int p0] : List Value).toArray s 1 12 A) (F0 m 28 ls [])) ?_ _ _ _ h ls (lv_sub hl [2, 3, 4, 5, 1, 0] rfl)
    intro k117 hk117 ih28 hih28 y4_28 y5_28 h ls hl
    unfold S_X9_sort_28 at h
    have hj108 : ∀ (j5_108 : Int32) (js0_108 : Int32) (js1_108 : Int32), J_X9_sort_108 ih28 j5_108 js0_108 js1_108 = some (r0, o_c_t_acts, o_c_t_thrown, o_f_t_roll) → ∀ (ls : Array Slot), lv_has ls 6 [(0, .ref a_t), (1, .int p0), (2, .ref a_n9), (3, .int y3_14), (5, .int j5_108)] → W p l e rmX9_sort s m ([.ref a_t, .int p0] : List Value).toArray below meth c H locs 1 12 (MQ below (va_Qi (fun (r : Int32) (_ : Unit) => r = r0) (fun _ t => wQA D [(a_t, .inr (8, [.ref a_t_forms, .ref a_t_roll, .int c_t_many, .long c_t_taps, .int c_t_cells, .int o_c_t_acts, .int c_t_refused, .int c_t_knocks, .int o_c_t_thrown])), (a_t_roll, .inl (cyJ, 12, .inr (.inl o_f_t_roll)))] A t) A) ([.ref a_t, .int p0] : List Value).toArray s 1 12 A) (F0 m 108 ls [.int js1_108, .int js0_108]) := by
      intro j5_108 js0_108 js1_108 h ls hl
      unfold J_X9_sort_108 at h
      refine lv_iadd hx hb dX9_sort_108 ?_
      refine lv_topi (fun x4_109 e_x4_109 => ?_)
      have h := bnd_h e_x4_109 h
      refine lv_istore (lv' := [(4, .int x4_109), (0, .ref a_t), (1, .int p0), (2, .ref a_n9), (3, .int y3_14), (5, .int j5_108)]) hx hb dX9_sort_109 hl (by decide) rfl (fun ls hl => ?_)
      obtain ⟨x5_111, e_x5_111⟩ : ∃ z : Int32, z = j5_108 + 1 := ⟨_, rfl⟩
      have h := bnd_h e_x5_111 h
      refine lv_iinc (v := x5_111) (lv' := [(5, .int x5_111), (4, .int x4_109), (0, .ref a_t), (1, .int p0), (2, .ref a_n9), (3, .int y3_14)]) hx hb dX9_sort_111 hl (k := 5) rfl (by rw [e_x5_111]; rfl) (by decide) rfl (fun ls hl => ?_)
      refine lv_goto (tgt := 28) hx hb dX9_sort_114 (by decide) ?_
      exact hih28 x4_109 x5_111 h ls (lv_sub hl [2, 3, 4, 5, 1, 0] rfl)
    have hj107 : ∀ (j5_107 : Int32) (js0_107 : Int32), J_X9_sort_107 ih28 j5_107 js0_107 = some (r0, o_c_t_acts, o_c_t_thrown, o_f_t_roll) → ∀ (ls : Array Slot), lv_has ls 6 [(0, .ref a_t), (1, .int p0), (2, .ref a_n9), (3, .int y3_14), (5, .int j5_107)] → W p l e rmX9_sort s m ([.ref a_t, .int p0] : List Value).toArray below meth c H locs 1 12 (MQ below (va_Qi (fun (r : Int32) (_ : Unit) => r = r0) (fun _ t => wQA D [(a_t, .inr (8, [.ref a_t_forms, .ref a_t_roll, .int c_t_many, .long c_t_taps, .int c_t_cells, .int o_c_t_acts, .int c_t_refused, .int c_t_knocks, .int o_c_t_thrown])), (a_t_roll, .inl (cyJ, 12, .inr (.inl o_f_t_roll)))] A t) A) ([.ref a_t, .int p0] : List Value).toArray s 1 12 A) (F0 m 107 ls [.int js0_107]) := by
      intro j5_107 js0_107 h ls hl
      unfold J_X9_sort_107 at h
      refine lv_iconst (v := 0) hx hb dX9_sort_107 (by decide) ?_
      exact hj108 j5_107 js0_107 (0 : Int32) h ls (lv_sub hl [0, 1, 2, 3, 4] rfl)
    have hj103 : ∀ (j5_103 : Int32) (js0_103 : Int32), J_X9_sort_103 ih28 j5_103 js0_103 = some (r0, o_c_t_acts, o_c_t_thrown, o_f_t_roll) → ∀ (ls : Array Slot), lv_has ls 6 [(0, .ref a_t), (1, .int p0), (2, .ref a_n9), (3, .int y3_14), (5, .int j5_103)] → W p l e rmX9_sort s m ([.ref a_t, .int p0] : List Value).toArray below meth c H locs 1 12 (MQ below (va_Qi (fun (r : Int32) (_ : Unit) => r = r0) (fun _ t => wQA D [(a_t, .inr (8, [.ref a_t_forms, .ref a_t_roll, .int c_t_many, .long c_t_taps, .int c_t_cells, .int o_c_t_acts, .int c_t_refused, .int c_t_knocks, .int o_c_t_thrown])), (a_t_roll, .inl (cyJ, 12, .inr (.inl o_f_t_roll)))] A t) A) ([.ref a_t, .int p0] : List Value).toArray s 1 12 A) (F0 m 103 ls [.int js0_103]) := by
      intro j5_103 js0_103 h ls hl
      unfold J_X9_sort_103 at h
      refine lv_iconst (v := 1) hx hb dX9_sort_103 (by decide) ?_
      refine lv_goto (tgt := 108) hx hb dX9_sort_104 (by decide) ?_
      exact hj108 j5_103 js0_103 (1 : Int32) h ls (lv_sub hl [0, 1, 2, 3, 4] rfl)
    have hj80 : ∀ (j5_80 : Int32) (js0_80 : Int32), J_X9_sort_80 y3_14 f_t_roll ih28 j5_80 js0_80 = some (r0, o_c_t_acts, o_c_t_thrown, o_f_t_roll) → ∀ (ls : Array Slot), lv_has ls 6 [(0, .ref a_t), (1, .int p0), (2, .ref a_n9), (3, .int y3_14), (5, .int j5_80)] → W p l e rmX9_sort s m ([.ref a_t, .int p0] : List Value).toArray below meth c H locs 1 12 (MQ below (va_Qi (fun (r : Int32) (_ : Unit) => r = r0) (fun _ t => wQA D [(a_t, .inr (8, [.ref a_t_forms, .ref a_t_roll, .int c_t_many, .long c_t_taps, .int c_t_cells, .int o_c_t_acts, .int c_t_refused, .int c_t_knocks, .int o_c_t_thrown])), (a_t_roll, .inl (cyJ, 12, .inr (.inl o_f_t_roll)))] A t) A) ([.ref a_t, .int p0] : List Value).toArray s 1 12 A) (F0 m 80 ls [.int js0_80]) := by
      intro j5_80 js0_80 h ls hl
      unfold J_X9_sort_80 at h
      refine lv_aload_n hx hb dX9_sort_80 rfl (lv_at hl 0 rfl) ?_
      refine va_get (D := D) (ci := 8) (v := .ref a_t_roll) (C := RX9) (T := TX9) (N := 9) hx hb hts hinX9 hown hK hP 0 rfl rfl 1 (by decide) hfl13 (fun _ h9 => h9) rfl dX9_sort_81 ?_
      refine lv_iload hx hb dX9_sort_84 (lv_at hl 4 rfl) ?_
      obtain ⟨hq86, h⟩ := chk_h h
      refine va_lald hx hb hK hP 1 0 rfl rfl hq86 dX9_sort_86 ?_
      refine lv_aload_n hx hb dX9_sort_87 rfl (lv_at hl 0 rfl) ?_
      refine va_get (D := D) (ci := 8) (v := .ref a_t_roll) (C := RX9) (T := TX9) (N := 9) hx hb hts hinX9 hown hK hP 0 rfl rfl 1 (by decide) hfl13 (fun _ h9 => h9) rfl dX9_sort_88 ?_
      refine lv_iload_n hx hb dX9_sort_91 rfl (lv_at hl 3 rfl) ?_
      obtain ⟨hq92, h⟩ := chk_h h
      refine va_lald hx hb hK hP 1 0 rfl rfl hq92 dX9_sort_92 ?_
      refine W.lcmp hx hb dX9_sort_93 ?_
      refine lv_if_ne (tgt := 107) hx hb dX9_sort_94 (by decide) (fun c94 => ?_) (fun c94 => ?_)
      · have c94 := fun z => c94 ((lg_cmp_eq _ _).mpr z)
        have h := if_ c94 h
        exact hj107 j5_80 js0_80 h ls (lv_sub hl [0, 1, 2, 3, 4] rfl)
      · have c94 := (lg_cmp_eq _ _).mp c94
        have h := it_ c94 h
        refine lv_iload hx hb dX9_sort_97 (lv_at hl 4 rfl) ?_
        refine lv_iload_n hx hb dX9_sort_99 rfl (lv_at hl 3 rfl) ?_
        refine lv_icmp_ge (tgt := 107) hx hb dX9_sort_100 (by decide) (fun c100 => ?_) (fun c100 => ?_)
        · have h := it_ c100 h
          exact hj107 j5_80 js0_80 h ls (lv_sub hl [0, 1, 2, 3, 4] rfl)
        · have h := if_ c100 h
          exact hj103 j5_80 js0_80 h ls (lv_sub hl [0, 1, 2, 3, 4] rfl)
    refine lv_iload hx hb dX9_sort_28 (lv_at hl 5 rfl) ?_
    refine lv_aload_n hx hb dX9_sort_30 rfl (lv_at hl 0 rfl) ?_
    refine va_get (D := D) (ci := 8) (v := .int c_t_many) (C := RX9) (T := TX9) (N := 9) hx hb hts hinX9 hown hK hP 0 rfl rfl 2 (by decide) hfl123 (fun _ h9 => h9) rfl dX9_sort_31 ?_
    refine lv_icmp_ge (tgt := 117) hx hb dX9_sort_34 (by decide) (fun c34 => ?_) (fun c34 => ?_)
    · have h := it_ c34 h
      rw [hk117] at h
      refine lv_aload_n hx hb dX9_sort_117 rfl (lv_at hl 2 rfl) ?_
      refine lv_iload hx hb dX9_sort_118 (lv_at hl 4 rfl) ?_
      refine lv_aload_n hx hb dX9_sort_120 rfl (lv_at hl 0 rfl) ?_
      refine va_get (D := D) (ci := 8) (v := .ref a_t_roll) (C := RX9) (T := TX9) (N := 9) hx hb hts hinX9 hown hK hP 0 rfl rfl 1 (by decide) hfl13 (fun _ h9 => h9) rfl dX9_sort_121 ?_
      refine lv_iload_n hx hb dX9_sort_124 rfl (lv_at hl 3 rfl) ?_
      obtain ⟨hq125, h⟩ := chk_h h
      refine va_lald hx hb hK hP 1 0 rfl rfl hq125 dX9_sort_125 ?_
      obtain ⟨hq126, h⟩ := chk_h h
      refine va_last hx hb hK hP hD hS 2 0 rfl rfl hq126 dX9_sort_126 (fun H locs hP hD hS => ?_)
      obtain ⟨f_n9_126, e_f_n9_126⟩ : ∃ z, z = vp_updL f_n9_14 y4_28.toNatClampNeg (f_t_roll y3_14.toNatClampNeg) := ⟨_, rfl⟩
      have h := bnd_h e_f_n9_126 h
      have hP : va_P D vwCl [(a_t, .inr (8, [.ref a_t_forms, .ref a_t_roll, .int c_t_many, .long c_t_taps, .int c_t_cells, .int c_t_acts, .int c_t_refused, .int c_t_knocks, .int (0 : Int32)])), (a_t_roll, .inl (cyJ, 12, .inr (.inl f_t_roll))), (a_n9, .inl (cyJ, c_t_many.toNatClampNeg, .inr (.inl f_n9_126)))] H := by rw [e_f_n9_126]; exact hP
      have hD : va_D A [(a_t, .inr (8, [.ref a_t_forms, .ref a_t_roll, .int c_t_many, .long c_t_taps, .int c_t_cells, .int c_t_acts, .int c_t_refused, .int c_t_knocks, .int (0 : Int32)])), (a_t_roll, .inl (cyJ, 12, .inr (.inl f_t_roll))), (a_n9, .inl (cyJ, c_t_many.toNatClampNeg, .inr (.inl f_n9_126)))] := by rw [e_f_n9_126]; exact hD
      obtain ⟨x3_127, e_x3_127⟩ : ∃ z : Int32, z = y3_14 + 1 := ⟨_, rfl⟩
      have h := bnd_h e_x3_127 h
      refine lv_iinc (v := x3_127) (lv' := [(3, .int x3_127), (0, .ref a_t), (1, .int p0), (2, .ref a_n9), (4, .int y4_28), (5, .int y5_28)]) hx hb dX9_sort_127 hl (k := 3) rfl (by rw [e_x3_127]; rfl) (by decide) rfl (fun ls hl => ?_)
      refine lv_goto (tgt := 14) hx hb dX9_sort_130 (by decide) ?_
      exact hih14 x3_127 f_n9_126 h _ _ (hP.sub [0, 1, 2] rfl) (hD.sub [0, 1, 2] (by decide) rfl) hS ls (lv_sub hl [1, 2, 3, 0] rfl)
    · have h := if_ c34 h
      refine lv_iload hx hb dX9_sort_37 (lv_at hl 4 rfl) ?_
      refine lv_iload_n hx hb dX9_sort_39 rfl (lv_at hl 1 rfl) ?_
      refine lv_if_eq (tgt := 63) hx hb dX9_sort_40 (by decide) (fun c40 => ?_) (fun c40 => ?_)
      · have h := it_ c40 h
        refine lv_aload_n hx hb dX9_sort_63 rfl (lv_at hl 0 rfl) ?_
        refine va_get (D := D) (ci := 8) (v := .ref a_t_roll) (C := RX9) (T := TX9) (N := 9) hx hb hts hinX9 hown hK hP 0 rfl rfl 1 (by decide) hfl13 (fun _ h9 => h9) rfl dX9_sort_64 ?_
        refine lv_iload hx hb dX9_sort_67 (lv_at hl 5 rfl) ?_
        obtain ⟨hq69, h⟩ := chk_h h
        refine va_lald hx hb hK hP 1 0 rfl rfl hq69 dX9_sort_69 ?_
        refine lv_aload_n hx hb dX9_sort_70 rfl (lv_at hl 0 rfl) ?_
        refine va_get (D := D) (ci := 8) (v := .ref a_t_roll) (C := RX9) (T := TX9) (N := 9) hx hb hts hinX9 hown hK hP 0 rfl rfl 1 (by decide) hfl13 (fun _ h9 => h9) rfl dX9_sort_71 ?_
        refine lv_iload_n hx hb dX9_sort_74 rfl (lv_at hl 3 rfl) ?_
        obtain ⟨hq75, h⟩ := chk_h h
        refine va_lald hx hb hK hP 1 0 rfl rfl hq75 dX9_sort_75 ?_
        refine W.lcmp hx hb dX9_sort_76 ?_
        refine lv_if_lt (tgt := 103) hx hb dX9_sort_77 (by decide) (fun c77 => ?_) (fun c77 => ?_)
        · have c77 := (lg_cmp_lt _ _).mp c77
          have h := it_ c77 h
          exact hj103 y5_28 y4_28 h ls (lv_sub hl [0, 1, 2, 3, 5] rfl)
        · have c77 := fun z => c77 ((lg_cmp_lt _ _).mpr z)
          have h := if_ c77 h
          exact hj80 y5_28 y4_28 h ls (lv_sub hl [0, 1, 2, 3, 5] rfl)
      · have h := if_ c40 h
        refine lv_aload_n hx hb dX9_sort_43 rfl (lv_at hl 0 rfl) ?_
        refine va_get (D := D) (ci := 8) (v := .ref a_t_roll) (C := RX9) (T := TX9) (N := 9) hx hb hts hinX9 hown hK hP 0 rfl rfl 1 (by decide) hfl13 (fun _ h9 => h9) rfl dX9_sort_44 ?_
        refine lv_iload hx hb dX9_sort_47 (lv_at hl 5 rfl) ?_
        obtain ⟨hq49, h⟩ := chk_h h
        refine va_lald hx hb hK hP 1 0 rfl rfl hq49 dX9_sort_49 ?_
        refine lv_aload_n hx hb dX9_sort_50 rfl (lv_at hl 0 rfl) ?_
        refine va_get (D := D) (ci := 8) (v := .ref a_t_roll) (C := RX9) (T := TX9) (N := 9) hx hb hts hinX9 hown hK hP 0 rfl rfl 1 (by decide) hfl13 (fun _ h9 => h9) rfl dX9_sort_51 ?_
        refine lv_iload_n hx hb dX9_sort_54 rfl (lv_at hl 3 rfl) ?_
        obtain ⟨hq55, h⟩ := chk_h h
        refine va_lald hx hb hK hP 1 0 rfl rfl hq55 dX9_sort_55 ?_
        refine W.lcmp hx hb dX9_sort_56 ?_
        refine lv_if_le (tgt := 80) hx hb dX9_sort_57 (by decide) (fun c57 => ?_) (fun c57 => ?_)
        · have c57 := (lg_cmp_le _ _).mp c57
          have h := it_ c57 h
          exact hj80 y5_28 y4_28 h ls (lv_sub hl [0, 1, 2, 3, 5] rfl)
        · have c57 := fun z => c57 ((lg_cmp_le _ _).mpr z)
          have h := if_ c57 h
          refine lv_goto (tgt := 103) hx hb dX9_sort_60 (by decide) ?_
          exact hj103 y5_28 y4_28 h ls (lv_sub hl [0, 1, 2, 3, 5] rfl)

noncomputable abbrev rmX9_turnAll : Room := { frames := 4, cells := 0, slots := 0, locals := 89 }
theorem ydX9_turnAll : yX9_turnAll.cls = RX9 ∧ yX9_turnAll.cls ≠ "java/lang/invoke/MethodHandle" ∧ yX9_turnAll.cls ≠ "java/lang/invoke/VarHandle" ∧ (parseMethodDescriptor yX9_turnAll.desc).map (fun d => d.parameters.length) = some 0 := by decide +kernel
noncomputable def S_X9_turnAll_9 (c_t_many_z9 : Int32) (k59 : Int32 → (Nat → Int64) → Option (Int32 × Int32 × Int32 × (Nat → Int64))) (ih9 : Int32 → Int32 → (Nat → Int64) → Option (Int32 × Int32 × Int32 × (Nat → Int64))) (y1_9 : Int32) (y2_9 : Int32) (f_t_roll_9 : Nat → Int64) : Option (Int32 × Int32 × Int32 × (Nat → Int64)) :=
 (if c_t_many_z9 ≤ y2_9 then
 k59 y1_9 f_t_roll_9
else
 chk (¬ (y2_9 < 0 ∨ 12 ≤ y2_9.toNatClampNeg)) (
 obn (F_X9_turnedOf (f_t_roll_9 y2_9.toNatClampNeg)) (fun r23 =>
 chk (¬ (y2_9 < 0 ∨ 12 ≤ y2_9.toNatClampNeg)) (
 (if r23 = (f_t_roll_9 y2_9.toNatClampNeg) then
 bnd (y1_9 + (0 : Int32)) (fun x1_45 =>
 chk (¬ (y2_9 < 0 ∨ 12 ≤ y2_9.toNatClampNeg)) (
 bnd (vp_updL f_t_roll_9 y2_9.toNatClampNeg r23) (fun f_t_roll_52 =>
 bnd (y2_9 + 1) (fun x2_53 =>
 ih9 x1_45 x2_53 f_t_roll_52))))
else
 bnd (y1_9 + (1 : Int32)) (fun x1_45 =>
 chk (¬ (y2_9 < 0 ∨ 12 ≤ y2_9.toNatClampNeg)) (
 bnd (vp_updL f_t_roll_9 y2_9.toNatClampNeg r23) (fun f_t_roll_52 =>
 bnd (y2_9 + 1) (fun x2_53 =>
 ih9 x1_45 x2_53 f_t_roll_52)))))))))
noncomputable def F_X9_turnAll (c_t_many : Int32) (c_t_acts : Int32) (f_t_roll : Nat → Int64) : Option (Int32 × Int32 × Int32 × (Nat → Int64)) :=
 LQ3 (S_X9_turnAll_9 c_t_many (fun y1_9_59 f_t_roll_9_59 =>
 obn2 (F_X9_done c_t_acts y1_9_59) (fun r61 c_t_acts_61 =>
 some (r61, c_t_acts_61, (0 : Int32), f_t_roll_9_59)))) 20000 (0 : Int32) (0 : Int32) f_t_roll
set_option maxHeartbeats 4000000 in
set_option maxRecDepth 100000 in
theorem c_X9_turnAll (l : Launch) (D : va_G) (cyJ : ClassId) (sz : Nat) (a_t : Nat) (a_t_forms : Nat) (a_t_roll : Nat) (c_t_many : Int32) (c_t_taps : Int64) (c_t_cells : Int32) (c_t_acts : Int32) (c_t_refused : Int32) (c_t_knocks : Int32) (c_t_thrown : Int32) (f_t_roll : Nat → Int64) (r0 : Int32) (o_c_t_acts : Int32) (o_c_t_thrown : Int32) (o_f_t_roll : Nat → Int64) (hF : F_X9_turnAll c_t_many c_t_acts f_t_roll = some (r0, o_c_t_acts, o_c_t_thrown, o_f_t_roll)) : Met l yX9_turnAll wsX9_turnAll rmX9_turnAll (va_Pc [.ref a_t] (wPD D [(cyJ, .long)] [(a_t, .inr (8, [.ref a_t_forms, .ref a_t_roll, .int c_t_many, .long c_t_taps, .int c_t_cells, .int c_t_acts, .int c_t_refused, .int c_t_knocks, .int c_t_thrown])), (a_t_roll, .inl (cyJ, 12, .inr (.inl f_t_roll)))] sz)) (va_Qi (fun (r : Int32) (_ : Unit) => r = r0) (fun _ t => wQA D [(a_t, .inr (8, [.ref a_t_forms, .ref a_t_roll, .int c_t_many, .long c_t_taps, .int c_t_cells, .int o_c_t_acts, .int c_t_refused, .int c_t_knocks, .int o_c_t_thrown])), (a_t_roll, .inl (cyJ, 12, .inr (.inl o_f_t_roll)))] (va_A [(a_t, .inr (8, [.ref a_t_forms, .ref a_t_roll, .int c_t_many, .long c_t_taps, .int c_t_cells, .int c_t_acts, .int c_t_refused, .int c_t_knocks, .int c_t_thrown])), (a_t_roll, .inl (cyJ, 12, .inr (.inl f_t_roll)))] sz) t) (va_A [(a_t, .inr (8, [.ref a_t_forms, .ref a_t_roll, .int c_t_many, .long c_t_taps, .int c_t_cells, .int c_t_acts, .int c_t_refused, .int c_t_knocks, .int c_t_thrown])), (a_t_roll, .inl (cyJ, 12, .inr (.inl f_t_roll)))] sz)) 0 0 (va_A [(a_t, .inr (8, [.ref a_t_forms, .ref a_t_roll, .int c_t_many, .long c_t_taps, .int c_t_cells, .int c_t_acts, .int c_t_refused, .int c_t_knocks, .int c_t_thrown])), (a_t_roll, .inl (cyJ, 12, .inr (.inl f_t_roll)))] sz) := by
  refine Met.ofW (cc := cX9_turnAll) (maxL := 5) (ret := (some .int)) (by decide) rfl ?_
  intro p e s m args below meth c s₁ B hml hv
  obtain ⟨rfl, hsz, hP, hK, hD0, hnw⟩ := hv
  have hx := B.exec
  have hb := B.bytes
  have hr := B.returns
  have hts := atoms_spec (ws := wsX9_turnAll) B.pre
  have hown : s.vm.findClass RX9 = some m.cls := findClass_of_methodNamed B.named
  have hlocks := B.notSynchronized
  have hcf : CallFix _ _ _ _ _ _ _ _ _ := ⟨hx, hb, hml, hown, hts⟩
  have hinX9 : ∀ w ∈ u_ws RX9 TX9 9, w ∈ wsX9_turnAll := by decide +kernel
  have hfl26 := hts (.fieldLink RX9 26 "FormwheelModel" "thrown" "I") (by decide +kernel)
  have hfl123 := hts (.fieldLink RX9 123 "FormwheelModel" "many" "I") (by decide +kernel)
  have hfl13 := hts (.fieldLink RX9 13 "FormwheelModel" "roll" "[J") (by decide +kernel)
  subst hsz
  have hD := hD0.self (sz := s.heap.size)
  generalize hAe : va_A [(a_t, .inr (8, [.ref a_t_forms, .ref a_t_roll, .int c_t_many, .long c_t_taps, .int c_t_cells, .int c_t_acts, .int c_t_refused, .int c_t_knocks, .int c_t_thrown])), (a_t_roll, .inl (cyJ, 12, .inr (.inl f_t_roll)))] s.heap.size = A at hD ⊢
  have hA : ∀ q : Nat, s.heap.size ≤ q → A q := fun q h => by rw [← hAe]; exact Or.inr h
  have hS : va_S A s.heap s.heap [] := va_S.rf
  have hP : va_P D vwCl [(a_t, .inr (8, [.ref a_t_forms, .ref a_t_roll, .int c_t_many, .long c_t_taps, .int c_t_cells, .int c_t_acts, .int c_t_refused, .int c_t_knocks, .int c_t_thrown])), (a_t_roll, .inl (cyJ, 12, .inr (.inl f_t_roll)))] s.heap := hP
  have hK0 := hK
  have hl := lv_entry ([.ref a_t]) (n := 5) (Nat.le_of_ble_eq_true rfl)
  rw [lg_entry_eq]
  generalize (lg_sl ([.ref a_t]) ++ List.replicate (5 - (lg_sl ([.ref a_t])).length) Slot.unset).toArray = ls at hl ⊢
  have hl : lv_has ls 5 [(0, .ref a_t)] := hl
  have h := hF
  clear hF
  unfold F_X9_turnAll at h
  refine lv_aload_n hx hb dX9_turnAll_0 rfl (lv_at hl 0 rfl) ?_
  refine lv_iconst (v := 0) hx hb dX9_turnAll_1 (by decide) ?_
  refine va_put (D := D) (ci := 8) (v := .int (0 : Int32)) (ty := .int) (C := RX9) (T := TX9) (N := 9) hx hb hts hinX9 tyX9 tyX9_ok nmX9 hown hK hP hD hS 0 rfl rfl 8 (by decide) hfl26 (fun _ h9 => h9) rfl (by decide +kernel) rfl rfl (Nat.le_of_ble_eq_true rfl) dX9_turnAll_2 (fun H locs hP hD hS => ?_)
  have hP : va_P D vwCl [(a_t, .inr (8, [.ref a_t_forms, .ref a_t_roll, .int c_t_many, .long c_t_taps, .int c_t_cells, .int c_t_acts, .int c_t_refused, .int c_t_knocks, .int (0 : Int32)])), (a_t_roll, .inl (cyJ, 12, .inr (.inl f_t_roll)))] H := hP
  have hD : va_D A [(a_t, .inr (8, [.ref a_t_forms, .ref a_t_roll, .int c_t_many, .long c_t_taps, .int c_t_cells, .int c_t_acts, .int c_t_refused, .int c_t_knocks, .int (0 : Int32)])), (a_t_roll, .inl (cyJ, 12, .inr (.inl f_t_roll)))] := hD
  refine lv_iconst (v := 0) hx hb dX9_turnAll_5 (by decide) ?_
  refine lv_istore_n (lv' := [(1, .int (0 : Int32)), (0, .ref a_t)]) hx hb dX9_turnAll_6 rfl hl (by decide) rfl (fun ls hl => ?_)
  refine lv_iconst (v := 0) hx hb dX9_turnAll_7 (by decide) ?_
  refine lv_istore_n (lv' := [(2, .int (0 : Int32)), (1, .int (0 : Int32)), (0, .ref a_t)]) hx hb dX9_turnAll_8 rfl hl (by decide) rfl (fun ls hl => ?_)
  refine LQ3_k1 (M := fun (y1_9 : Int32) (y2_9 : Int32) (f_t_roll_9 : Nat → Int64) => ∀ (H : Heap) (locs : List Loc), va_P D vwCl [(a_t, .inr (8, [.ref a_t_forms, .ref a_t_roll, .int c_t_many, .long c_t_taps, .int c_t_cells, .int c_t_acts, .int c_t_refused, .int c_t_knocks, .int (0 : Int32)])), (a_t_roll, .inl (cyJ, 12, .inr (.inl f_t_roll_9)))] H → va_D A [(a_t, .inr (8, [.ref a_t_forms, .ref a_t_roll, .int c_t_many, .long c_t_taps, .int c_t_cells, .int c_t_acts, .int c_t_refused, .int c_t_knocks, .int (0 : Int32)])), (a_t_roll, .inl (cyJ, 12, .inr (.inl f_t_roll_9)))] → va_S A s.heap H locs → ∀ (ls : Array Slot), lv_has ls 5 [(0, .ref a_t), (1, .int y1_9), (2, .int y2_9)] → W p l e rmX9_turnAll s m ([.ref a_t] : List Value).toArray below meth c H locs 0 0 (MQ below (va_Qi (fun (r : Int32) (_ : Unit) => r = r0) (fun _ t => wQA D [(a_t, .inr (8, [.ref a_t_forms, .ref a_t_roll, .int c_t_many, .long c_t_taps, .int c_t_cells, .int o_c_t_acts, .int c_t_refused, .int c_t_knocks, .int o_c_t_thrown])), (a_t_roll, .inl (cyJ, 12, .inr (.inl o_f_t_roll)))] A t) A) ([.ref a_t] : List Value).toArray s 0 0 A) (F0 m 9 ls [])) ?_ _ _ _ _ h _ _ hP hD hS ls (lv_sub hl [2, 1, 0] rfl)
  intro k59 hk59 ih9 hih9 y1_9 y2_9 f_t_roll_9 h H locs hP hD hS ls hl
  unfold S_X9_turnAll_9 at h
  refine lv_iload_n hx hb dX9_turnAll_9 rfl (lv_at hl 2 rfl) ?_
  refine lv_aload_n hx hb dX9_turnAll_10 rfl (lv_at hl 0 rfl) ?_
  refine va_get (D := D) (ci := 8) (v := .int c_t_many) (C := RX9) (T := TX9) (N := 9) hx hb hts hinX9 hown hK hP 0 rfl rfl 2 (by decide) hfl123 (fun _ h9 => h9) rfl dX9_turnAll_11 ?_
  refine lv_icmp_ge (tgt := 59) hx hb dX9_turnAll_14 (by decide) (fun c14 => ?_) (fun c14 => ?_)
  · have h := it_ c14 h
    rw [hk59] at h
    refine lv_aload_n hx hb dX9_turnAll_59 rfl (lv_at hl 0 rfl) ?_
    refine lv_iload_n hx hb dX9_turnAll_60 rfl (lv_at hl 1 rfl) ?_
    obtain ⟨r61, c_t_acts_61, hc61, h⟩ := obn2_h h
    have hPc := hP.sub (ws' := [(a_t, .inr (8, [.ref a_t_forms, .ref a_t_roll, .int c_t_many, .long c_t_taps, .int c_t_cells, .int c_t_acts, .int c_t_refused, .int c_t_knocks, .int (0 : Int32)]))]) [0] rfl
    have hDc := hD.sub (ws' := [(a_t, .inr (8, [.ref a_t_forms, .ref a_t_roll, .int c_t_many, .long c_t_taps, .int c_t_cells, .int c_t_acts, .int c_t_refused, .int c_t_knocks, .int (0 : Int32)]))]) [0] (by decide) rfl
    refine hp_i (w1 := [(a_t, .inr (8, [.ref a_t_forms, .ref a_t_roll, .int c_t_many, .long c_t_taps, .int c_t_cells, .int c_t_acts_61, .int c_t_refused, .int c_t_knocks, .int (0 : Int32)]))]) (wr := [(a_t_roll, .inl (cyJ, 12, .inr (.inl f_t_roll_9)))]) (va_runV (As := [.int y1_9]) (rest := []) hcf (c_X9_done l D cyJ H.size a_t a_t_forms a_t_roll c_t_many c_t_taps c_t_cells c_t_acts c_t_refused c_t_knocks (0 : Int32) y1_9 r61 c_t_acts_61 hc61) (cwV 1 hts gX9_turnAll_X9_done rfl rfl rfl ydX9_done ⟨Nat.le_of_ble_eq_true rfl, Nat.le_of_ble_eq_true rfl⟩) ⟨bl_PD, va_recv hK hP (ci := 8) (q0 := 0) rfl rfl, pr_PD hPc hK0 hDc hnw⟩ rfl rfl hl.1 rfl (lv_room (Nat.le_of_ble_eq_true rfl)) dX9_turnAll_61 ⟨Nat.le_of_ble_eq_true rfl, Nat.le_of_ble_eq_true rfl⟩) hP hD hS hA [0] [1] rfl rfl (by decide) (by decide) (fun H locs hP hD hS => ?_)
    have hP : va_P D vwCl [(a_t_roll, .inl (cyJ, 12, .inr (.inl f_t_roll_9))), (a_t, .inr (8, [.ref a_t_forms, .ref a_t_roll, .int c_t_many, .long c_t_taps, .int c_t_cells, .int c_t_acts_61, .int c_t_refused, .int c_t_knocks, .int (0 : Int32)]))] H := hP
    have hD : va_D A [(a_t_roll, .inl (cyJ, 12, .inr (.inl f_t_roll_9))), (a_t, .inr (8, [.ref a_t_forms, .ref a_t_roll, .int c_t_many, .long c_t_taps, .int c_t_cells, .int c_t_acts_61, .int c_t_refused, .int c_t_knocks, .int (0 : Int32)]))] := hD
    obtain ⟨e0, e1, e2, e3⟩ := tup4 h
    subst e0
    subst e1
    subst e2
    subst e3
    have hP9 : va_P D vwCl [(a_t, .inr (8, [.ref a_t_forms, .ref a_t_roll, .int c_t_many, .long c_t_taps, .int c_t_cells, .int c_t_acts_61, .int c_t_refused, .int c_t_knocks, .int (0 : Int32)])), (a_t_roll, .inl (cyJ, 12, .inr (.inl f_t_roll_9)))] H := hP.sub [1, 0] rfl
    have hD9 : va_D A [(a_t, .inr (8, [.ref a_t_forms, .ref a_t_roll, .int c_t_many, .long c_t_taps, .int c_t_cells, .int c_t_acts_61, .int c_t_refused, .int c_t_knocks, .int (0 : Int32)])), (a_t_roll, .inl (cyJ, 12, .inr (.inl f_t_roll_9)))] := hD.sub [1, 0] (by decide) rfl
    exact W.iret hx hb hr (fun t ht hW => ⟨⟨_, (), rfl, rfl, wQA_of ht hP9 hD9⟩, hS.F ht⟩) hS.2.2 dX9_turnAll_64
  · have h := if_ c14 h
    refine lv_aload_n hx hb dX9_turnAll_17 rfl (lv_at hl 0 rfl) ?_
    refine va_get (D := D) (ci := 8) (v := .ref a_t_roll) (C := RX9) (T := TX9) (N := 9) hx hb hts hinX9 hown hK hP 0 rfl rfl 1 (by decide) hfl13 (fun _ h9 => h9) rfl dX9_turnAll_18 ?_
    refine lv_iload_n hx hb dX9_turnAll_21 rfl (lv_at hl 2 rfl) ?_
    obtain ⟨hq22, h⟩ := chk_h h
    refine va_lald hx hb hK hP 1 0 rfl rfl hq22 dX9_turnAll_22 ?_
    obtain ⟨r23, hc23, h⟩ := obn_h h
    refine pz_callS (As := [.long (f_t_roll_9 y2_9.toNatClampNeg)]) (rest := []) hcf (c_X9_turnedOf l (f_t_roll_9 y2_9.toNatClampNeg) r23 hc23) (va_cwS 1 hts gX9_turnAll_X9_turnedOf rfl rfl rfl ydX9_turnedOf ⟨Nat.le_of_ble_eq_true rfl, Nat.le_of_ble_eq_true rfl⟩) hnw rfl hl.1 rfl (Nat.le_of_ble_eq_true rfl) dX9_turnAll_23 ⟨Nat.le_of_ble_eq_true rfl, Nat.le_of_ble_eq_true rfl⟩ ?_
    refine lv_lstore_n (lv' := [(3, .long r23), (0, .ref a_t), (1, .int y1_9), (2, .int y2_9)]) hx hb dX9_turnAll_26 rfl hl (by decide) rfl (fun ls hl => ?_)
    refine lv_iload_n hx hb dX9_turnAll_27 rfl (lv_at hl 2 rfl) ?_
    refine lv_lload_n hx hb dX9_turnAll_28 rfl (lv_at hl 0 rfl) ?_
    refine lv_aload_n hx hb dX9_turnAll_29 rfl (lv_at hl 1 rfl) ?_
    refine va_get (D := D) (ci := 8) (v := .ref a_t_roll) (C := RX9) (T := TX9) (N := 9) hx hb hts hinX9 hown hK hP 0 rfl rfl 1 (by decide) hfl13 (fun _ h9 => h9) rfl dX9_turnAll_30 ?_
    refine lv_iload_n hx hb dX9_turnAll_33 rfl (lv_at hl 3 rfl) ?_
    obtain ⟨hq34, h⟩ := chk_h h
    refine va_lald hx hb hK hP 1 0 rfl rfl hq34 dX9_turnAll_34 ?_
    refine W.lcmp hx hb dX9_turnAll_35 ?_
    refine lv_if_ne (tgt := 43) hx hb dX9_turnAll_36 (by decide) (fun c36 => ?_) (fun c36 => ?_)
    · have c36 := fun z => c36 ((lg_cmp_eq _ _).mpr z)
      have h := if_ c36 h
      refine lv_iconst (v := 1) hx hb dX9_turnAll_43 (by decide) ?_
      refine lv_iadd hx hb dX9_turnAll_44 ?_
      refine lv_topi (fun x1_45 e_x1_45 => ?_)
      have h := bnd_h e_x1_45 h
      refine lv_istore_n (lv' := [(1, .int x1_45), (3, .long r23), (0, .ref a_t), (2, .int y2_9)]) hx hb dX9_turnAll_45 rfl hl (by decide) rfl (fun ls hl => ?_)
      refine lv_aload_n hx hb dX9_turnAll_46 rfl (lv_at hl 2 rfl) ?_
      refine va_get (D := D) (ci := 8) (v := .ref a_t_roll) (C := RX9) (T := TX9) (N := 9) hx hb hts hinX9 hown hK hP 0 rfl rfl 1 (by decide) hfl13 (fun _ h9 => h9) rfl dX9_turnAll_47 ?_
      refine lv_iload_n hx hb dX9_turnAll_50 rfl (lv_at hl 3 rfl) ?_
      refine lv_lload_n hx hb dX9_turnAll_51 rfl (lv_at hl 1 rfl) ?_
      obtain ⟨hq52, h⟩ := chk_h h
      refine va_last hx hb hK hP hD hS 1 0 rfl rfl hq52 dX9_turnAll_52 (fun H locs hP hD hS => ?_)
      obtain ⟨f_t_roll_52, e_f_t_roll_52⟩ : ∃ z, z = vp_updL f_t_roll_9 y2_9.toNatClampNeg r23 := ⟨_, rfl⟩
      have h := bnd_h e_f_t_roll_52 h
      have hP : va_P D vwCl [(a_t, .inr (8, [.ref a_t_forms, .ref a_t_roll, .int c_t_many, .long c_t_taps, .int c_t_cells, .int c_t_acts, .int c_t_refused, .int c_t_knocks, .int (0 : Int32)])), (a_t_roll, .inl (cyJ, 12, .inr (.inl f_t_roll_52)))] H := by rw [e_f_t_roll_52]; exact hP
      have hD : va_D A [(a_t, .inr (8, [.ref a_t_forms, .ref a_t_roll, .int c_t_many, .long c_t_taps, .int c_t_cells, .int c_t_acts, .int c_t_refused, .int c_t_knocks, .int (0 : Int32)])), (a_t_roll, .inl (cyJ, 12, .inr (.inl f_t_roll_52)))] := by rw [e_f_t_roll_52]; exact hD
      obtain ⟨x2_53, e_x2_53⟩ : ∃ z : Int32, z = y2_9 + 1 := ⟨_, rfl⟩
      have h := bnd_h e_x2_53 h
      refine lv_iinc (v := x2_53) (lv' := [(2, .int x2_53), (1, .int x1_45), (3, .long r23), (0, .ref a_t)]) hx hb dX9_turnAll_53 hl (k := 3) rfl (by rw [e_x2_53]; rfl) (by decide) rfl (fun ls hl => ?_)
      refine lv_goto (tgt := 9) hx hb dX9_turnAll_56 (by decide) ?_
      exact hih9 x1_45 x2_53 f_t_roll_52 h _ _ (hP.sub [0, 1] rfl) (hD.sub [0, 1] (by decide) rfl) hS ls (lv_sub hl [3, 1, 0] rfl)
    · have c36 := (lg_cmp_eq _ _).mp c36
      have h := it_ c36 h
      refine lv_iconst (v := 0) hx hb dX9_turnAll_39 (by decide) ?_
      refine lv_goto (tgt := 44) hx hb dX9_turnAll_40 (by decide) ?_
      refine lv_iadd hx hb dX9_turnAll_44 ?_
      refine lv_topi (fun x1_45 e_x1_45 => ?_)
      have h := bnd_h e_x1_45 h
      refine lv_istore_n (lv' := [(1, .int x1_45), (3, .long r23), (0, .ref a_t), (2, .int y2_9)]) hx hb dX9_turnAll_45 rfl hl (by decide) rfl (fun ls hl => ?_)
      refine lv_aload_n hx hb dX9_turnAll_46 rfl (lv_at hl 2 rfl) ?_
      refine va_get (D := D) (ci := 8) (v := .ref a_t_roll) (C := RX9) (T := TX9) (N := 9) hx hb hts hinX9 hown hK hP 0 rfl rfl 1 (by decide) hfl13 (fun _ h9 => h9) rfl dX9_turnAll_47 ?_
      refine lv_iload_n hx hb dX9_turnAll_50 rfl (lv_at hl 3 rfl) ?_
      refine lv_lload_n hx hb dX9_turnAll_51 rfl (lv_at hl 1 rfl) ?_
      obtain ⟨hq52, h⟩ := chk_h h
      refine va_last hx hb hK hP hD hS 1 0 rfl rfl hq52 dX9_turnAll_52 (fun H locs hP hD hS => ?_)
      obtain ⟨f_t_roll_52, e_f_t_roll_52⟩ : ∃ z, z = vp_updL f_t_roll_9 y2_9.toNatClampNeg r23 := ⟨_, rfl⟩
      have h := bnd_h e_f_t_roll_52 h
      have hP : va_P D vwCl [(a_t, .inr (8, [.ref a_t_forms, .ref a_t_roll, .int c_t_many, .long c_t_taps, .int c_t_cells, .int c_t_acts, .int c_t_refused, .int c_t_knocks, .int (0 : Int32)])), (a_t_roll, .inl (cyJ, 12, .inr (.inl f_t_roll_52)))] H := by rw [e_f_t_roll_52]; exact hP
      have hD : va_D A [(a_t, .inr (8, [.ref a_t_forms, .ref a_t_roll, .int c_t_many, .long c_t_taps, .int c_t_cells, .int c_t_acts, .int c_t_refused, .int c_t_knocks, .int (0 : Int32)])), (a_t_roll, .inl (cyJ, 12, .inr (.inl f_t_roll_52)))] := by rw [e_f_t_roll_52]; exact hD
      obtain ⟨x2_53, e_x2_53⟩ : ∃ z : Int32, z = y2_9 + 1 := ⟨_, rfl⟩
      have h := bnd_h e_x2_53 h
      refine lv_iinc (v := x2_53) (lv' := [(2, .int x2_53), (1, .int x1_45), (3, .long r23), (0, .ref a_t)]) hx hb dX9_turnAll_53 hl (k := 3) rfl (by rw [e_x2_53]; rfl) (by decide) rfl (fun ls hl => ?_)
      refine lv_goto (tgt := 9) hx hb dX9_turnAll_56 (by decide) ?_
      exact hih9 x1_45 x2_53 f_t_roll_52 h _ _ (hP.sub [0, 1] rfl) (hD.sub [0, 1] (by decide) rfl) hS ls (lv_sub hl [3, 1, 0] rfl)

noncomputable abbrev rmX9_take : Room := { frames := 4, cells := 0, slots := 0, locals := 87 }
theorem ydX9_take : yX9_take.cls = RX9 ∧ yX9_take.cls ≠ "java/lang/invoke/MethodHandle" ∧ yX9_take.cls ≠ "java/lang/invoke/VarHandle" ∧ (parseMethodDescriptor yX9_take.desc).map (fun d => d.parameters.length) = some 2 := by decide +kernel
noncomputable def F_X9_take (c_t_many : Int32) (c_t_acts : Int32) (f_t_forms : Nat → Int64) (f_t_roll : Nat → Int64) (p0 : Int32) (p1 : Int32) : Option (Int32 × Int32 × Int32 × (Nat → Int64)) :=
 (if p0 < 0 then
 obn2 (F_X9_isThrown_ (1 : Int32)) (fun r25 c_t_thrown_25 =>
 (if r25 = 0 then
 chk (¬ (p0 < 0 ∨ 12 ≤ p0.toNatClampNeg)) (
 obn3 (F_X9_give c_t_acts f_t_forms p1 (f_t_roll p0.toNatClampNeg)) (fun r43 c_t_acts_43 f_t_forms_43 =>
 some (r43, c_t_acts_43, c_t_thrown_25, f_t_forms_43)))
else
 some ((0 : Int32), c_t_acts, c_t_thrown_25, f_t_forms)))
else
 (if c_t_many ≤ p0 then
 obn2 (F_X9_isThrown_ (1 : Int32)) (fun r25 c_t_thrown_25 =>
 (if r25 = 0 then
 chk (¬ (p0 < 0 ∨ 12 ≤ p0.toNatClampNeg)) (
 obn3 (F_X9_give c_t_acts f_t_forms p1 (f_t_roll p0.toNatClampNeg)) (fun r43 c_t_acts_43 f_t_forms_43 =>
 some (r43, c_t_acts_43, c_t_thrown_25, f_t_forms_43)))
else
 some ((0 : Int32), c_t_acts, c_t_thrown_25, f_t_forms)))
else
 obn (F_X9_isForm p1) (fun r14 =>
 (if r14 = 0 then
 obn2 (F_X9_isThrown_ (1 : Int32)) (fun r25 c_t_thrown_25 =>
 (if r25 = 0 then
 chk (¬ (p0 < 0 ∨ 12 ≤ p0.toNatClampNeg)) (
 obn3 (F_X9_give c_t_acts f_t_forms p1 (f_t_roll p0.toNatClampNeg)) (fun r43 c_t_acts_43 f_t_forms_43 =>
 some (r43, c_t_acts_43, c_t_thrown_25, f_t_forms_43)))
else
 some ((0 : Int32), c_t_acts, c_t_thrown_25, f_t_forms)))
else
 obn2 (F_X9_isThrown_ (0 : Int32)) (fun r25 c_t_thrown_25 =>
 (if r25 = 0 then
 chk (¬ (p0 < 0 ∨ 12 ≤ p0.toNatClampNeg)) (
 obn3 (F_X9_give c_t_acts f_t_forms p1 (f_t_roll p0.toNatClampNeg)) (fun r43 c_t_acts_43 f_t_forms_43 =>
 some (r43, c_t_acts_43, c_t_thrown_25, f_t_forms_43)))
else
 some ((0 : Int32), c_t_acts, c_t_thrown_25, f_t_forms)))))))
set_option maxHeartbeats 4000000 in
set_option maxRecDepth 100000 in
theorem c_X9_take (l : Launch) (D : va_G) (cyJ : ClassId) (sz : Nat) (a_t : Nat) (a_t_forms : Nat) (a_t_roll : Nat) (c_t_many : Int32) (c_t_taps : Int64) (c_t_cells : Int32) (c_t_acts : Int32) (c_t_refused : Int32) (c_t_knocks : Int32) (c_t_thrown : Int32) (f_t_forms : Nat → Int64) (f_t_roll : Nat → Int64) (p0 : Int32) (p1 : Int32) (r0 : Int32) (o_c_t_acts : Int32) (o_c_t_thrown : Int32) (o_f_t_forms : Nat → Int64) (hF : F_X9_take c_t_many c_t_acts f_t_forms f_t_roll p0 p1 = some (r0, o_c_t_acts, o_c_t_thrown, o_f_t_forms)) : Met l yX9_take wsX9_take rmX9_take (va_Pc [.ref a_t, .int p0, .int p1] (wPD D [(cyJ, .long)] [(a_t, .inr (8, [.ref a_t_forms, .ref a_t_roll, .int c_t_many, .long c_t_taps, .int c_t_cells, .int c_t_acts, .int c_t_refused, .int c_t_knocks, .int c_t_thrown])), (a_t_forms, .inl (cyJ, 6, .inr (.inl f_t_forms))), (a_t_roll, .inl (cyJ, 12, .inr (.inl f_t_roll)))] sz)) (va_Qi (fun (r : Int32) (_ : Unit) => r = r0) (fun _ t => wQA D [(a_t, .inr (8, [.ref a_t_forms, .ref a_t_roll, .int c_t_many, .long c_t_taps, .int c_t_cells, .int o_c_t_acts, .int c_t_refused, .int c_t_knocks, .int o_c_t_thrown])), (a_t_forms, .inl (cyJ, 6, .inr (.inl o_f_t_forms))), (a_t_roll, .inl (cyJ, 12, .inr (.inl f_t_roll)))] (va_A [(a_t, .inr (8, [.ref a_t_forms, .ref a_t_roll, .int c_t_many, .long c_t_taps, .int c_t_cells, .int c_t_acts, .int c_t_refused, .int c_t_knocks, .int c_t_thrown])), (a_t_forms, .inl (cyJ, 6, .inr (.inl f_t_forms))), (a_t_roll, .inl (cyJ, 12, .inr (.inl f_t_roll)))] sz) t) (va_A [(a_t, .inr (8, [.ref a_t_forms, .ref a_t_roll, .int c_t_many, .long c_t_taps, .int c_t_cells, .int c_t_acts, .int c_t_refused, .int c_t_knocks, .int c_t_thrown])), (a_t_forms, .inl (cyJ, 6, .inr (.inl f_t_forms))), (a_t_roll, .inl (cyJ, 12, .inr (.inl f_t_roll)))] sz)) 0 0 (va_A [(a_t, .inr (8, [.ref a_t_forms, .ref a_t_roll, .int c_t_many, .long c_t_taps, .int c_t_cells, .int c_t_acts, .int c_t_refused, .int c_t_knocks, .int c_t_thrown])), (a_t_forms, .inl (cyJ, 6, .inr (.inl f_t_forms))), (a_t_roll, .inl (cyJ, 12, .inr (.inl f_t_roll)))] sz) := by
  refine Met.ofW (cc := cX9_take) (maxL := 3) (ret := (some .int)) (by decide) rfl ?_
  intro p e s m args below meth c s₁ B hml hv
  obtain ⟨rfl, hsz, hP, hK, hD0, hnw⟩ := hv
  have hx := B.exec
  have hb := B.bytes
  have hr := B.returns
  have hts := atoms_spec (ws := wsX9_take) B.pre
  have hown : s.vm.findClass RX9 = some m.cls := findClass_of_methodNamed B.named
  have hlocks := B.notSynchronized
  have hcf : CallFix _ _ _ _ _ _ _ _ _ := ⟨hx, hb, hml, hown, hts⟩
  have hinX9 : ∀ w ∈ u_ws RX9 TX9 9, w ∈ wsX9_take := by decide +kernel
  have hfl123 := hts (.fieldLink RX9 123 "FormwheelModel" "many" "I") (by decide +kernel)
  have hfl13 := hts (.fieldLink RX9 13 "FormwheelModel" "roll" "[J") (by decide +kernel)
  subst hsz
  have hD := hD0.self (sz := s.heap.size)
  generalize hAe : va_A [(a_t, .inr (8, [.ref a_t_forms, .ref a_t_roll, .int c_t_many, .long c_t_taps, .int c_t_cells, .int c_t_acts, .int c_t_refused, .int c_t_knocks, .int c_t_thrown])), (a_t_forms, .inl (cyJ, 6, .inr (.inl f_t_forms))), (a_t_roll, .inl (cyJ, 12, .inr (.inl f_t_roll)))] s.heap.size = A at hD ⊢
  have hA : ∀ q : Nat, s.heap.size ≤ q → A q := fun q h => by rw [← hAe]; exact Or.inr h
  have hS : va_S A s.heap s.heap [] := va_S.rf
  have hP : va_P D vwCl [(a_t, .inr (8, [.ref a_t_forms, .ref a_t_roll, .int c_t_many, .long c_t_taps, .int c_t_cells, .int c_t_acts, .int c_t_refused, .int c_t_knocks, .int c_t_thrown])), (a_t_forms, .inl (cyJ, 6, .inr (.inl f_t_forms))), (a_t_roll, .inl (cyJ, 12, .inr (.inl f_t_roll)))] s.heap := hP
  have hK0 := hK
  have hl := lv_entry ([.ref a_t, .int p0, .int p1]) (n := 3) (Nat.le_of_ble_eq_true rfl)
  rw [lg_entry_eq]
  generalize (lg_sl ([.ref a_t, .int p0, .int p1]) ++ List.replicate (3 - (lg_sl ([.ref a_t, .int p0, .int p1])).length) Slot.unset).toArray = ls at hl ⊢
  have hl : lv_has ls 3 [(0, .ref a_t), (1, .int p0), (2, .int p1)] := hl
  have h := hF
  clear hF
  unfold F_X9_take at h
  refine lv_aload_n hx hb dX9_take_0 rfl (lv_at hl 0 rfl) ?_
  refine lv_iload_n hx hb dX9_take_1 rfl (lv_at hl 1 rfl) ?_
  refine lv_if_lt (tgt := 20) hx hb dX9_take_2 (by decide) (fun c2 => ?_) (fun c2 => ?_)
  · have h := it_ c2 h
    refine lv_iconst (v := 1) hx hb dX9_take_20 (by decide) ?_
    refine lv_goto (tgt := 25) hx hb dX9_take_21 (by decide) ?_
    obtain ⟨r25, c_t_thrown_25, hc25, h⟩ := obn2_h h
    have hPc := hP.sub (ws' := [(a_t, .inr (8, [.ref a_t_forms, .ref a_t_roll, .int c_t_many, .long c_t_taps, .int c_t_cells, .int c_t_acts, .int c_t_refused, .int c_t_knocks, .int c_t_thrown]))]) [0] rfl
    have hDc := hD.sub (ws' := [(a_t, .inr (8, [.ref a_t_forms, .ref a_t_roll, .int c_t_many, .long c_t_taps, .int c_t_cells, .int c_t_acts, .int c_t_refused, .int c_t_knocks, .int c_t_thrown]))]) [0] (by decide) rfl
    refine hp_i (w1 := [(a_t, .inr (8, [.ref a_t_forms, .ref a_t_roll, .int c_t_many, .long c_t_taps, .int c_t_cells, .int c_t_acts, .int c_t_refused, .int c_t_knocks, .int c_t_thrown_25]))]) (wr := [(a_t_forms, .inl (cyJ, 6, .inr (.inl f_t_forms))), (a_t_roll, .inl (cyJ, 12, .inr (.inl f_t_roll)))]) (va_runV (As := [.int (1 : Int32)]) (rest := []) hcf (c_X9_isThrown_ l D cyJ s.heap.size a_t a_t_forms a_t_roll c_t_many c_t_taps c_t_cells c_t_acts c_t_refused c_t_knocks c_t_thrown (1 : Int32) r25 c_t_thrown_25 hc25) (cwV 1 hts gX9_take_X9_isThrown_ rfl rfl rfl ydX9_isThrown_ ⟨Nat.le_of_ble_eq_true rfl, Nat.le_of_ble_eq_true rfl⟩) ⟨bl_PD, va_recv hK hP (ci := 8) (q0 := 0) rfl rfl, pr_PD hPc hK0 hDc hnw⟩ rfl rfl hl.1 rfl (lv_room (Nat.le_of_ble_eq_true rfl)) dX9_take_25 ⟨Nat.le_of_ble_eq_true rfl, Nat.le_of_ble_eq_true rfl⟩) hP hD hS hA [0] [1, 2] rfl rfl (by decide) (by decide) (fun H locs hP hD hS => ?_)
    have hP : va_P D vwCl [(a_t_forms, .inl (cyJ, 6, .inr (.inl f_t_forms))), (a_t_roll, .inl (cyJ, 12, .inr (.inl f_t_roll))), (a_t, .inr (8, [.ref a_t_forms, .ref a_t_roll, .int c_t_many, .long c_t_taps, .int c_t_cells, .int c_t_acts, .int c_t_refused, .int c_t_knocks, .int c_t_thrown_25]))] H := hP
    have hD : va_D A [(a_t_forms, .inl (cyJ, 6, .inr (.inl f_t_forms))), (a_t_roll, .inl (cyJ, 12, .inr (.inl f_t_roll))), (a_t, .inr (8, [.ref a_t_forms, .ref a_t_roll, .int c_t_many, .long c_t_taps, .int c_t_cells, .int c_t_acts, .int c_t_refused, .int c_t_knocks, .int c_t_thrown_25]))] := hD
    refine lv_if_eq (tgt := 35) hx hb dX9_take_28 (by decide) (fun c28 => ?_) (fun c28 => ?_)
    · have h := it_ c28 h
      refine lv_aload_n hx hb dX9_take_35 rfl (lv_at hl 0 rfl) ?_
      refine lv_iload_n hx hb dX9_take_36 rfl (lv_at hl 2 rfl) ?_
      refine lv_aload_n hx hb dX9_take_37 rfl (lv_at hl 0 rfl) ?_
      refine va_get (D := D) (ci := 8) (v := .ref a_t_roll) (C := RX9) (T := TX9) (N := 9) hx hb hts hinX9 hown hK hP 2 rfl rfl 1 (by decide) hfl13 (fun _ h9 => h9) rfl dX9_take_38 ?_
      refine lv_iload_n hx hb dX9_take_41 rfl (lv_at hl 1 rfl) ?_
      obtain ⟨hq42, h⟩ := chk_h h
      refine va_lald hx hb hK hP 1 0 rfl rfl hq42 dX9_take_42 ?_
      obtain ⟨r43, c_t_acts_43, f_t_forms_43, hc43, h⟩ := obn3_h h
      have hPc := hP.sub (ws' := [(a_t, .inr (8, [.ref a_t_forms, .ref a_t_roll, .int c_t_many, .long c_t_taps, .int c_t_cells, .int c_t_acts, .int c_t_refused, .int c_t_knocks, .int c_t_thrown_25])), (a_t_forms, .inl (cyJ, 6, .inr (.inl f_t_forms)))]) [2, 0] rfl
      have hDc := hD.sub (ws' := [(a_t, .inr (8, [.ref a_t_forms, .ref a_t_roll, .int c_t_many, .long c_t_taps, .int c_t_cells, .int c_t_acts, .int c_t_refused, .int c_t_knocks, .int c_t_thrown_25])), (a_t_forms, .inl (cyJ, 6, .inr (.inl f_t_forms)))]) [2, 0] (by decide) rfl
      refine hp_i (w1 := [(a_t, .inr (8, [.ref a_t_forms, .ref a_t_roll, .int c_t_many, .long c_t_taps, .int c_t_cells, .int c_t_acts_43, .int c_t_refused, .int c_t_knocks, .int c_t_thrown_25])), (a_t_forms, .inl (cyJ, 6, .inr (.inl f_t_forms_43)))]) (wr := [(a_t_roll, .inl (cyJ, 12, .inr (.inl f_t_roll)))]) (va_runV (As := [.int p1, .long (f_t_roll p0.toNatClampNeg)]) (rest := []) hcf (c_X9_give l D cyJ H.size a_t a_t_forms a_t_roll c_t_many c_t_taps c_t_cells c_t_acts c_t_refused c_t_knocks c_t_thrown_25 f_t_forms p1 (f_t_roll p0.toNatClampNeg) r43 c_t_acts_43 f_t_forms_43 hc43) (cwV 2 hts gX9_take_X9_give rfl rfl rfl ydX9_give ⟨Nat.le_of_ble_eq_true rfl, Nat.le_of_ble_eq_true rfl⟩) ⟨bl_PD, va_recv hK hP (ci := 8) (q0 := 2) rfl rfl, pr_PD hPc hK0 hDc hnw⟩ rfl rfl hl.1 rfl (lv_room (Nat.le_of_ble_eq_true rfl)) dX9_take_43 ⟨Nat.le_of_ble_eq_true rfl, Nat.le_of_ble_eq_true rfl⟩) hP hD hS hA [2, 0] [1] rfl rfl (by decide) (by decide) (fun H locs hP hD hS => ?_)
      have hP : va_P D vwCl [(a_t_roll, .inl (cyJ, 12, .inr (.inl f_t_roll))), (a_t, .inr (8, [.ref a_t_forms, .ref a_t_roll, .int c_t_many, .long c_t_taps, .int c_t_cells, .int c_t_acts_43, .int c_t_refused, .int c_t_knocks, .int c_t_thrown_25])), (a_t_forms, .inl (cyJ, 6, .inr (.inl f_t_forms_43)))] H := hP
      have hD : va_D A [(a_t_roll, .inl (cyJ, 12, .inr (.inl f_t_roll))), (a_t, .inr (8, [.ref a_t_forms, .ref a_t_roll, .int c_t_many, .long c_t_taps, .int c_t_cells, .int c_t_acts_43, .int c_t_refused, .int c_t_knocks, .int c_t_thrown_25])), (a_t_forms, .inl (cyJ, 6, .inr (.inl f_t_forms_43)))] := hD
      obtain ⟨e0, e1, e2, e3⟩ := tup4 h
      subst e0
      subst e1
      subst e2
      subst e3
      have hP9 : va_P D vwCl [(a_t, .inr (8, [.ref a_t_forms, .ref a_t_roll, .int c_t_many, .long c_t_taps, .int c_t_cells, .int c_t_acts_43, .int c_t_refused, .int c_t_knocks, .int c_t_thrown_25])), (a_t_forms, .inl (cyJ, 6, .inr (.inl f_t_forms_43))), (a_t_roll, .inl (cyJ, 12, .inr (.inl f_t_roll)))] H := hP.sub [1, 2, 0] rfl
      have hD9 : va_D A [(a_t, .inr (8, [.ref a_t_forms, .ref a_t_roll, .int c_t_many, .long c_t_taps, .int c_t_cells, .int c_t_acts_43, .int c_t_refused, .int c_t_knocks, .int c_t_thrown_25])), (a_t_forms, .inl (cyJ, 6, .inr (.inl f_t_forms_43))), (a_t_roll, .inl (cyJ, 12, .inr (.inl f_t_roll)))] := hD.sub [1, 2, 0] (by decide) rfl
      exact W.iret hx hb hr (fun t ht hW => ⟨⟨_, (), rfl, rfl, wQA_of ht hP9 hD9⟩, hS.F ht⟩) hS.2.2 dX9_take_46
    · have h := if_ c28 h
      refine lv_iconst (v := 0) hx hb dX9_take_31 (by decide) ?_
      refine lv_goto (tgt := 46) hx hb dX9_take_32 (by decide) ?_
      obtain ⟨e0, e1, e2, e3⟩ := tup4 h
      subst e0
      subst e1
      subst e2
      subst e3
      have hP9 : va_P D vwCl [(a_t, .inr (8, [.ref a_t_forms, .ref a_t_roll, .int c_t_many, .long c_t_taps, .int c_t_cells, .int c_t_acts, .int c_t_refused, .int c_t_knocks, .int c_t_thrown_25])), (a_t_forms, .inl (cyJ, 6, .inr (.inl f_t_forms))), (a_t_roll, .inl (cyJ, 12, .inr (.inl f_t_roll)))] H := hP.sub [2, 0, 1] rfl
      have hD9 : va_D A [(a_t, .inr (8, [.ref a_t_forms, .ref a_t_roll, .int c_t_many, .long c_t_taps, .int c_t_cells, .int c_t_acts, .int c_t_refused, .int c_t_knocks, .int c_t_thrown_25])), (a_t_forms, .inl (cyJ, 6, .inr (.inl f_t_forms))), (a_t_roll, .inl (cyJ, 12, .inr (.inl f_t_roll)))] := hD.sub [2, 0, 1] (by decide) rfl
      exact W.iret hx hb hr (fun t ht hW => ⟨⟨_, (), rfl, rfl, wQA_of ht hP9 hD9⟩, hS.F ht⟩) hS.2.2 dX9_take_46
  · have h := if_ c2 h
    refine lv_iload_n hx hb dX9_take_5 rfl (lv_at hl 1 rfl) ?_
    refine lv_aload_n hx hb dX9_take_6 rfl (lv_at hl 0 rfl) ?_
    refine va_get (D := D) (ci := 8) (v := .int c_t_many) (C := RX9) (T := TX9) (N := 9) hx hb hts hinX9 hown hK hP 0 rfl rfl 2 (by decide) hfl123 (fun _ h9 => h9) rfl dX9_take_7 ?_
    refine lv_icmp_ge (tgt := 20) hx hb dX9_take_10 (by decide) (fun c10 => ?_) (fun c10 => ?_)
    · have h := it_ c10 h
      refine lv_iconst (v := 1) hx hb dX9_take_20 (by decide) ?_
      refine lv_goto (tgt := 25) hx hb dX9_take_21 (by decide) ?_
      obtain ⟨r25, c_t_thrown_25, hc25, h⟩ := obn2_h h
      have hPc := hP.sub (ws' := [(a_t, .inr (8, [.ref a_t_forms, .ref a_t_roll, .int c_t_many, .long c_t_taps, .int c_t_cells, .int c_t_acts, .int c_t_refused, .int c_t_knocks, .int c_t_thrown]))]) [0] rfl
      have hDc := hD.sub (ws' := [(a_t, .inr (8, [.ref a_t_forms, .ref a_t_roll, .int c_t_many, .long c_t_taps, .int c_t_cells, .int c_t_acts, .int c_t_refused, .int c_t_knocks, .int c_t_thrown]))]) [0] (by decide) rfl
      refine hp_i (w1 := [(a_t, .inr (8, [.ref a_t_forms, .ref a_t_roll, .int c_t_many, .long c_t_taps, .int c_t_cells, .int c_t_acts, .int c_t_refused, .int c_t_knocks, .int c_t_thrown_25]))]) (wr := [(a_t_forms, .inl (cyJ, 6, .inr (.inl f_t_forms))), (a_t_roll, .inl (cyJ, 12, .inr (.inl f_t_roll)))]) (va_runV (As := [.int (1 : Int32)]) (rest := []) hcf (c_X9_isThrown_ l D cyJ s.heap.size a_t a_t_forms a_t_roll c_t_many c_t_taps c_t_cells c_t_acts c_t_refused c_t_knocks c_t_thrown (1 : Int32) r25 c_t_thrown_25 hc25) (cwV 1 hts gX9_take_X9_isThrown_ rfl rfl rfl ydX9_isThrown_ ⟨Nat.le_of_ble_eq_true rfl, Nat.le_of_ble_eq_true rfl⟩) ⟨bl_PD, va_recv hK hP (ci := 8) (q0 := 0) rfl rfl, pr_PD hPc hK0 hDc hnw⟩ rfl rfl hl.1 rfl (lv_room (Nat.le_of_ble_eq_true rfl)) dX9_take_25 ⟨Nat.le_of_ble_eq_true rfl, Nat.le_of_ble_eq_true rfl⟩) hP hD hS hA [0] [1, 2] rfl rfl (by decide) (by decide) (fun H locs hP hD hS => ?_)
      have hP : va_P D vwCl [(a_t_forms, .inl (cyJ, 6, .inr (.inl f_t_forms))), (a_t_roll, .inl (cyJ, 12, .inr (.inl f_t_roll))), (a_t, .inr (8, [.ref a_t_forms, .ref a_t_roll, .int c_t_many, .long c_t_taps, .int c_t_cells, .int c_t_acts, .int c_t_refused, .int c_t_knocks, .int c_t_thrown_25]))] H := hP
      have hD : va_D A [(a_t_forms, .inl (cyJ, 6, .inr (.inl f_t_forms))), (a_t_roll, .inl (cyJ, 12, .inr (.inl f_t_roll))), (a_t, .inr (8, [.ref a_t_forms, .ref a_t_roll, .int c_t_many, .long c_t_taps, .int c_t_cells, .int c_t_acts, .int c_t_refused, .int c_t_knocks, .int c_t_thrown_25]))] := hD
      refine lv_if_eq (tgt := 35) hx hb dX9_take_28 (by decide) (fun c28 => ?_) (fun c28 => ?_)
      · have h := it_ c28 h
        refine lv_aload_n hx hb dX9_take_35 rfl (lv_at hl 0 rfl) ?_
        refine lv_iload_n hx hb dX9_take_36 rfl (lv_at hl 2 rfl) ?_
        refine lv_aload_n hx hb dX9_take_37 rfl (lv_at hl 0 rfl) ?_
        refine va_get (D := D) (ci := 8) (v := .ref a_t_roll) (C := RX9) (T := TX9) (N := 9) hx hb hts hinX9 hown hK hP 2 rfl rfl 1 (by decide) hfl13 (fun _ h9 => h9) rfl dX9_take_38 ?_
        refine lv_iload_n hx hb dX9_take_41 rfl (lv_at hl 1 rfl) ?_
        obtain ⟨hq42, h⟩ := chk_h h
        refine va_lald hx hb hK hP 1 0 rfl rfl hq42 dX9_take_42 ?_
        obtain ⟨r43, c_t_acts_43, f_t_forms_43, hc43, h⟩ := obn3_h h
        have hPc := hP.sub (ws' := [(a_t, .inr (8, [.ref a_t_forms, .ref a_t_roll, .int c_t_many, .long c_t_taps, .int c_t_cells, .int c_t_acts, .int c_t_refused, .int c_t_knocks, .int c_t_thrown_25])), (a_t_forms, .inl (cyJ, 6, .inr (.inl f_t_forms)))]) [2, 0] rfl
        have hDc := hD.sub (ws' := [(a_t, .inr (8, [.ref a_t_forms, .ref a_t_roll, .int c_t_many, .long c_t_taps, .int c_t_cells, .int c_t_acts, .int c_t_refused, .int c_t_knocks, .int c_t_thrown_25])), (a_t_forms, .inl (cyJ, 6, .inr (.inl f_t_forms)))]) [2, 0] (by decide) rfl
        refine hp_i (w1 := [(a_t, .inr (8, [.ref a_t_forms, .ref a_t_roll, .int c_t_many, .long c_t_taps, .int c_t_cells, .int c_t_acts_43, .int c_t_refused, .int c_t_knocks, .int c_t_thrown_25])), (a_t_forms, .inl (cyJ, 6, .inr (.inl f_t_forms_43)))]) (wr := [(a_t_roll, .inl (cyJ, 12, .inr (.inl f_t_roll)))]) (va_runV (As := [.int p1, .long (f_t_roll p0.toNatClampNeg)]) (rest := []) hcf (c_X9_give l D cyJ H.size a_t a_t_forms a_t_roll c_t_many c_t_taps c_t_cells c_t_acts c_t_refused c_t_knocks c_t_thrown_25 f_t_forms p1 (f_t_roll p0.toNatClampNeg) r43 c_t_acts_43 f_t_forms_43 hc43) (cwV 2 hts gX9_take_X9_give rfl rfl rfl ydX9_give ⟨Nat.le_of_ble_eq_true rfl, Nat.le_of_ble_eq_true rfl⟩) ⟨bl_PD, va_recv hK hP (ci := 8) (q0 := 2) rfl rfl, pr_PD hPc hK0 hDc hnw⟩ rfl rfl hl.1 rfl (lv_room (Nat.le_of_ble_eq_true rfl)) dX9_take_43 ⟨Nat.le_of_ble_eq_true rfl, Nat.le_of_ble_eq_true rfl⟩) hP hD hS hA [2, 0] [1] rfl rfl (by decide) (by decide) (fun H locs hP hD hS => ?_)
        have hP : va_P D vwCl [(a_t_roll, .inl (cyJ, 12, .inr (.inl f_t_roll))), (a_t, .inr (8, [.ref a_t_forms, .ref a_t_roll, .int c_t_many, .long c_t_taps, .int c_t_cells, .int c_t_acts_43, .int c_t_refused, .int c_t_knocks, .int c_t_thrown_25])), (a_t_forms, .inl (cyJ, 6, .inr (.inl f_t_forms_43)))] H := hP
        have hD : va_D A [(a_t_roll, .inl (cyJ, 12, .inr (.inl f_t_roll))), (a_t, .inr (8, [.ref a_t_forms, .ref a_t_roll, .int c_t_many, .long c_t_taps, .int c_t_cells, .int c_t_acts_43, .int c_t_refused, .int c_t_knocks, .int c_t_thrown_25])), (a_t_forms, .inl (cyJ, 6, .inr (.inl f_t_forms_43)))] := hD
        obtain ⟨e0, e1, e2, e3⟩ := tup4 h
        subst e0
        subst e1
        subst e2
        subst e3
        have hP9 : va_P D vwCl [(a_t, .inr (8, [.ref a_t_forms, .ref a_t_roll, .int c_t_many, .long c_t_taps, .int c_t_cells, .int c_t_acts_43, .int c_t_refused, .int c_t_knocks, .int c_t_thrown_25])), (a_t_forms, .inl (cyJ, 6, .inr (.inl f_t_forms_43))), (a_t_roll, .inl (cyJ, 12, .inr (.inl f_t_roll)))] H := hP.sub [1, 2, 0] rfl
        have hD9 : va_D A [(a_t, .inr (8, [.ref a_t_forms, .ref a_t_roll, .int c_t_many, .long c_t_taps, .int c_t_cells, .int c_t_acts_43, .int c_t_refused, .int c_t_knocks, .int c_t_thrown_25])), (a_t_forms, .inl (cyJ, 6, .inr (.inl f_t_forms_43))), (a_t_roll, .inl (cyJ, 12, .inr (.inl f_t_roll)))] := hD.sub [1, 2, 0] (by decide) rfl
        exact W.iret hx hb hr (fun t ht hW => ⟨⟨_, (), rfl, rfl, wQA_of ht hP9 hD9⟩, hS.F ht⟩) hS.2.2 dX9_take_46
      · have h := if_ c28 h
        refine lv_iconst (v := 0) hx hb dX9_take_31 (by decide) ?_
        refine lv_goto (tgt := 46) hx hb dX9_take_32 (by decide) ?_
        obtain ⟨e0, e1, e2, e3⟩ := tup4 h
        subst e0
        subst e1
        subst e2
        subst e3
        have hP9 : va_P D vwCl [(a_t, .inr (8, [.ref a_t_forms, .ref a_t_roll, .int c_t_many, .long c_t_taps, .int c_t_cells, .int c_t_acts, .int c_t_refused, .int c_t_knocks, .int c_t_thrown_25])), (a_t_forms, .inl (cyJ, 6, .inr (.inl f_t_forms))), (a_t_roll, .inl (cyJ, 12, .inr (.inl f_t_roll)))] H := hP.sub [2, 0, 1] rfl
        have hD9 : va_D A [(a_t, .inr (8, [.ref a_t_forms, .ref a_t_roll, .int c_t_many, .long c_t_taps, .int c_t_cells, .int c_t_acts, .int c_t_refused, .int c_t_knocks, .int c_t_thrown_25])), (a_t_forms, .inl (cyJ, 6, .inr (.inl f_t_forms))), (a_t_roll, .inl (cyJ, 12, .inr (.inl f_t_roll)))] := hD.sub [2, 0, 1] (by decide) rfl
        exact W.iret hx hb hr (fun t ht hW => ⟨⟨_, (), rfl, rfl, wQA_of ht hP9 hD9⟩, hS.F ht⟩) hS.2.2 dX9_take_46
    · have h := if_ c10 h
      refine lv_iload_n hx hb dX9_take_13 rfl (lv_at hl 2 rfl) ?_
      obtain ⟨r14, hc14, h⟩ := obn_h h
      refine pz_callS (As := [.int p1]) (rest := [.ref a_t]) hcf (c_X9_isForm l p1 r14 hc14) (va_cwS 1 hts gX9_take_X9_isForm rfl rfl rfl ydX9_isForm ⟨Nat.le_of_ble_eq_true rfl, Nat.le_of_ble_eq_true rfl⟩) hnw rfl hl.1 rfl (Nat.le_of_ble_eq_true rfl) dX9_take_14 ⟨Nat.le_of_ble_eq_true rfl, Nat.le_of_ble_eq_true rfl⟩ ?_
      refine lv_if_ne (tgt := 24) hx hb dX9_take_17 (by decide) (fun c17 => ?_) (fun c17 => ?_)
      · have h := if_ c17 h
        refine lv_iconst (v := 0) hx hb dX9_take_24 (by decide) ?_
        obtain ⟨r25, c_t_thrown_25, hc25, h⟩ := obn2_h h
        have hPc := hP.sub (ws' := [(a_t, .inr (8, [.ref a_t_forms, .ref a_t_roll, .int c_t_many, .long c_t_taps, .int c_t_cells, .int c_t_acts, .int c_t_refused, .int c_t_knocks, .int c_t_thrown]))]) [0] rfl
        have hDc := hD.sub (ws' := [(a_t, .inr (8, [.ref a_t_forms, .ref a_t_roll, .int c_t_many, .long c_t_taps, .int c_t_cells, .int c_t_acts, .int c_t_refused, .int c_t_knocks, .int c_t_thrown]))]) [0] (by decide) rfl
        refine hp_i (w1 := [(a_t, .inr (8, [.ref a_t_forms, .ref a_t_roll, .int c_t_many, .long c_t_taps, .int c_t_cells, .int c_t_acts, .int c_t_refused, .int c_t_knocks, .int c_t_thrown_25]))]) (wr := [(a_t_forms, .inl (cyJ, 6, .inr (.inl f_t_forms))), (a_t_roll, .inl (cyJ, 12, .inr (.inl f_t_roll)))]) (va_runV (As := [.int (0 : Int32)]) (rest := []) hcf (c_X9_isThrown_ l D cyJ s.heap.size a_t a_t_forms a_t_roll c_t_many c_t_taps c_t_cells c_t_acts c_t_refused c_t_knocks c_t_thrown (0 : Int32) r25 c_t_thrown_25 hc25) (cwV 1 hts gX9_take_X9_isThrown_ rfl rfl rfl ydX9_isThrown_ ⟨Nat.le_of_ble_eq_true rfl, Nat.le_of_ble_eq_true rfl⟩) ⟨bl_PD, va_recv hK hP (ci := 8) (q0 := 0) rfl rfl, pr_PD hPc hK0 hDc hnw⟩ rfl rfl hl.1 rfl (lv_room (Nat.le_of_ble_eq_true rfl)) dX9_take_25 ⟨Nat.le_of_ble_eq_true rfl, Nat.le_of_ble_eq_true rfl⟩) hP hD hS hA [0] [1, 2] rfl rfl (by decide) (by decide) (fun H locs hP hD hS => ?_)
        have hP : va_P D vwCl [(a_t_forms, .inl (cyJ, 6, .inr (.inl f_t_forms))), (a_t_roll, .inl (cyJ, 12, .inr (.inl f_t_roll))), (a_t, .inr (8, [.ref a_t_forms, .ref a_t_roll, .int c_t_many, .long c_t_taps, .int c_t_cells, .int c_t_acts, .int c_t_refused, .int c_t_knocks, .int c_t_thrown_25]))] H := hP
        have hD : va_D A [(a_t_forms, .inl (cyJ, 6, .inr (.inl f_t_forms))), (a_t_roll, .inl (cyJ, 12, .inr (.inl f_t_roll))), (a_t, .inr (8, [.ref a_t_forms, .ref a_t_roll, .int c_t_many, .long c_t_taps, .int c_t_cells, .int c_t_acts, .int c_t_refused, .int c_t_knocks, .int c_t_thrown_25]))] := hD
        refine lv_if_eq (tgt := 35) hx hb dX9_take_28 (by decide) (fun c28 => ?_) (fun c28 => ?_)
        · have h := it_ c28 h
          refine lv_aload_n hx hb dX9_take_35 rfl (lv_at hl 0 rfl) ?_
          refine lv_iload_n hx hb dX9_take_36 rfl (lv_at hl 2 rfl) ?_
          refine lv_aload_n hx hb dX9_take_37 rfl (lv_at hl 0 rfl) ?_
          refine va_get (D := D) (ci := 8) (v := .ref a_t_roll) (C := RX9) (T := TX9) (N := 9) hx hb hts hinX9 hown hK hP 2 rfl rfl 1 (by decide) hfl13 (fun _ h9 => h9) rfl dX9_take_38 ?_
          refine lv_iload_n hx hb dX9_take_41 rfl (lv_at hl 1 rfl) ?_
          obtain ⟨hq42, h⟩ := chk_h h
          refine va_lald hx hb hK hP 1 0 rfl rfl hq42 dX9_take_42 ?_
          obtain ⟨r43, c_t_acts_43, f_t_forms_43, hc43, h⟩ := obn3_h h
          have hPc := hP.sub (ws' := [(a_t, .inr (8, [.ref a_t_forms, .ref a_t_roll, .int c_t_many, .long c_t_taps, .int c_t_cells, .int c_t_acts, .int c_t_refused, .int c_t_knocks, .int c_t_thrown_25])), (a_t_forms, .inl (cyJ, 6, .inr (.inl f_t_forms)))]) [2, 0] rfl
          have hDc := hD.sub (ws' := [(a_t, .inr (8, [.ref a_t_forms, .ref a_t_roll, .int c_t_many, .long c_t_taps, .int c_t_cells, .int c_t_acts, .int c_t_refused, .int c_t_knocks, .int c_t_thrown_25])), (a_t_forms, .inl (cyJ, 6, .inr (.inl f_t_forms)))]) [2, 0] (by decide) rfl
          refine hp_i (w1 := [(a_t, .inr (8, [.ref a_t_forms, .ref a_t_roll, .int c_t_many, .long c_t_taps, .int c_t_cells, .int c_t_acts_43, .int c_t_refused, .int c_t_knocks, .int c_t_thrown_25])), (a_t_forms, .inl (cyJ, 6, .inr (.inl f_t_forms_43)))]) (wr := [(a_t_roll, .inl (cyJ, 12, .inr (.inl f_t_roll)))]) (va_runV (As := [.int p1, .long (f_t_roll p0.toNatClampNeg)]) (rest := []) hcf (c_X9_give l D cyJ H.size a_t a_t_forms a_t_roll c_t_many c_t_taps c_t_cells c_t_acts c_t_refused c_t_knocks c_t_thrown_25 f_t_forms p1 (f_t_roll p0.toNatClampNeg) r43 c_t_acts_43 f_t_forms_43 hc43) (cwV 2 hts gX9_take_X9_give rfl rfl rfl ydX9_give ⟨Nat.le_of_ble_eq_true rfl, Nat.le_of_ble_eq_true rfl⟩) ⟨bl_PD, va_recv hK hP (ci := 8) (q0 := 2) rfl rfl, pr_PD hPc hK0 hDc hnw⟩ rfl rfl hl.1 rfl (lv_room (Nat.le_of_ble_eq_true rfl)) dX9_take_43 ⟨Nat.le_of_ble_eq_true rfl, Nat.le_of_ble_eq_true rfl⟩) hP hD hS hA [2, 0] [1] rfl rfl (by decide) (by decide) (fun H locs hP hD hS => ?_)
          have hP : va_P D vwCl [(a_t_roll, .inl (cyJ, 12, .inr (.inl f_t_roll))), (a_t, .inr (8, [.ref a_t_forms, .ref a_t_roll, .int c_t_many, .long c_t_taps, .int c_t_cells, .int c_t_acts_43, .int c_t_refused, .int c_t_knocks, .int c_t_thrown_25])), (a_t_forms, .inl (cyJ, 6, .inr (.inl f_t_forms_43)))] H := hP
          have hD : va_D A [(a_t_roll, .inl (cyJ, 12, .inr (.inl f_t_roll))), (a_t, .inr (8, [.ref a_t_forms, .ref a_t_roll, .int c_t_many, .long c_t_taps, .int c_t_cells, .int c_t_acts_43, .int c_t_refused, .int c_t_knocks, .int c_t_thrown_25])), (a_t_forms, .inl (cyJ, 6, .inr (.inl f_t_forms_43)))] := hD
          obtain ⟨e0, e1, e2, e3⟩ := tup4 h
          subst e0
          subst e1
          subst e2
          subst e3
          have hP9 : va_P D vwCl [(a_t, .inr (8, [.ref a_t_forms, .ref a_t_roll, .int c_t_many, .long c_t_taps, .int c_t_cells, .int c_t_acts_43, .int c_t_refused, .int c_t_knocks, .int c_t_thrown_25])), (a_t_forms, .inl (cyJ, 6, .inr (.inl f_t_forms_43))), (a_t_roll, .inl (cyJ, 12, .inr (.inl f_t_roll)))] H := hP.sub [1, 2, 0] rfl
          have hD9 : va_D A [(a_t, .inr (8, [.ref a_t_forms, .ref a_t_roll, .int c_t_many, .long c_t_taps, .int c_t_cells, .int c_t_acts_43, .int c_t_refused, .int c_t_knocks, .int c_t_thrown_25])), (a_t_forms, .inl (cyJ, 6, .inr (.inl f_t_forms_43))), (a_t_roll, .inl (cyJ, 12, .inr (.inl f_t_roll)))] := hD.sub [1, 2, 0] (by decide) rfl
          exact W.iret hx hb hr (fun t ht hW => ⟨⟨_, (), rfl, rfl, wQA_of ht hP9 hD9⟩, hS.F ht⟩) hS.2.2 dX9_take_46
        · have h := if_ c28 h
          refine lv_iconst (v := 0) hx hb dX9_take_31 (by decide) ?_
          refine lv_goto (tgt := 46) hx hb dX9_take_32 (by decide) ?_
          obtain ⟨e0, e1, e2, e3⟩ := tup4 h
          subst e0
          subst e1
          subst e2
          subst e3
          have hP9 : va_P D vwCl [(a_t, .inr (8, [.ref a_t_forms, .ref a_t_roll, .int c_t_many, .long c_t_taps, .int c_t_cells, .int c_t_acts, .int c_t_refused, .int c_t_knocks, .int c_t_thrown_25])), (a_t_forms, .inl (cyJ, 6, .inr (.inl f_t_forms))), (a_t_roll, .inl (cyJ, 12, .inr (.inl f_t_roll)))] H := hP.sub [2, 0, 1] rfl
          have hD9 : va_D A [(a_t, .inr (8, [.ref a_t_forms, .ref a_t_roll, .int c_t_many, .long c_t_taps, .int c_t_cells, .int c_t_acts, .int c_t_refused, .int c_t_knocks, .int c_t_thrown_25])), (a_t_forms, .inl (cyJ, 6, .inr (.inl f_t_forms))), (a_t_roll, .inl (cyJ, 12, .inr (.inl f_t_roll)))] := hD.sub [2, 0, 1] (by decide) rfl
          exact W.iret hx hb hr (fun t ht hW => ⟨⟨_, (), rfl, rfl, wQA_of ht hP9 hD9⟩, hS.F ht⟩) hS.2.2 dX9_take_46
      · have h := it_ c17 h
        refine lv_iconst (v := 1) hx hb dX9_take_20 (by decide) ?_
        refine lv_goto (tgt := 25) hx hb dX9_take_21 (by decide) ?_
        obtain ⟨r25, c_t_thrown_25, hc25, h⟩ := obn2_h h
        have hPc := hP.sub (ws' := [(a_t, .inr (8, [.ref a_t_forms, .ref a_t_roll, .int c_t_many, .long c_t_taps, .int c_t_cells, .int c_t_acts, .int c_t_refused, .int c_t_knocks, .int c_t_thrown]))]) [0] rfl
        have hDc := hD.sub (ws' := [(a_t, .inr (8, [.ref a_t_forms, .ref a_t_roll, .int c_t_many, .long c_t_taps, .int c_t_cells, .int c_t_acts, .int c_t_refused, .int c_t_knocks, .int c_t_thrown]))]) [0] (by decide) rfl
        refine hp_i (w1 := [(a_t, .inr (8, [.ref a_t_forms, .ref a_t_roll, .int c_t_many, .long c_t_taps, .int c_t_cells, .int c_t_acts, .int c_t_refused, .int c_t_knocks, .int c_t_thrown_25]))]) (wr := [(a_t_forms, .inl (cyJ, 6, .inr (.inl f_t_forms))), (a_t_roll, .inl (cyJ, 12, .inr (.inl f_t_roll)))]) (va_runV (As := [.int (1 : Int32)]) (rest := []) hcf (c_X9_isThrown_ l D cyJ s.heap.size a_t a_t_forms a_t_roll c_t_many c_t_taps c_t_cells c_t_acts c_t_refused c_t_knocks c_t_thrown (1 : Int32) r25 c_t_thrown_25 hc25) (cwV 1 hts gX9_take_X9_isThrown_ rfl rfl rfl ydX9_isThrown_ ⟨Nat.le_of_ble_eq_true rfl, Nat.le_of_ble_eq_true rfl⟩) ⟨bl_PD, va_recv hK hP (ci := 8) (q0 := 0) rfl rfl, pr_PD hPc hK0 hDc hnw⟩ rfl rfl hl.1 rfl (lv_room (Nat.le_of_ble_eq_true rfl)) dX9_take_25 ⟨Nat.le_of_ble_eq_true rfl, Nat.le_of_ble_eq_true rfl⟩) hP hD hS hA [0] [1, 2] rfl rfl (by decide) (by decide) (fun H locs hP hD hS => ?_)
        have hP : va_P D vwCl [(a_t_forms, .inl (cyJ, 6, .inr (.inl f_t_forms))), (a_t_roll, .inl (cyJ, 12, .inr (.inl f_t_roll))), (a_t, .inr (8, [.ref a_t_forms, .ref a_t_roll, .int c_t_many, .long c_t_taps, .int c_t_cells, .int c_t_acts, .int c_t_refused, .int c_t_knocks, .int c_t_thrown_25]))] H := hP
        have hD : va_D A [(a_t_forms, .inl (cyJ, 6, .inr (.inl f_t_forms))), (a_t_roll, .inl (cyJ, 12, .inr (.inl f_t_roll))), (a_t, .inr (8, [.ref a_t_forms, .ref a_t_roll, .int c_t_many, .long c_t_taps, .int c_t_cells, .int c_t_acts, .int c_t_refused, .int c_t_knocks, .int c_t_thrown_25]))] := hD
        refine lv_if_eq (tgt := 35) hx hb dX9_take_28 (by decide) (fun c28 => ?_) (fun c28 => ?_)
        · have h := it_ c28 h
          refine lv_aload_n hx hb dX9_take_35 rfl (lv_at hl 0 rfl) ?_
          refine lv_iload_n hx hb dX9_take_36 rfl (lv_at hl 2 rfl) ?_
          refine lv_aload_n hx hb dX9_take_37 rfl (lv_at hl 0 rfl) ?_
          refine va_get (D := D) (ci := 8) (v := .ref a_t_roll) (C := RX9) (T := TX9) (N := 9) hx hb hts hinX9 hown hK hP 2 rfl rfl 1 (by decide) hfl13 (fun _ h9 => h9) rfl dX9_take_38 ?_
          refine lv_iload_n hx hb dX9_take_41 rfl (lv_at hl 1 rfl) ?_
          obtain ⟨hq42, h⟩ := chk_h h
          refine va_lald hx hb hK hP 1 0 rfl rfl hq42 dX9_take_42 ?_
          obtain ⟨r43, c_t_acts_43, f_t_forms_43, hc43, h⟩ := obn3_h h
          have hPc := hP.sub (ws' := [(a_t, .inr (8, [.ref a_t_forms, .ref a_t_roll, .int c_t_many, .long c_t_taps, .int c_t_cells, .int c_t_acts, .int c_t_refused, .int c_t_knocks, .int c_t_thrown_25])), (a_t_forms, .inl (cyJ, 6, .inr (.inl f_t_forms)))]) [2, 0] rfl
          have hDc := hD.sub (ws' := [(a_t, .inr (8, [.ref a_t_forms, .ref a_t_roll, .int c_t_many, .long c_t_taps, .int c_t_cells, .int c_t_acts, .int c_t_refused, .int c_t_knocks, .int c_t_thrown_25])), (a_t_forms, .inl (cyJ, 6, .inr (.inl f_t_forms)))]) [2, 0] (by decide) rfl
          refine hp_i (w1 := [(a_t, .inr (8, [.ref a_t_forms, .ref a_t_roll, .int c_t_many, .long c_t_taps, .int c_t_cells, .int c_t_acts_43, .int c_t_refused, .int c_t_knocks, .int c_t_thrown_25])), (a_t_forms, .inl (cyJ, 6, .inr (.inl f_t_forms_43)))]) (wr := [(a_t_roll, .inl (cyJ, 12, .inr (.inl f_t_roll)))]) (va_runV (As := [.int p1, .long (f_t_roll p0.toNatClampNeg)]) (rest := []) hcf (c_X9_give l D cyJ H.size a_t a_t_forms a_t_roll c_t_many c_t_taps c_t_cells c_t_acts c_t_refused c_t_knocks c_t_thrown_25 f_t_forms p1 (f_t_roll p0.toNatClampNeg) r43 c_t_acts_43 f_t_forms_43 hc43) (cwV 2 hts gX9_take_X9_give rfl rfl rfl ydX9_give ⟨Nat.le_of_ble_eq_true rfl, Nat.le_of_ble_eq_true rfl⟩) ⟨bl_PD, va_recv hK hP (ci := 8) (q0 := 2) rfl rfl, pr_PD hPc hK0 hDc hnw⟩ rfl rfl hl.1 rfl (lv_room (Nat.le_of_ble_eq_true rfl)) dX9_take_43 ⟨Nat.le_of_ble_eq_true rfl, Nat.le_of_ble_eq_true rfl⟩) hP hD hS hA [2, 0] [1] rfl rfl (by decide) (by decide) (fun H locs hP hD hS => ?_)
          have hP : va_P D vwCl [(a_t_roll, .inl (cyJ, 12, .inr (.inl f_t_roll))), (a_t, .inr (8, [.ref a_t_forms, .ref a_t_roll, .int c_t_many, .long c_t_taps, .int c_t_cells, .int c_t_acts_43, .int c_t_refused, .int c_t_knocks, .int c_t_thrown_25])), (a_t_forms, .inl (cyJ, 6, .inr (.inl f_t_forms_43)))] H := hP
          have hD : va_D A [(a_t_roll, .inl (cyJ, 12, .inr (.inl f_t_roll))), (a_t, .inr (8, [.ref a_t_forms, .ref a_t_roll, .int c_t_many, .long c_t_taps, .int c_t_cells, .int c_t_acts_43, .int c_t_refused, .int c_t_knocks, .int c_t_thrown_25])), (a_t_forms, .inl (cyJ, 6, .inr (.inl f_t_forms_43)))] := hD
          obtain ⟨e0, e1, e2, e3⟩ := tup4 h
          subst e0
          subst e1
          subst e2
          subst e3
          have hP9 : va_P D vwCl [(a_t, .inr (8, [.ref a_t_forms, .ref a_t_roll, .int c_t_many, .long c_t_taps, .int c_t_cells, .int c_t_acts_43, .int c_t_refused, .int c_t_knocks, .int c_t_thrown_25])), (a_t_forms, .inl (cyJ, 6, .inr (.inl f_t_forms_43))), (a_t_roll, .inl (cyJ, 12, .inr (.inl f_t_roll)))] H := hP.sub [1, 2, 0] rfl
          have hD9 : va_D A [(a_t, .inr (8, [.ref a_t_forms, .ref a_t_roll, .int c_t_many, .long c_t_taps, .int c_t_cells, .int c_t_acts_43, .int c_t_refused, .int c_t_knocks, .int c_t_thrown_25])), (a_t_forms, .inl (cyJ, 6, .inr (.inl f_t_forms_43))), (a_t_roll, .inl (cyJ, 12, .inr (.inl f_t_roll)))] := hD.sub [1, 2, 0] (by decide) rfl
          exact W.iret hx hb hr (fun t ht hW => ⟨⟨_, (), rfl, rfl, wQA_of ht hP9 hD9⟩, hS.F ht⟩) hS.2.2 dX9_take_46
        · have h := if_ c28 h
          refine lv_iconst (v := 0) hx hb dX9_take_31 (by decide) ?_
          refine lv_goto (tgt := 46) hx hb dX9_take_32 (by decide) ?_
          obtain ⟨e0, e1, e2, e3⟩ := tup4 h
          subst e0
          subst e1
          subst e2
          subst e3
          have hP9 : va_P D vwCl [(a_t, .inr (8, [.ref a_t_forms, .ref a_t_roll, .int c_t_many, .long c_t_taps, .int c_t_cells, .int c_t_acts, .int c_t_refused, .int c_t_knocks, .int c_t_thrown_25])), (a_t_forms, .inl (cyJ, 6, .inr (.inl f_t_forms))), (a_t_roll, .inl (cyJ, 12, .inr (.inl f_t_roll)))] H := hP.sub [2, 0, 1] rfl
          have hD9 : va_D A [(a_t, .inr (8, [.ref a_t_forms, .ref a_t_roll, .int c_t_many, .long c_t_taps, .int c_t_cells, .int c_t_acts, .int c_t_refused, .int c_t_knocks, .int c_t_thrown_25])), (a_t_forms, .inl (cyJ, 6, .inr (.inl f_t_forms))), (a_t_roll, .inl (cyJ, 12, .inr (.inl f_t_roll)))] := hD.sub [2, 0, 1] (by decide) rfl
          exact W.iret hx hb hr (fun t ht hW => ⟨⟨_, (), rfl, rfl, wQA_of ht hP9 hD9⟩, hS.F ht⟩) hS.2.2 dX9_take_46

noncomputable abbrev rmX9_product : Room := { frames := 4, cells := 0, slots := 0, locals := 87 }
theorem ydX9_product : yX9_product.cls = RX9 ∧ yX9_product.cls ≠ "java/lang/invoke/MethodHandle" ∧ yX9_product.cls ≠ "java/lang/invoke/VarHandle" ∧ (parseMethodDescriptor yX9_product.desc).map (fun d => d.parameters.length) = some 1 := by decide +kernel
noncomputable def J_X9_product_68 (ih28 : Int32 → Int32 → Int32 → Option (Int32 × Int32 × Int32 × Int32 × (Nat → Int64))) (j2_68 : Int32) (j4_68 : Int32) (js0_68 : Int32) (js1_68 : Int32) : Option (Int32 × Int32 × Int32 × Int32 × (Nat → Int64)) :=
 bnd (js0_68 ||| js1_68) (fun x3_69 =>
 bnd (j4_68 + 1) (fun x4_70 =>
 ih28 j2_68 x3_69 x4_70))
noncomputable def S_X9_product_28 (c_t_many_z28 : Int32) (f_t_roll_z28 : Nat → Int64) (k76 : Int32 → Int32 → Option (Int32 × Int32 × Int32 × Int32 × (Nat → Int64))) (ih28 : Int32 → Int32 → Int32 → Option (Int32 × Int32 × Int32 × Int32 × (Nat → Int64))) (y2_28 : Int32) (y3_28 : Int32) (y4_28 : Int32) : Option (Int32 × Int32 × Int32 × Int32 × (Nat → Int64)) :=
 (if c_t_many_z28 ≤ y4_28 then
 k76 y2_28 y3_28
else
 chk (¬ (y4_28 < 0 ∨ 12 ≤ y4_28.toNatClampNeg)) (
 obn (F_X9_degreeOf (f_t_roll_z28 y4_28.toNatClampNeg)) (fun r45 =>
 bnd (y2_28 + r45) (fun x2_49 =>
 chk (¬ (y4_28 < 0 ∨ 12 ≤ y4_28.toNatClampNeg)) (
 (if (f_t_roll_z28 y4_28.toNatClampNeg) = (0 : Int64) then
 J_X9_product_68 ih28 x2_49 y4_28 y3_28 (1 : Int32)
else
 J_X9_product_68 ih28 x2_49 y4_28 y3_28 (0 : Int32)))))))
noncomputable def S_X9_product_105 (z3_105 : Int32) (c_t_many_z105 : Int32) (f_t_roll_z105 : Nat → Int64) (k138 : Int64 → Option (Int32 × Int32 × Int32 × Int32 × (Nat → Int64))) (ih105 : Int64 → Int32 → Option (Int32 × Int32 × Int32 × Int32 × (Nat → Int64))) (y4_105 : Int64) (y6_105 : Int32) : Option (Int32 × Int32 × Int32 × Int32 × (Nat → Int64)) :=
 (if c_t_many_z105 ≤ y6_105 then
 k138 y4_105
else
 (if z3_105 = 0 then
 chk (¬ (y6_105 < 0 ∨ 12 ≤ y6_105.toNatClampNeg)) (
 obn (F_X9_productOf y4_105 (f_t_roll_z105 y6_105.toNatClampNeg)) (fun r127 =>
 bnd (y6_105 + 1) (fun x6_132 =>
 ih105 r127 x6_132)))
else
 k138 y4_105))
noncomputable def J_X9_product_100 (jl1_100 : Int32) (c_t_many_jz100 : Int32) (f_t_roll_jz100 : Nat → Int64) (j3_100 : Int32) (js0_100 : Int64) (c_t_acts_j100 : Int32) (c_t_refused_j100 : Int32) (c_t_thrown_j100 : Int32) (f_t_forms_j100 : Nat → Int64) : Option (Int32 × Int32 × Int32 × Int32 × (Nat → Int64)) :=
 LQ2 (S_X9_product_105 j3_100 c_t_many_jz100 f_t_roll_jz100 (fun y4_105_138 =>
 obn3 (F_X9_give c_t_acts_j100 f_t_forms_j100 jl1_100 y4_105_138) (fun r142 c_t_acts_142 f_t_forms_142 =>
 some (r142, c_t_acts_142, c_t_refused_j100, c_t_thrown_j100, f_t_forms_142)))) 20000 js0_100 (0 : Int32)
noncomputable def J_X9_product_91 (jl1_91 : Int32) (c_t_many_jz91 : Int32) (f_t_roll_jz91 : Nat → Int64) (j3_91 : Int32) (c_t_acts_j91 : Int32) (c_t_refused_j91 : Int32) (c_t_thrown_j91 : Int32) (f_t_forms_j91 : Nat → Int64) : Option (Int32 × Int32 × Int32 × Int32 × (Nat → Int64)) :=
 (if j3_91 = 0 then
 J_X9_product_100 jl1_91 c_t_many_jz91 f_t_roll_jz91 j3_91 (1 : Int64) c_t_acts_j91 c_t_refused_j91 c_t_thrown_j91 f_t_forms_j91
else
 J_X9_product_100 jl1_91 c_t_many_jz91 f_t_roll_jz91 j3_91 (0 : Int64) c_t_acts_j91 c_t_refused_j91 c_t_thrown_j91 f_t_forms_j91)
noncomputable def J_X9_product_13 (jl1_13 : Int32) (c_t_many_jz13 : Int32) (f_t_roll_jz13 : Nat → Int64) (js1_13 : Int32) (c_t_acts_j13 : Int32) (c_t_refused_j13 : Int32) (c_t_thrown_j13 : Int32) (f_t_forms_j13 : Nat → Int64) : Option (Int32 × Int32 × Int32 × Int32 × (Nat → Int64)) :=
 obn2 (F_X9_isThrown_ js1_13) (fun r13 c_t_thrown_13 =>
 (if r13 = 0 then
 LQ3 (S_X9_product_28 c_t_many_jz13 f_t_roll_jz13 (fun y2_28_76 y3_28_76 =>
 (if y3_28_76 = 0 then
 (if y2_28_76 < (40 : Int32) then
 J_X9_product_91 jl1_13 c_t_many_jz13 f_t_roll_jz13 y3_28_76 c_t_acts_j13 c_t_refused_j13 c_t_thrown_13 f_t_forms_j13
else
 obn2 (F_X9_no c_t_refused_j13) (fun r87 c_t_refused_87 =>
 some (r87, c_t_acts_j13, c_t_refused_87, c_t_thrown_13, f_t_forms_j13)))
else
 J_X9_product_91 jl1_13 c_t_many_jz13 f_t_roll_jz13 y3_28_76 c_t_acts_j13 c_t_refused_j13 c_t_thrown_13 f_t_forms_j13))) 20000 (0 : Int32) (0 : Int32) (0 : Int32)
else
 some ((0 : Int32), c_t_acts_j13, c_t_refused_j13, c_t_thrown_13, f_t_forms_j13)))
noncomputable def F_X9_product (c_t_many : Int32) (c_t_acts : Int32) (c_t_refused : Int32) (c_t_thrown : Int32) (f_t_forms : Nat → Int64) (f_t_roll : Nat → Int64) (p0 : Int32) : Option (Int32 × Int32 × Int32 × Int32 × (Nat → Int64)) :=
 obn (F_X9_isForm p0) (fun r2 =>
 (if r2 = 0 then
 J_X9_product_13 p0 c_t_many f_t_roll (1 : Int32) c_t_acts c_t_refused c_t_thrown f_t_forms
else
 J_X9_product_13 p0 c_t_many f_t_roll (0 : Int32) c_t_acts c_t_refused c_t_thrown f_t_forms))
set_option maxHeartbeats 4000000 in
set_option maxRecDepth 100000 in
theorem c_X9_product (l : Launch) (D : va_G) (cyJ : ClassId) (sz : Nat) (a_t : Nat) (a_t_forms : Nat) (a_t_roll : Nat) (c_t_many : Int32) (c_t_taps : Int64) (c_t_cells : Int32) (c_t_acts : Int32) (c_t_refused : Int32) (c_t_knocks : Int32) (c_t_thrown : Int32) (f_t_forms : Nat → Int64) (f_t_roll : Nat → Int64) (p0 : Int32) (r0 : Int32) (o_c_t_acts : Int32) (o_c_t_refused : Int32) (o_c_t_thrown : Int32) (o_f_t_forms : Nat → Int64) (hF : F_X9_product c_t_many c_t_acts c_t_refused c_t_thrown f_t_forms f_t_roll p0 = some (r0, o_c_t_acts, o_c_t_refused, o_c_t_thrown, o_f_t_forms)) : Met l yX9_product wsX9_product rmX9_product (va_Pc [.ref a_t, .int p0] (wPD D [(cyJ, .long)] [(a_t, .inr (8, [.ref a_t_forms, .ref a_t_roll, .int c_t_many, .long c_t_taps, .int c_t_cells, .int c_t_acts, .int c_t_refused, .int c_t_knocks, .int c_t_thrown])), (a_t_forms, .inl (cyJ, 6, .inr (.inl f_t_forms))), (a_t_roll, .inl (cyJ, 12, .inr (.inl f_t_roll)))] sz)) (va_Qi (fun (r : Int32) (_ : Unit) => r = r0) (fun _ t => wQA D [(a_t, .inr (8, [.ref a_t_forms, .ref a_t_roll, .int c_t_many, .long c_t_taps, .int c_t_cells, .int o_c_t_acts, .int o_c_t_refused, .int c_t_knocks, .int o_c_t_thrown])), (a_t_forms, .inl (cyJ, 6, .inr (.inl o_f_t_forms))), (a_t_roll, .inl (cyJ, 12, .inr (.inl f_t_roll)))] (va_A [(a_t, .inr (8, [.ref a_t_forms, .ref a_t_roll, .int c_t_many, .long c_t_taps, .int c_t_cells, .int c_t_acts, .int c_t_refused, .int c_t_knocks, .int c_t_thrown])), (a_t_forms, .inl (cyJ, 6, .inr (.inl f_t_forms))), (a_t_roll, .inl (cyJ, 12, .inr (.inl f_t_roll)))] sz) t) (va_A [(a_t, .inr (8, [.ref a_t_forms, .ref a_t_roll, .int c_t_many, .long c_t_taps, .int c_t_cells, .int c_t_acts, .int c_t_refused, .int c_t_knocks, .int c_t_thrown])), (a_t_forms, .inl (cyJ, 6, .inr (.inl f_t_forms))), (a_t_roll, .inl (cyJ, 12, .inr (.inl f_t_roll)))] sz)) 0 0 (va_A [(a_t, .inr (8, [.ref a_t_forms, .ref a_t_roll, .int c_t_many, .long c_t_taps, .int c_t_cells, .int c_t_acts, .int c_t_refused, .int c_t_knocks, .int c_t_thrown])), (a_t_forms, .inl (cyJ, 6, .inr (.inl f_t_forms))), (a_t_roll, .inl (cyJ, 12, .inr (.inl f_t_roll)))] sz) := by
  refine Met.ofW (cc := cX9_product) (maxL := 7) (ret := (some .int)) (by decide) rfl ?_
  intro p e s m args below meth c s₁ B hml hv
  obtain ⟨rfl, hsz, hP, hK, hD0, hnw⟩ := hv
  have hx := B.exec
  have hb := B.bytes
  have hr := B.returns
  have hts := atoms_spec (ws := wsX9_product) B.pre
  have hown : s.vm.findClass RX9 = some m.cls := findClass_of_methodNamed B.named
  have hlocks := B.notSynchronized
  have hcf : CallFix _ _ _ _ _ _ _ _ _ := ⟨hx, hb, hml, hown, hts⟩
  have hinX9 : ∀ w ∈ u_ws RX9 TX9 9, w ∈ wsX9_product := by decide +kernel
  have hfl123 := hts (.fieldLink RX9 123 "FormwheelModel" "many" "I") (by decide +kernel)
  have hfl13 := hts (.fieldLink RX9 13 "FormwheelModel" "roll" "[J") (by decide +kernel)
  subst hsz
  have hD := hD0.self (sz := s.heap.size)
  generalize hAe : va_A [(a_t, .inr (8, [.ref a_t_forms, .ref a_t_roll, .int c_t_many, .long c_t_taps, .int c_t_cells, .int c_t_acts, .int c_t_refused, .int c_t_knocks, .int c_t_thrown])), (a_t_forms, .inl (cyJ, 6, .inr (.inl f_t_forms))), (a_t_roll, .inl (cyJ, 12, .inr (.inl f_t_roll)))] s.heap.size = A at hD ⊢
  have hA : ∀ q : Nat, s.heap.size ≤ q → A q := fun q h => by rw [← hAe]; exact Or.inr h
  have hS : va_S A s.heap s.heap [] := va_S.rf
  have hP : va_P D vwCl [(a_t, .inr (8, [.ref a_t_forms, .ref a_t_roll, .int c_t_many, .long c_t_taps, .int c_t_cells, .int c_t_acts, .int c_t_refused, .int c_t_knocks, .int c_t_thrown])), (a_t_forms, .inl (cyJ, 6, .inr (.inl f_t_forms))), (a_t_roll, .inl (cyJ, 12, .inr (.inl f_t_roll)))] s.heap := hP
  have hK0 := hK
  have hl := lv_entry ([.ref a_t, .int p0]) (n := 7) (Nat.le_of_ble_eq_true rfl)
  rw [lg_entry_eq]
  generalize (lg_sl ([.ref a_t, .int p0]) ++ List.replicate (7 - (lg_sl ([.ref a_t, .int p0])).length) Slot.unset).toArray = ls at hl ⊢
  have hl : lv_has ls 7 [(0, .ref a_t), (1, .int p0)] := hl
  have h := hF
  clear hF
  unfold F_X9_product at h
  have hj100 : ∀ (j3_100 : Int32) (js0_100 : Int64) (c_t_acts_j100 : Int32) (c_t_refused_j100 : Int32) (c_t_thrown_j100 : Int32) (f_t_forms_j100 : Nat → Int64), J_X9_product_100 p0 c_t_many f_t_roll j3_100 js0_100 c_t_acts_j100 c_t_refused_j100 c_t_thrown_j100 f_t_forms_j100 = some (r0, o_c_t_acts, o_c_t_refused, o_c_t_thrown, o_f_t_forms) → ∀ (H : Heap) (locs : List Loc), va_P D vwCl [(a_t, .inr (8, [.ref a_t_forms, .ref a_t_roll, .int c_t_many, .long c_t_taps, .int c_t_cells, .int c_t_acts_j100, .int c_t_refused_j100, .int c_t_knocks, .int c_t_thrown_j100])), (a_t_forms, .inl (cyJ, 6, .inr (.inl f_t_forms_j100))), (a_t_roll, .inl (cyJ, 12, .inr (.inl f_t_roll)))] H → va_D A [(a_t, .inr (8, [.ref a_t_forms, .ref a_t_roll, .int c_t_many, .long c_t_taps, .int c_t_cells, .int c_t_acts_j100, .int c_t_refused_j100, .int c_t_knocks, .int c_t_thrown_j100])), (a_t_forms, .inl (cyJ, 6, .inr (.inl f_t_forms_j100))), (a_t_roll, .inl (cyJ, 12, .inr (.inl f_t_roll)))] → va_S A s.heap H locs → ∀ (ls : Array Slot), lv_has ls 7 [(0, .ref a_t), (1, .int p0), (3, .int j3_100)] → W p l e rmX9_product s m ([.ref a_t, .int p0] : List Value).toArray below meth c H locs 0 0 (MQ below (va_Qi (fun (r : Int32) (_ : Unit) => r = r0) (fun _ t => wQA D [(a_t, .inr (8, [.ref a_t_forms, .ref a_t_roll, .int c_t_many, .long c_t_taps, .int c_t_cells, .int o_c_t_acts, .int o_c_t_refused, .int c_t_knocks, .int o_c_t_thrown])), (a_t_forms, .inl (cyJ, 6, .inr (.inl o_f_t_forms))), (a_t_roll, .inl (cyJ, 12, .inr (.inl f_t_roll)))] A t) A) ([.ref a_t, .int p0] : List Value).toArray s 0 0 A) (F0 m 100 ls [.long js0_100]) := by
    intro j3_100 js0_100 c_t_acts_j100 c_t_refused_j100 c_t_thrown_j100 f_t_forms_j100 h H locs hP hD hS ls hl
    unfold J_X9_product_100 at h
    refine lv_lstore (lv' := [(4, .long js0_100), (0, .ref a_t), (1, .int p0), (3, .int j3_100)]) hx hb dX9_product_100 hl (by decide) rfl (fun ls hl => ?_)
    refine lv_iconst (v := 0) hx hb dX9_product_102 (by decide) ?_
    refine lv_istore (lv' := [(6, .int (0 : Int32)), (4, .long js0_100), (0, .ref a_t), (1, .int p0), (3, .int j3_100)]) hx hb dX9_product_103 hl (by decide) rfl (fun ls hl => ?_)
    refine LQ2_k1 (M := fun (y4_105 : Int64) (y6_105 : Int32) => ∀ (ls : Array Slot), lv_has ls 7 [(0, .ref a_t), (1, .int p0), (3, .int j3_100), (4, .long y4_105), (6, .int y6_105)] → W p l e rmX9_product s m ([.ref a_t, .int p0] : List Value).toArray below meth c H locs 0 0 (MQ below (va_Qi (fun (r : Int32) (_ : Unit) => r = r0) (fun _ t => wQA D [(a_t, .inr (8, [.ref a_t_forms, .ref a_t_roll, .int c_t_many, .long c_t_taps, .int c_t_cells, .int o_c_t_acts, .int o_c_t_refused, .int c_t_knocks, .int o_c_t_thrown])), (a_t_forms, .inl (cyJ, 6, .inr (.inl o_f_t_forms))), (a_t_roll, .inl (cyJ, 12, .inr (.inl f_t_roll)))] A t) A) ([.ref a_t, .int p0] : List Value).toArray s 0 0 A) (F0 m 105 ls [])) ?_ _ _ _ h ls (lv_sub hl [2, 3, 4, 1, 0] rfl)
    intro k138 hk138 ih105 hih105 y4_105 y6_105 h ls hl
    unfold S_X9_product_105 at h
    refine lv_iload hx hb dX9_product_105 (lv_at hl 4 rfl) ?_
    refine lv_aload_n hx hb dX9_product_107 rfl (lv_at hl 0 rfl) ?_
    refine va_get (D := D) (ci := 8) (v := .int c_t_many) (C := RX9) (T := TX9) (N := 9) hx hb hts hinX9 hown hK hP 0 rfl rfl 2 (by decide) hfl123 (fun _ h9 => h9) rfl dX9_product_108 ?_
    refine lv_icmp_ge (tgt := 138) hx hb dX9_product_111 (by decide) (fun c111 => ?_) (fun c111 => ?_)
    · have h := it_ c111 h
      rw [hk138] at h
      refine lv_aload_n hx hb dX9_product_138 rfl (lv_at hl 0 rfl) ?_
      refine lv_iload_n hx hb dX9_product_139 rfl (lv_at hl 1 rfl) ?_
      refine lv_lload hx hb dX9_product_140 (lv_at hl 3 rfl) ?_
      obtain ⟨r142, c_t_acts_142, f_t_forms_142, hc142, h⟩ := obn3_h h
      have hPc := hP.sub (ws' := [(a_t, .inr (8, [.ref a_t_forms, .ref a_t_roll, .int c_t_many, .long c_t_taps, .int c_t_cells, .int c_t_acts_j100, .int c_t_refused_j100, .int c_t_knocks, .int c_t_thrown_j100])), (a_t_forms, .inl (cyJ, 6, .inr (.inl f_t_forms_j100)))]) [0, 1] rfl
      have hDc := hD.sub (ws' := [(a_t, .inr (8, [.ref a_t_forms, .ref a_t_roll, .int c_t_many, .long c_t_taps, .int c_t_cells, .int c_t_acts_j100, .int c_t_refused_j100, .int c_t_knocks, .int c_t_thrown_j100])), (a_t_forms, .inl (cyJ, 6, .inr (.inl f_t_forms_j100)))]) [0, 1] (by decide) rfl
      refine hp_i (w1 := [(a_t, .inr (8, [.ref a_t_forms, .ref a_t_roll, .int c_t_many, .long c_t_taps, .int c_t_cells, .int c_t_acts_142, .int c_t_refused_j100, .int c_t_knocks, .int c_t_thrown_j100])), (a_t_forms, .inl (cyJ, 6, .inr (.inl f_t_forms_142)))]) (wr := [(a_t_roll, .inl (cyJ, 12, .inr (.inl f_t_roll)))]) (va_runV (As := [.int p0, .long y4_105]) (rest := []) hcf (c_X9_give l D cyJ H.size a_t a_t_forms a_t_roll c_t_many c_t_taps c_t_cells c_t_acts_j100 c_t_refused_j100 c_t_knocks c_t_thrown_j100 f_t_forms_j100 p0 y4_105 r142 c_t_acts_142 f_t_forms_142 hc142) (cwV 2 hts gX9_product_X9_give rfl rfl rfl ydX9_give ⟨Nat.le_of_ble_eq_true rfl, Nat.le_of_ble_eq_true rfl⟩) ⟨bl_PD, va_recv hK hP (ci := 8) (q0 := 0) rfl rfl, pr_PD hPc hK0 hDc hnw⟩ rfl rfl hl.1 rfl (lv_room (Nat.le_of_ble_eq_true rfl)) dX9_product_142 ⟨Nat.le_of_ble_eq_true rfl, Nat.le_of_ble_eq_true rfl⟩) hP hD hS hA [0, 1] [2] rfl rfl (by decide) (by decide) (fun H locs hP hD hS => ?_)
      have hP : va_P D vwCl [(a_t_roll, .inl (cyJ, 12, .inr (.inl f_t_roll))), (a_t, .inr (8, [.ref a_t_forms, .ref a_t_roll, .int c_t_many, .long c_t_taps, .int c_t_cells, .int c_t_acts_142, .int c_t_refused_j100, .int c_t_knocks, .int c_t_thrown_j100])), (a_t_forms, .inl (cyJ, 6, .inr (.inl f_t_forms_142)))] H := hP
      have hD : va_D A [(a_t_roll, .inl (cyJ, 12, .inr (.inl f_t_roll))), (a_t, .inr (8, [.ref a_t_forms, .ref a_t_roll, .int c_t_many, .long c_t_taps, .int c_t_cells, .int c_t_acts_142, .int c_t_refused_j100, .int c_t_knocks, .int c_t_thrown_j100])), (a_t_forms, .inl (cyJ, 6, .inr (.inl f_t_forms_142)))] := hD
      obtain ⟨e0, e1, e2, e3, e4⟩ := tup5 h
      subst e0
      subst e1
      subst e2
      subst e3
      subst e4
      have hP9 : va_P D vwCl [(a_t, .inr (8, [.ref a_t_forms, .ref a_t_roll, .int c_t_many, .long c_t_taps, .int c_t_cells, .int c_t_acts_142, .int c_t_refused_j100, .int c_t_knocks, .int c_t_thrown_j100])), (a_t_forms, .inl (cyJ, 6, .inr (.inl f_t_forms_142))), (a_t_roll, .inl (cyJ, 12, .inr (.inl f_t_roll)))] H := hP.sub [1, 2, 0] rfl
      have hD9 : va_D A [(a_t, .inr (8, [.ref a_t_forms, .ref a_t_roll, .int c_t_many, .long c_t_taps, .int c_t_cells, .int c_t_acts_142, .int c_t_refused_j100, .int c_t_knocks, .int c_t_thrown_j100])), (a_t_forms, .inl (cyJ, 6, .inr (.inl f_t_forms_142))), (a_t_roll, .inl (cyJ, 12, .inr (.inl f_t_roll)))] := hD.sub [1, 2, 0] (by decide) rfl
      exact W.iret hx hb hr (fun t ht hW => ⟨⟨_, (), rfl, rfl, wQA_of ht hP9 hD9⟩, hS.F ht⟩) hS.2.2 dX9_product_145
    · have h := if_ c111 h
      refine lv_iload_n hx hb dX9_product_114 rfl (lv_at hl 2 rfl) ?_
      refine lv_if_ne (tgt := 138) hx hb dX9_product_115 (by decide) (fun c115 => ?_) (fun c115 => ?_)
      · have h := if_ c115 h
        rw [hk138] at h
        refine lv_aload_n hx hb dX9_product_138 rfl (lv_at hl 0 rfl) ?_
        refine lv_iload_n hx hb dX9_product_139 rfl (lv_at hl 1 rfl) ?_
        refine lv_lload hx hb dX9_product_140 (lv_at hl 3 rfl) ?_
        obtain ⟨r142, c_t_acts_142, f_t_forms_142, hc142, h⟩ := obn3_h h
        have hPc := hP.sub (ws' := [(a_t, .inr (8, [.ref a_t_forms, .ref a_t_roll, .int c_t_many, .long c_t_taps, .int c_t_cells, .int c_t_acts_j100, .int c_t_refused_j100, .int c_t_knocks, .int c_t_thrown_j100])), (a_t_forms, .inl (cyJ, 6, .inr (.inl f_t_forms_j100)))]) [0, 1] rfl
        have hDc := hD.sub (ws' := [(a_t, .inr (8, [.ref a_t_forms, .ref a_t_roll, .int c_t_many, .long c_t_taps, .int c_t_cells, .int c_t_acts_j100, .int c_t_refused_j100, .int c_t_knocks, .int c_t_thrown_j100])), (a_t_forms, .inl (cyJ, 6, .inr (.inl f_t_forms_j100)))]) [0, 1] (by decide) rfl
        refine hp_i (w1 := [(a_t, .inr (8, [.ref a_t_forms, .ref a_t_roll, .int c_t_many, .long c_t_taps, .int c_t_cells, .int c_t_acts_142, .int c_t_refused_j100, .int c_t_knocks, .int c_t_thrown_j100])), (a_t_forms, .inl (cyJ, 6, .inr (.inl f_t_forms_142)))]) (wr := [(a_t_roll, .inl (cyJ, 12, .inr (.inl f_t_roll)))]) (va_runV (As := [.int p0, .long y4_105]) (rest := []) hcf (c_X9_give l D cyJ H.size a_t a_t_forms a_t_roll c_t_many c_t_taps c_t_cells c_t_acts_j100 c_t_refused_j100 c_t_knocks c_t_thrown_j100 f_t_forms_j100 p0 y4_105 r142 c_t_acts_142 f_t_forms_142 hc142) (cwV 2 hts gX9_product_X9_give rfl rfl rfl ydX9_give ⟨Nat.le_of_ble_eq_true rfl, Nat.le_of_ble_eq_true rfl⟩) ⟨bl_PD, va_recv hK hP (ci := 8) (q0 := 0) rfl rfl, pr_PD hPc hK0 hDc hnw⟩ rfl rfl hl.1 rfl (lv_room (Nat.le_of_ble_eq_true rfl)) dX9_product_142 ⟨Nat.le_of_ble_eq_true rfl, Nat.le_of_ble_eq_true rfl⟩) hP hD hS hA [0, 1] [2] rfl rfl (by decide) (by decide) (fun H locs hP hD hS => ?_)
        have hP : va_P D vwCl [(a_t_roll, .inl (cyJ, 12, .inr (.inl f_t_roll))), (a_t, .inr (8, [.ref a_t_forms, .ref a_t_roll, .int c_t_many, .long c_t_taps, .int c_t_cells, .int c_t_acts_142, .int c_t_refused_j100, .int c_t_knocks, .int c_t_thrown_j100])), (a_t_forms, .inl (cyJ, 6, .inr (.inl f_t_forms_142)))] H := hP
        have hD : va_D A [(a_t_roll, .inl (cyJ, 12, .inr (.inl f_t_roll))), (a_t, .inr (8, [.ref a_t_forms, .ref a_t_roll, .int c_t_many, .long c_t_taps, .int c_t_cells, .int c_t_acts_142, .int c_t_refused_j100, .int c_t_knocks, .int c_t_thrown_j100])), (a_t_forms, .inl (cyJ, 6, .inr (.inl f_t_forms_142)))] := hD
        obtain ⟨e0, e1, e2, e3, e4⟩ := tup5 h
        subst e0
        subst e1
        subst e2
        subst e3
        subst e4
        have hP9 : va_P D vwCl [(a_t, .inr (8, [.ref a_t_forms, .ref a_t_roll, .int c_t_many, .long c_t_taps, .int c_t_cells, .int c_t_acts_142, .int c_t_refused_j100, .int c_t_knocks, .int c_t_thrown_j100])), (a_t_forms, .inl (cyJ, 6, .inr (.inl f_t_forms_142))), (a_t_roll, .inl (cyJ, 12, .inr (.inl f_t_roll)))] H := hP.sub [1, 2, 0] rfl
        have hD9 : va_D A [(a_t, .inr (8, [.ref a_t_forms, .ref a_t_roll, .int c_t_many, .long c_t_taps, .int c_t_cells, .int c_t_acts_142, .int c_t_refused_j100, .int c_t_knocks, .int c_t_thrown_j100])), (a_t_forms, .inl (cyJ, 6, .inr (.inl f_t_forms_142))), (a_t_roll, .inl (cyJ, 12, .inr (.inl f_t_roll)))] := hD.sub [1, 2, 0] (by decide) rfl
        exact W.iret hx hb hr (fun t ht hW => ⟨⟨_, (), rfl, rfl, wQA_of ht hP9 hD9⟩, hS.F ht⟩) hS.2.2 dX9_product_145
      · have h := it_ c115 h
        refine lv_lload hx hb dX9_product_118 (lv_at hl 3 rfl) ?_
        refine lv_aload_n hx hb dX9_product_120 rfl (lv_at hl 0 rfl) ?_
        refine va_get (D := D) (ci := 8) (v := .ref a_t_roll) (C := RX9) (T := TX9) (N := 9) hx hb hts hinX9 hown hK hP 0 rfl rfl 1 (by decide) hfl13 (fun _ h9 => h9) rfl dX9_product_121 ?_
        refine lv_iload hx hb dX9_product_124 (lv_at hl 4 rfl) ?_
        obtain ⟨hq126, h⟩ := chk_h h
        refine va_lald hx hb hK hP 2 0 rfl rfl hq126 dX9_product_126 ?_
        obtain ⟨r127, hc127, h⟩ := obn_h h
        refine pz_callS (As := [.long y4_105, .long (f_t_roll y6_105.toNatClampNeg)]) (rest := []) hcf (c_X9_productOf l y4_105 (f_t_roll y6_105.toNatClampNeg) r127 hc127) (va_cwS 2 hts gX9_product_X9_productOf rfl rfl rfl ydX9_productOf ⟨Nat.le_of_ble_eq_true rfl, Nat.le_of_ble_eq_true rfl⟩) hnw rfl hl.1 rfl (Nat.le_of_ble_eq_true rfl) dX9_product_127 ⟨Nat.le_of_ble_eq_true rfl, Nat.le_of_ble_eq_true rfl⟩ ?_
        refine lv_lstore (lv' := [(4, .long r127), (0, .ref a_t), (1, .int p0), (3, .int j3_100), (6, .int y6_105)]) hx hb dX9_product_130 hl (by decide) rfl (fun ls hl => ?_)
        obtain ⟨x6_132, e_x6_132⟩ : ∃ z : Int32, z = y6_105 + 1 := ⟨_, rfl⟩
        have h := bnd_h e_x6_132 h
        refine lv_iinc (v := x6_132) (lv' := [(6, .int x6_132), (4, .long r127), (0, .ref a_t), (1, .int p0), (3, .int j3_100)]) hx hb dX9_product_132 hl (k := 4) rfl (by rw [e_x6_132]; rfl) (by decide) rfl (fun ls hl => ?_)
        refine lv_goto (tgt := 105) hx hb dX9_product_135 (by decide) ?_
        exact hih105 r127 x6_132 h ls (lv_sub hl [2, 3, 4, 1, 0] rfl)
  have hj91 : ∀ (j3_91 : Int32) (c_t_acts_j91 : Int32) (c_t_refused_j91 : Int32) (c_t_thrown_j91 : Int32) (f_t_forms_j91 : Nat → Int64), J_X9_product_91 p0 c_t_many f_t_roll j3_91 c_t_acts_j91 c_t_refused_j91 c_t_thrown_j91 f_t_forms_j91 = some (r0, o_c_t_acts, o_c_t_refused, o_c_t_thrown, o_f_t_forms) → ∀ (H : Heap) (locs : List Loc), va_P D vwCl [(a_t, .inr (8, [.ref a_t_forms, .ref a_t_roll, .int c_t_many, .long c_t_taps, .int c_t_cells, .int c_t_acts_j91, .int c_t_refused_j91, .int c_t_knocks, .int c_t_thrown_j91])), (a_t_forms, .inl (cyJ, 6, .inr (.inl f_t_forms_j91))), (a_t_roll, .inl (cyJ, 12, .inr (.inl f_t_roll)))] H → va_D A [(a_t, .inr (8, [.ref a_t_forms, .ref a_t_roll, .int c_t_many, .long c_t_taps, .int c_t_cells, .int c_t_acts_j91, .int c_t_refused_j91, .int c_t_knocks, .int c_t_thrown_j91])), (a_t_forms, .inl (cyJ, 6, .inr (.inl f_t_forms_j91))), (a_t_roll, .inl (cyJ, 12, .inr (.inl f_t_roll)))] → va_S A s.heap H locs → ∀ (ls : Array Slot), lv_has ls 7 [(0, .ref a_t), (1, .int p0), (3, .int j3_91)] → W p l e rmX9_product s m ([.ref a_t, .int p0] : List Value).toArray below meth c H locs 0 0 (MQ below (va_Qi (fun (r : Int32) (_ : Unit) => r = r0) (fun _ t => wQA D [(a_t, .inr (8, [.ref a_t_forms, .ref a_t_roll, .int c_t_many, .long c_t_taps, .int c_t_cells, .int o_c_t_acts, .int o_c_t_refused, .int c_t_knocks, .int o_c_t_thrown])), (a_t_forms, .inl (cyJ, 6, .inr (.inl o_f_t_forms))), (a_t_roll, .inl (cyJ, 12, .inr (.inl f_t_roll)))] A t) A) ([.ref a_t, .int p0] : List Value).toArray s 0 0 A) (F0 m 91 ls []) := by
    intro j3_91 c_t_acts_j91 c_t_refused_j91 c_t_thrown_j91 f_t_forms_j91 h H locs hP hD hS ls hl
    unfold J_X9_product_91 at h
    refine lv_iload_n hx hb dX9_product_91 rfl (lv_at hl 2 rfl) ?_
    refine lv_if_eq (tgt := 99) hx hb dX9_product_92 (by decide) (fun c92 => ?_) (fun c92 => ?_)
    · have h := it_ c92 h
      refine lv_lconst (v := 1) hx hb dX9_product_99 (by decide) ?_
      exact hj100 j3_91 (1 : Int64) c_t_acts_j91 c_t_refused_j91 c_t_thrown_j91 f_t_forms_j91 h _ _ (hP.sub [0, 1, 2] rfl) (hD.sub [0, 1, 2] (by decide) rfl) hS ls (lv_sub hl [0, 1, 2] rfl)
    · have h := if_ c92 h
      refine lv_lconst (v := 0) hx hb dX9_product_95 (by decide) ?_
      refine lv_goto (tgt := 100) hx hb dX9_product_96 (by decide) ?_
      exact hj100 j3_91 (0 : Int64) c_t_acts_j91 c_t_refused_j91 c_t_thrown_j91 f_t_forms_j91 h _ _ (hP.sub [0, 1, 2] rfl) (hD.sub [0, 1, 2] (by decide) rfl) hS ls (lv_sub hl [0, 1, 2] rfl)
  have hj13 : ∀ (js1_13 : Int32) (c_t_acts_j13 : Int32) (c_t_refused_j13 : Int32) (c_t_thrown_j13 : Int32) (f_t_forms_j13 : Nat → Int64), J_X9_product_13 p0 c_t_many f_t_roll js1_13 c_t_acts_j13 c_t_refused_j13 c_t_thrown_j13 f_t_forms_j13 = some (r0, o_c_t_acts, o_c_t_refused, o_c_t_thrown, o_f_t_forms) → ∀ (H : Heap) (locs : List Loc), va_P D vwCl [(a_t, .inr (8, [.ref a_t_forms, .ref a_t_roll, .int c_t_many, .long c_t_taps, .int c_t_cells, .int c_t_acts_j13, .int c_t_refused_j13, .int c_t_knocks, .int c_t_thrown_j13])), (a_t_forms, .inl (cyJ, 6, .inr (.inl f_t_forms_j13))), (a_t_roll, .inl (cyJ, 12, .inr (.inl f_t_roll)))] H → va_D A [(a_t, .inr (8, [.ref a_t_forms, .ref a_t_roll, .int c_t_many, .long c_t_taps, .int c_t_cells, .int c_t_acts_j13, .int c_t_refused_j13, .int c_t_knocks, .int c_t_thrown_j13])), (a_t_forms, .inl (cyJ, 6, .inr (.inl f_t_forms_j13))), (a_t_roll, .inl (cyJ, 12, .inr (.inl f_t_roll)))] → va_S A s.heap H locs → ∀ (ls : Array Slot), lv_has ls 7 [(0, .ref a_t), (1, .int p0)] → W p l e rmX9_product s m ([.ref a_t, .int p0] : List Value).toArray below meth c H locs 0 0 (MQ below (va_Qi (fun (r : Int32) (_ : Unit) => r = r0) (fun _ t => wQA D [(a_t, .inr (8, [.ref a_t_forms, .ref a_t_roll, .int c_t_many, .long c_t_taps, .int c_t_cells, .int o_c_t_acts, .int o_c_t_refused, .int c_t_knocks, .int o_c_t_thrown])), (a_t_forms, .inl (cyJ, 6, .inr (.inl o_f_t_forms))), (a_t_roll, .inl (cyJ, 12, .inr (.inl f_t_roll)))] A t) A) ([.ref a_t, .int p0] : List Value).toArray s 0 0 A) (F0 m 13 ls [.int js1_13, .ref a_t]) := by
    intro js1_13 c_t_acts_j13 c_t_refused_j13 c_t_thrown_j13 f_t_forms_j13 h H locs hP hD hS ls hl
    unfold J_X9_product_13 at h
    obtain ⟨r13, c_t_thrown_13, hc13, h⟩ := obn2_h h
    have hPc := hP.sub (ws' := [(a_t, .inr (8, [.ref a_t_forms, .ref a_t_roll, .int c_t_many, .long c_t_taps, .int c_t_cells, .int c_t_acts_j13, .int c_t_refused_j13, .int c_t_knocks, .int c_t_thrown_j13]))]) [0] rfl
    have hDc := hD.sub (ws' := [(a_t, .inr (8, [.ref a_t_forms, .ref a_t_roll, .int c_t_many, .long c_t_taps, .int c_t_cells, .int c_t_acts_j13, .int c_t_refused_j13, .int c_t_knocks, .int c_t_thrown_j13]))]) [0] (by decide) rfl
    refine hp_i (w1 := [(a_t, .inr (8, [.ref a_t_forms, .ref a_t_roll, .int c_t_many, .long c_t_taps, .int c_t_cells, .int c_t_acts_j13, .int c_t_refused_j13, .int c_t_knocks, .int c_t_thrown_13]))]) (wr := [(a_t_forms, .inl (cyJ, 6, .inr (.inl f_t_forms_j13))), (a_t_roll, .inl (cyJ, 12, .inr (.inl f_t_roll)))]) (va_runV (As := [.int js1_13]) (rest := []) hcf (c_X9_isThrown_ l D cyJ H.size a_t a_t_forms a_t_roll c_t_many c_t_taps c_t_cells c_t_acts_j13 c_t_refused_j13 c_t_knocks c_t_thrown_j13 js1_13 r13 c_t_thrown_13 hc13) (cwV 1 hts gX9_product_X9_isThrown_ rfl rfl rfl ydX9_isThrown_ ⟨Nat.le_of_ble_eq_true rfl, Nat.le_of_ble_eq_true rfl⟩) ⟨bl_PD, va_recv hK hP (ci := 8) (q0 := 0) rfl rfl, pr_PD hPc hK0 hDc hnw⟩ rfl rfl hl.1 rfl (lv_room (Nat.le_of_ble_eq_true rfl)) dX9_product_13 ⟨Nat.le_of_ble_eq_true rfl, Nat.le_of_ble_eq_true rfl⟩) hP hD hS hA [0] [1, 2] rfl rfl (by decide) (by decide) (fun H locs hP hD hS => ?_)
    have hP : va_P D vwCl [(a_t_forms, .inl (cyJ, 6, .inr (.inl f_t_forms_j13))), (a_t_roll, .inl (cyJ, 12, .inr (.inl f_t_roll))), (a_t, .inr (8, [.ref a_t_forms, .ref a_t_roll, .int c_t_many, .long c_t_taps, .int c_t_cells, .int c_t_acts_j13, .int c_t_refused_j13, .int c_t_knocks, .int c_t_thrown_13]))] H := hP
    have hD : va_D A [(a_t_forms, .inl (cyJ, 6, .inr (.inl f_t_forms_j13))), (a_t_roll, .inl (cyJ, 12, .inr (.inl f_t_roll))), (a_t, .inr (8, [.ref a_t_forms, .ref a_t_roll, .int c_t_many, .long c_t_taps, .int c_t_cells, .int c_t_acts_j13, .int c_t_refused_j13, .int c_t_knocks, .int c_t_thrown_13]))] := hD
    refine lv_if_eq (tgt := 21) hx hb dX9_product_16 (by decide) (fun c16 => ?_) (fun c16 => ?_)
    · have h := it_ c16 h
      refine lv_iconst (v := 0) hx hb dX9_product_21 (by decide) ?_
      refine lv_istore_n (lv' := [(2, .int (0 : Int32)), (0, .ref a_t), (1, .int p0)]) hx hb dX9_product_22 rfl hl (by decide) rfl (fun ls hl => ?_)
      refine lv_iconst (v := 0) hx hb dX9_product_23 (by decide) ?_
      refine lv_istore_n (lv' := [(3, .int (0 : Int32)), (2, .int (0 : Int32)), (0, .ref a_t), (1, .int p0)]) hx hb dX9_product_24 rfl hl (by decide) rfl (fun ls hl => ?_)
      refine lv_iconst (v := 0) hx hb dX9_product_25 (by decide) ?_
      refine lv_istore (lv' := [(4, .int (0 : Int32)), (3, .int (0 : Int32)), (2, .int (0 : Int32)), (0, .ref a_t), (1, .int p0)]) hx hb dX9_product_26 hl (by decide) rfl (fun ls hl => ?_)
      refine LQ3_k1 (M := fun (y2_28 : Int32) (y3_28 : Int32) (y4_28 : Int32) => ∀ (ls : Array Slot), lv_has ls 7 [(0, .ref a_t), (1, .int p0), (2, .int y2_28), (3, .int y3_28), (4, .int y4_28)] → W p l e rmX9_product s m ([.ref a_t, .int p0] : List Value).toArray below meth c H locs 0 0 (MQ below (va_Qi (fun (r : Int32) (_ : Unit) => r = r0) (fun _ t => wQA D [(a_t, .inr (8, [.ref a_t_forms, .ref a_t_roll, .int c_t_many, .long c_t_taps, .int c_t_cells, .int o_c_t_acts, .int o_c_t_refused, .int c_t_knocks, .int o_c_t_thrown])), (a_t_forms, .inl (cyJ, 6, .inr (.inl o_f_t_forms))), (a_t_roll, .inl (cyJ, 12, .inr (.inl f_t_roll)))] A t) A) ([.ref a_t, .int p0] : List Value).toArray s 0 0 A) (F0 m 28 ls [])) ?_ _ _ _ _ h ls (lv_sub hl [3, 4, 2, 1, 0] rfl)
      intro k76 hk76 ih28 hih28 y2_28 y3_28 y4_28 h ls hl
      unfold S_X9_product_28 at h
      have hj68 : ∀ (j2_68 : Int32) (j4_68 : Int32) (js0_68 : Int32) (js1_68 : Int32), J_X9_product_68 ih28 j2_68 j4_68 js0_68 js1_68 = some (r0, o_c_t_acts, o_c_t_refused, o_c_t_thrown, o_f_t_forms) → ∀ (ls : Array Slot), lv_has ls 7 [(0, .ref a_t), (1, .int p0), (2, .int j2_68), (4, .int j4_68)] → W p l e rmX9_product s m ([.ref a_t, .int p0] : List Value).toArray below meth c H locs 0 0 (MQ below (va_Qi (fun (r : Int32) (_ : Unit) => r = r0) (fun _ t => wQA D [(a_t, .inr (8, [.ref a_t_forms, .ref a_t_roll, .int c_t_many, .long c_t_taps, .int c_t_cells, .int o_c_t_acts, .int o_c_t_refused, .int c_t_knocks, .int o_c_t_thrown])), (a_t_forms, .inl (cyJ, 6, .inr (.inl o_f_t_forms))), (a_t_roll, .inl (cyJ, 12, .inr (.inl f_t_roll)))] A t) A) ([.ref a_t, .int p0] : List Value).toArray s 0 0 A) (F0 m 68 ls [.int js1_68, .int js0_68]) := by
        intro j2_68 j4_68 js0_68 js1_68 h ls hl
        unfold J_X9_product_68 at h
        refine lv_ior hx hb dX9_product_68 ?_
        refine lv_topi (fun x3_69 e_x3_69 => ?_)
        have h := bnd_h e_x3_69 h
        refine lv_istore_n (lv' := [(3, .int x3_69), (0, .ref a_t), (1, .int p0), (2, .int j2_68), (4, .int j4_68)]) hx hb dX9_product_69 rfl hl (by decide) rfl (fun ls hl => ?_)
        obtain ⟨x4_70, e_x4_70⟩ : ∃ z : Int32, z = j4_68 + 1 := ⟨_, rfl⟩
        have h := bnd_h e_x4_70 h
        refine lv_iinc (v := x4_70) (lv' := [(4, .int x4_70), (3, .int x3_69), (0, .ref a_t), (1, .int p0), (2, .int j2_68)]) hx hb dX9_product_70 hl (k := 4) rfl (by rw [e_x4_70]; rfl) (by decide) rfl (fun ls hl => ?_)
        refine lv_goto (tgt := 28) hx hb dX9_product_73 (by decide) ?_
        exact hih28 j2_68 x3_69 x4_70 h ls (lv_sub hl [2, 3, 4, 1, 0] rfl)
      refine lv_iload hx hb dX9_product_28 (lv_at hl 4 rfl) ?_
      refine lv_aload_n hx hb dX9_product_30 rfl (lv_at hl 0 rfl) ?_
      refine va_get (D := D) (ci := 8) (v := .int c_t_many) (C := RX9) (T := TX9) (N := 9) hx hb hts hinX9 hown hK hP 2 rfl rfl 2 (by decide) hfl123 (fun _ h9 => h9) rfl dX9_product_31 ?_
      refine lv_icmp_ge (tgt := 76) hx hb dX9_product_34 (by decide) (fun c34 => ?_) (fun c34 => ?_)
      · have h := it_ c34 h
        rw [hk76] at h
        refine lv_iload_n hx hb dX9_product_76 rfl (lv_at hl 3 rfl) ?_
        refine lv_if_ne (tgt := 91) hx hb dX9_product_77 (by decide) (fun c77 => ?_) (fun c77 => ?_)
        · have h := if_ c77 h
          exact hj91 y3_28 c_t_acts_j13 c_t_refused_j13 c_t_thrown_13 f_t_forms_j13 h _ _ (hP.sub [2, 0, 1] rfl) (hD.sub [2, 0, 1] (by decide) rfl) hS ls (lv_sub hl [0, 1, 3] rfl)
        · have h := it_ c77 h
          refine lv_iload_n hx hb dX9_product_80 rfl (lv_at hl 2 rfl) ?_
          refine lv_bipush (v := 40) hx hb dX9_product_81 (by decide) ?_
          refine lv_icmp_lt (tgt := 91) hx hb dX9_product_83 (by decide) (fun c83 => ?_) (fun c83 => ?_)
          · have h := it_ c83 h
            exact hj91 y3_28 c_t_acts_j13 c_t_refused_j13 c_t_thrown_13 f_t_forms_j13 h _ _ (hP.sub [2, 0, 1] rfl) (hD.sub [2, 0, 1] (by decide) rfl) hS ls (lv_sub hl [0, 1, 3] rfl)
          · have h := if_ c83 h
            refine lv_aload_n hx hb dX9_product_86 rfl (lv_at hl 0 rfl) ?_
            obtain ⟨r87, c_t_refused_87, hc87, h⟩ := obn2_h h
            have hPc := hP.sub (ws' := [(a_t, .inr (8, [.ref a_t_forms, .ref a_t_roll, .int c_t_many, .long c_t_taps, .int c_t_cells, .int c_t_acts_j13, .int c_t_refused_j13, .int c_t_knocks, .int c_t_thrown_13]))]) [2] rfl
            have hDc := hD.sub (ws' := [(a_t, .inr (8, [.ref a_t_forms, .ref a_t_roll, .int c_t_many, .long c_t_taps, .int c_t_cells, .int c_t_acts_j13, .int c_t_refused_j13, .int c_t_knocks, .int c_t_thrown_13]))]) [2] (by decide) rfl
            refine hp_i (w1 := [(a_t, .inr (8, [.ref a_t_forms, .ref a_t_roll, .int c_t_many, .long c_t_taps, .int c_t_cells, .int c_t_acts_j13, .int c_t_refused_87, .int c_t_knocks, .int c_t_thrown_13]))]) (wr := [(a_t_forms, .inl (cyJ, 6, .inr (.inl f_t_forms_j13))), (a_t_roll, .inl (cyJ, 12, .inr (.inl f_t_roll)))]) (va_runV (As := []) (rest := []) hcf (c_X9_no l D cyJ H.size a_t a_t_forms a_t_roll c_t_many c_t_taps c_t_cells c_t_acts_j13 c_t_refused_j13 c_t_knocks c_t_thrown_13 r87 c_t_refused_87 hc87) (cwV 0 hts gX9_product_X9_no rfl rfl rfl ydX9_no ⟨Nat.le_of_ble_eq_true rfl, Nat.le_of_ble_eq_true rfl⟩) ⟨bl_PD, va_recv hK hP (ci := 8) (q0 := 2) rfl rfl, pr_PD hPc hK0 hDc hnw⟩ rfl rfl hl.1 rfl (lv_room (Nat.le_of_ble_eq_true rfl)) dX9_product_87 ⟨Nat.le_of_ble_eq_true rfl, Nat.le_of_ble_eq_true rfl⟩) hP hD hS hA [2] [0, 1] rfl rfl (by decide) (by decide) (fun H locs hP hD hS => ?_)
            have hP : va_P D vwCl [(a_t_forms, .inl (cyJ, 6, .inr (.inl f_t_forms_j13))), (a_t_roll, .inl (cyJ, 12, .inr (.inl f_t_roll))), (a_t, .inr (8, [.ref a_t_forms, .ref a_t_roll, .int c_t_many, .long c_t_taps, .int c_t_cells, .int c_t_acts_j13, .int c_t_refused_87, .int c_t_knocks, .int c_t_thrown_13]))] H := hP
            have hD : va_D A [(a_t_forms, .inl (cyJ, 6, .inr (.inl f_t_forms_j13))), (a_t_roll, .inl (cyJ, 12, .inr (.inl f_t_roll))), (a_t, .inr (8, [.ref a_t_forms, .ref a_t_roll, .int c_t_many, .long c_t_taps, .int c_t_cells, .int c_t_acts_j13, .int c_t_refused_87, .int c_t_knocks, .int c_t_thrown_13]))] := hD
            obtain ⟨e0, e1, e2, e3, e4⟩ := tup5 h
            subst e0
            subst e1
            subst e2
            subst e3
            subst e4
            have hP9 : va_P D vwCl [(a_t, .inr (8, [.ref a_t_forms, .ref a_t_roll, .int c_t_many, .long c_t_taps, .int c_t_cells, .int c_t_acts_j13, .int c_t_refused_87, .int c_t_knocks, .int c_t_thrown_13])), (a_t_forms, .inl (cyJ, 6, .inr (.inl f_t_forms_j13))), (a_t_roll, .inl (cyJ, 12, .inr (.inl f_t_roll)))] H := hP.sub [2, 0, 1] rfl
            have hD9 : va_D A [(a_t, .inr (8, [.ref a_t_forms, .ref a_t_roll, .int c_t_many, .long c_t_taps, .int c_t_cells, .int c_t_acts_j13, .int c_t_refused_87, .int c_t_knocks, .int c_t_thrown_13])), (a_t_forms, .inl (cyJ, 6, .inr (.inl f_t_forms_j13))), (a_t_roll, .inl (cyJ, 12, .inr (.inl f_t_roll)))] := hD.sub [2, 0, 1] (by decide) rfl
            exact W.iret hx hb hr (fun t ht hW => ⟨⟨_, (), rfl, rfl, wQA_of ht hP9 hD9⟩, hS.F ht⟩) hS.2.2 dX9_product_90
      · have h := if_ c34 h
        refine lv_iload_n hx hb dX9_product_37 rfl (lv_at hl 2 rfl) ?_
        refine lv_aload_n hx hb dX9_product_38 rfl (lv_at hl 0 rfl) ?_
        refine va_get (D := D) (ci := 8) (v := .ref a_t_roll) (C := RX9) (T := TX9) (N := 9) hx hb hts hinX9 hown hK hP 2 rfl rfl 1 (by decide) hfl13 (fun _ h9 => h9) rfl dX9_product_39 ?_
        refine lv_iload hx hb dX9_product_42 (lv_at hl 4 rfl) ?_
        obtain ⟨hq44, h⟩ := chk_h h
        refine va_lald hx hb hK hP 1 0 rfl rfl hq44 dX9_product_44 ?_
        obtain ⟨r45, hc45, h⟩ := obn_h h
        refine pz_callS (As := [.long (f_t_roll y4_28.toNatClampNeg)]) (rest := [.int y2_28]) hcf (c_X9_degreeOf l (f_t_roll y4_28.toNatClampNeg) r45 hc45) (va_cwS 1 hts gX9_product_X9_degreeOf rfl rfl rfl ydX9_degreeOf ⟨Nat.le_of_ble_eq_true rfl, Nat.le_of_ble_eq_true rfl⟩) hnw rfl hl.1 rfl (Nat.le_of_ble_eq_true rfl) dX9_product_45 ⟨Nat.le_of_ble_eq_true rfl, Nat.le_of_ble_eq_true rfl⟩ ?_
        refine lv_iadd hx hb dX9_product_48 ?_
        refine lv_topi (fun x2_49 e_x2_49 => ?_)
        have h := bnd_h e_x2_49 h
        refine lv_istore_n (lv' := [(2, .int x2_49), (0, .ref a_t), (1, .int p0), (3, .int y3_28), (4, .int y4_28)]) hx hb dX9_product_49 rfl hl (by decide) rfl (fun ls hl => ?_)
        refine lv_iload_n hx hb dX9_product_50 rfl (lv_at hl 3 rfl) ?_
        refine lv_aload_n hx hb dX9_product_51 rfl (lv_at hl 1 rfl) ?_
        refine va_get (D := D) (ci := 8) (v := .ref a_t_roll) (C := RX9) (T := TX9) (N := 9) hx hb hts hinX9 hown hK hP 2 rfl rfl 1 (by decide) hfl13 (fun _ h9 => h9) rfl dX9_product_52 ?_
        refine lv_iload hx hb dX9_product_55 (lv_at hl 4 rfl) ?_
        obtain ⟨hq57, h⟩ := chk_h h
        refine va_lald hx hb hK hP 1 0 rfl rfl hq57 dX9_product_57 ?_
        refine lv_lconst (v := 0) hx hb dX9_product_58 (by decide) ?_
        refine W.lcmp hx hb dX9_product_59 ?_
        refine lv_if_ne (tgt := 67) hx hb dX9_product_60 (by decide) (fun c60 => ?_) (fun c60 => ?_)
        · have c60 := fun z => c60 ((lg_cmp_eq _ _).mpr z)
          have h := if_ c60 h
          refine lv_iconst (v := 0) hx hb dX9_product_67 (by decide) ?_
          exact hj68 x2_49 y4_28 y3_28 (0 : Int32) h ls (lv_sub hl [1, 2, 0, 4] rfl)
        · have c60 := (lg_cmp_eq _ _).mp c60
          have h := it_ c60 h
          refine lv_iconst (v := 1) hx hb dX9_product_63 (by decide) ?_
          refine lv_goto (tgt := 68) hx hb dX9_product_64 (by decide) ?_
          exact hj68 x2_49 y4_28 y3_28 (1 : Int32) h ls (lv_sub hl [1, 2, 0, 4] rfl)
    · have h := if_ c16 h
      refine lv_iconst (v := 0) hx hb dX9_product_19 (by decide) ?_
      obtain ⟨e0, e1, e2, e3, e4⟩ := tup5 h
      subst e0
      subst e1
      subst e2
      subst e3
      subst e4
      have hP9 : va_P D vwCl [(a_t, .inr (8, [.ref a_t_forms, .ref a_t_roll, .int c_t_many, .long c_t_taps, .int c_t_cells, .int c_t_acts_j13, .int c_t_refused_j13, .int c_t_knocks, .int c_t_thrown_13])), (a_t_forms, .inl (cyJ, 6, .inr (.inl f_t_forms_j13))), (a_t_roll, .inl (cyJ, 12, .inr (.inl f_t_roll)))] H := hP.sub [2, 0, 1] rfl
      have hD9 : va_D A [(a_t, .inr (8, [.ref a_t_forms, .ref a_t_roll, .int c_t_many, .long c_t_taps, .int c_t_cells, .int c_t_acts_j13, .int c_t_refused_j13, .int c_t_knocks, .int c_t_thrown_13])), (a_t_forms, .inl (cyJ, 6, .inr (.inl f_t_forms_j13))), (a_t_roll, .inl (cyJ, 12, .inr (.inl f_t_roll)))] := hD.sub [2, 0, 1] (by decide) rfl
      exact W.iret hx hb hr (fun t ht hW => ⟨⟨_, (), rfl, rfl, wQA_of ht hP9 hD9⟩, hS.F ht⟩) hS.2.2 dX9_product_20
  refine lv_aload_n hx hb dX9_product_0 rfl (lv_at hl 0 rfl) ?_
  refine lv_iload_n hx hb dX9_product_1 rfl (lv_at hl 1 rfl) ?_
  obtain ⟨r2, hc2, h⟩ := obn_h h
  refine pz_callS (As := [.int p0]) (rest := [.ref a_t]) hcf (c_X9_isForm l p0 r2 hc2) (va_cwS 1 hts gX9_product_X9_isForm rfl rfl rfl ydX9_isForm ⟨Nat.le_of_ble_eq_true rfl, Nat.le_of_ble_eq_true rfl⟩) hnw rfl hl.1 rfl (Nat.le_of_ble_eq_true rfl) dX9_product_2 ⟨Nat.le_of_ble_eq_true rfl, Nat.le_of_ble_eq_true rfl⟩ ?_
  refine lv_if_ne (tgt := 12) hx hb dX9_product_5 (by decide) (fun c5 => ?_) (fun c5 => ?_)
  · have h := if_ c5 h
    refine lv_iconst (v := 0) hx hb dX9_product_12 (by decide) ?_
    exact hj13 (0 : Int32) c_t_acts c_t_refused c_t_thrown f_t_forms h _ _ (hP.sub [0, 1, 2] rfl) (hD.sub [0, 1, 2] (by decide) rfl) hS ls (lv_sub hl [0, 1] rfl)
  · have h := it_ c5 h
    refine lv_iconst (v := 1) hx hb dX9_product_8 (by decide) ?_
    refine lv_goto (tgt := 13) hx hb dX9_product_9 (by decide) ?_
    exact hj13 (1 : Int32) c_t_acts c_t_refused c_t_thrown f_t_forms h _ _ (hP.sub [0, 1, 2] rfl) (hD.sub [0, 1, 2] (by decide) rfl) hS ls (lv_sub hl [0, 1] rfl)
