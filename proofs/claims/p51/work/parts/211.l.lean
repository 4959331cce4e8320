noncomputable abbrev rmL_divide : Room := { frames := 11, cells := 3, slots := 18, locals := 165 }
theorem ydL_divide : yL_divide.cls ≠ "java/lang/invoke/MethodHandle" ∧ yL_divide.cls ≠ "java/lang/invoke/VarHandle" ∧ (parseMethodDescriptor yL_divide.desc).map (fun d => d.parameters.length) = some 5 := by decide +kernel
noncomputable def F_L_divide (c_q0_acts : Int32) (c_q0_refusals : Int32) (f_q0_forms : Nat → Int64) (c_q4_n : Int64) (p1 : Int32) (p2 : Int32) (p3 : Int32) : Option (Int32 × Int32 × Int32 × (Nat → Int64) × Int64) :=
 obn5 (F_X7_divide c_q0_acts c_q0_refusals f_q0_forms p1 p2 p3) (fun xc6 r6 c_q0_acts_6 c_q0_refusals_6 f_q0_forms_6 =>
 if xc6 = 0 then
 bnd r6.toInt64 (fun c_q4_n_10 =>
 some ((0 : Int32), c_q0_acts_6, c_q0_refusals_6, f_q0_forms_6, c_q4_n_10))
else
 (if xc6 = 1 then
 some ((1 : Int32), c_q0_acts_6, c_q0_refusals_6, f_q0_forms_6, c_q4_n)
else
 none))
set_option maxHeartbeats 4000000 in
set_option maxRecDepth 100000 in
theorem c_L_divide (l : Launch) (hfl : l.stackTraces = false) (D : va_G) (cyJ : ClassId) (sz : Nat) (a_q0 : Nat) (a_q4 : Nat) (a_q0_forms : Nat) (a_q0_roll : Nat) (a_q0_row : Nat) (a_q0_rows : Nat) (a_q0_factors : Nat) (a_q0_found : Nat) (a_q0_foundOtherwise : Nat) (c_q0_acts : Int32) (c_q0_refusals : Int32) (c_q0_knocks : Int32) (f_q0_forms : Nat → Int64) (c_q4_n : Int64) (c_q4_s : Value) (p1 : Int32) (p2 : Int32) (p3 : Int32) (r0 : Int32) (o_c_q0_acts : Int32) (o_c_q0_refusals : Int32) (o_f_q0_forms : Nat → Int64) (o_c_q4_n : Int64) (hF : F_L_divide c_q0_acts c_q0_refusals f_q0_forms c_q4_n p1 p2 p3 = some (r0, o_c_q0_acts, o_c_q0_refusals, o_f_q0_forms, o_c_q4_n)) : vx_Met l yL_divide wsL_divide rmL_divide (va_Pc [.ref a_q0, .int p1, .int p2, .int p3, .ref a_q4] (wPL D [(cyJ, .long)] [(a_q0, .inr (6, [.ref a_q0_forms, .ref a_q0_roll, .ref a_q0_row, .ref a_q0_rows, .ref a_q0_factors, .ref a_q0_found, .ref a_q0_foundOtherwise, .int c_q0_acts, .int c_q0_refusals, .int c_q0_knocks])), (a_q0_forms, .inl (cyJ, 6, .inr (.inl f_q0_forms))), (a_q4, .inr (7, [.long c_q4_n, c_q4_s]))] sz)) (va_Qi (fun (r : Int32) (_ : Unit) => r = r0) (fun _ t => wQA D [(a_q0, .inr (6, [.ref a_q0_forms, .ref a_q0_roll, .ref a_q0_row, .ref a_q0_rows, .ref a_q0_factors, .ref a_q0_found, .ref a_q0_foundOtherwise, .int o_c_q0_acts, .int o_c_q0_refusals, .int c_q0_knocks])), (a_q0_forms, .inl (cyJ, 6, .inr (.inl o_f_q0_forms))), (a_q4, .inr (7, [.long o_c_q4_n, c_q4_s]))] (va_A [(a_q0, .inr (6, [.ref a_q0_forms, .ref a_q0_roll, .ref a_q0_row, .ref a_q0_rows, .ref a_q0_factors, .ref a_q0_found, .ref a_q0_foundOtherwise, .int c_q0_acts, .int c_q0_refusals, .int c_q0_knocks])), (a_q0_forms, .inl (cyJ, 6, .inr (.inl f_q0_forms))), (a_q4, .inr (7, [.long c_q4_n, c_q4_s]))] sz) t) (va_A [(a_q0, .inr (6, [.ref a_q0_forms, .ref a_q0_roll, .ref a_q0_row, .ref a_q0_rows, .ref a_q0_factors, .ref a_q0_found, .ref a_q0_foundOtherwise, .int c_q0_acts, .int c_q0_refusals, .int c_q0_knocks])), (a_q0_forms, .inl (cyJ, 6, .inr (.inl f_q0_forms))), (a_q4, .inr (7, [.long c_q4_n, c_q4_s]))] sz)) (fun _ _ _ => False) 3 18 (va_A [(a_q0, .inr (6, [.ref a_q0_forms, .ref a_q0_roll, .ref a_q0_row, .ref a_q0_rows, .ref a_q0_factors, .ref a_q0_found, .ref a_q0_foundOtherwise, .int c_q0_acts, .int c_q0_refusals, .int c_q0_knocks])), (a_q0_forms, .inl (cyJ, 6, .inr (.inl f_q0_forms))), (a_q4, .inr (7, [.long c_q4_n, c_q4_s]))] sz) := by
  refine vx_ofWH (cc := cL_divide) (maxL := 6) (ret := (some .int)) (hh := [(0, 13, 16, 19)]) (by decide) rfl ?_
  intro p e s m args below meth c s₁ B hml hv
  obtain ⟨rfl, ⟨⟨hsz, hP, hK, hD0, hnw⟩, hE⟩, hNc⟩ := hv
  have hx := B.exec
  have hb := B.bytes
  have hr := B.returns
  have hts := atoms_spec (ws := wsL_divide) B.pre
  have hown : s.vm.findClass RL = some m.cls := findClass_of_methodNamed B.named
  have hlocks := B.notSynchronized
  have hcf : CallFix _ _ _ _ _ _ _ _ _ := ⟨hx, hb, hml, hown, hts⟩
  have hxt : c.exceptionTable.toList = tableOf [(0, 13, 16, 19)] := vx_table (x := yL_divide) B (hts _ List.mem_cons_self)
  have hinX8 : ∀ w ∈ u_ws RX8 TX8 2, w ∈ wsL_divide := by decide +kernel
  have hfl13 := hnw.use (A := ([.ref a_q0, .int p1, .int p2, .int p3, .ref a_q4] : List Value).toArray) (w := .fieldLinkNest RL 13 "FormwheelLaw$Out" "n" "J" "FormwheelLaw") (by decide +kernel)
  subst hsz
  have hD := hD0.self (sz := s.heap.size)
  generalize hAe : va_A [(a_q0, .inr (6, [.ref a_q0_forms, .ref a_q0_roll, .ref a_q0_row, .ref a_q0_rows, .ref a_q0_factors, .ref a_q0_found, .ref a_q0_foundOtherwise, .int c_q0_acts, .int c_q0_refusals, .int c_q0_knocks])), (a_q0_forms, .inl (cyJ, 6, .inr (.inl f_q0_forms))), (a_q4, .inr (7, [.long c_q4_n, c_q4_s]))] s.heap.size = A at hD hE ⊢
  have hA : ∀ q : Nat, s.heap.size ≤ q → A q := fun q h => by rw [← hAe]; exact Or.inr h
  have hS : va_S A s.heap s.heap [] := va_S.rf
  have hP : va_P D vwCl [(a_q0, .inr (6, [.ref a_q0_forms, .ref a_q0_roll, .ref a_q0_row, .ref a_q0_rows, .ref a_q0_factors, .ref a_q0_found, .ref a_q0_foundOtherwise, .int c_q0_acts, .int c_q0_refusals, .int c_q0_knocks])), (a_q0_forms, .inl (cyJ, 6, .inr (.inl f_q0_forms))), (a_q4, .inr (7, [.long c_q4_n, c_q4_s]))] s.heap := hP
  have hK0 := hK
  have hl := lv_entry ([.ref a_q0, .int p1, .int p2, .int p3, .ref a_q4]) (n := 6) (Nat.le_of_ble_eq_true rfl)
  rw [lg_entry_eq]
  generalize (lg_sl ([.ref a_q0, .int p1, .int p2, .int p3, .ref a_q4]) ++ List.replicate (6 - (lg_sl ([.ref a_q0, .int p1, .int p2, .int p3, .ref a_q4])).length) Slot.unset).toArray = ls at hl ⊢
  have hl : lv_has ls 6 [(0, .ref a_q0), (1, .int p1), (2, .int p2), (3, .int p3), (4, .ref a_q4)] := hl
  have h := hF
  clear hF
  unfold F_L_divide at h
  refine lv_aload hx hb dL_divide_0 (lv_at hl 4 rfl) ?_
  refine lv_aload_n hx hb dL_divide_2 rfl (lv_at hl 0 rfl) ?_
  refine lv_iload_n hx hb dL_divide_3 rfl (lv_at hl 1 rfl) ?_
  refine lv_iload_n hx hb dL_divide_4 rfl (lv_at hl 2 rfl) ?_
  refine lv_iload_n hx hb dL_divide_5 rfl (lv_at hl 3 rfl) ?_
  obtain ⟨xc6, r6, c_q0_acts_6, c_q0_refusals_6, f_q0_forms_6, hc6, h⟩ := obn5_h h
  have hPc := hP.sub (ws' := [(a_q0, .inr (6, [.ref a_q0_forms, .ref a_q0_roll, .ref a_q0_row, .ref a_q0_rows, .ref a_q0_factors, .ref a_q0_found, .ref a_q0_foundOtherwise, .int c_q0_acts, .int c_q0_refusals, .int c_q0_knocks])), (a_q0_forms, .inl (cyJ, 6, .inr (.inl f_q0_forms)))]) [0, 1] rfl
  have hDc := hD.sub (ws' := [(a_q0, .inr (6, [.ref a_q0_forms, .ref a_q0_roll, .ref a_q0_row, .ref a_q0_rows, .ref a_q0_factors, .ref a_q0_found, .ref a_q0_foundOtherwise, .int c_q0_acts, .int c_q0_refusals, .int c_q0_knocks])), (a_q0_forms, .inl (cyJ, 6, .inr (.inl f_q0_forms)))]) [0, 1] (by decide) rfl
  refine hx_i (w1 := [(a_q0, .inr (6, [.ref a_q0_forms, .ref a_q0_roll, .ref a_q0_row, .ref a_q0_rows, .ref a_q0_factors, .ref a_q0_found, .ref a_q0_foundOtherwise, .int c_q0_acts_6, .int c_q0_refusals_6, .int c_q0_knocks])), (a_q0_forms, .inl (cyJ, 6, .inr (.inl f_q0_forms_6)))]) (wr := [(a_q4, .inr (7, [.long c_q4_n, c_q4_s]))]) (vx_runV (As := [.int p1, .int p2, .int p3]) (rest := [.ref a_q4]) hcf (c_X7_divide l hfl D cyJ s.heap.size a_q0 a_q0_forms a_q0_roll a_q0_row a_q0_rows a_q0_factors a_q0_found a_q0_foundOtherwise c_q0_acts c_q0_refusals c_q0_knocks f_q0_forms p1 p2 p3 xc6 r6 c_q0_acts_6 c_q0_refusals_6 f_q0_forms_6 hc6) (cwV 3 hts gL_divide_X7_divide rfl rfl rfl ydX7_divide ⟨Nat.le_of_ble_eq_true rfl, Nat.le_of_ble_eq_true rfl⟩) ⟨bl_PX, va_recv hK hP (ci := 6) (q0 := 0) rfl rfl, pr_PX hPc hK0 hDc hnw hE hS (va_free hD hS hA [0, 1] rfl)⟩ rfl rfl hl.1 rfl (lv_room (Nat.le_of_ble_eq_true rfl)) dL_divide_6 ⟨Nat.le_of_ble_eq_true rfl, Nat.le_of_ble_eq_true rfl⟩) hP hD hS hA [0, 1] [2] rfl rfl (by decide) (by decide) (fun E9 ce9 q9 H locs hx9 hE9 hP hD hS hce9 hcv9 hcl9 => ?_) (fun hx9 H locs hP hD hS => ?_)
  · have h := if_ hx9 h
    have hP : va_P D vwCl [(a_q4, .inr (7, [.long c_q4_n, c_q4_s])), (a_q0, .inr (6, [.ref a_q0_forms, .ref a_q0_roll, .ref a_q0_row, .ref a_q0_rows, .ref a_q0_factors, .ref a_q0_found, .ref a_q0_foundOtherwise, .int c_q0_acts_6, .int c_q0_refusals_6, .int c_q0_knocks])), (a_q0_forms, .inl (cyJ, 6, .inr (.inl f_q0_forms_6)))] H := hP
    have hD : va_D A [(a_q4, .inr (7, [.long c_q4_n, c_q4_s])), (a_q0, .inr (6, [.ref a_q0_forms, .ref a_q0_roll, .ref a_q0_row, .ref a_q0_rows, .ref a_q0_factors, .ref a_q0_found, .ref a_q0_foundOtherwise, .int c_q0_acts_6, .int c_q0_refusals_6, .int c_q0_knocks])), (a_q0_forms, .inl (cyJ, 6, .inr (.inl f_q0_forms_6)))] := hD
    by_cases cx0 : xc6 = 1
    · have h := it_ cx0 h
      have hE1 : E9 = "java/lang/IndexOutOfBoundsException" := by rw [hE9, cx0]; rfl
      subst hE1
      refine vx_catch (name := "java/lang/IndexOutOfBoundsException") hown (tableOf []) ⟨0, 13, 16, 19⟩ (tableOf []) hxt (fun z hz => absurd hz List.not_mem_nil) (by decide) (by decide) (hts (.classLink RL 19 "java/lang/IndexOutOfBoundsException") (by decide +kernel)) (va_Nw.use rfl (hE.2.1 (.castable "java/lang/IndexOutOfBoundsException" "java/lang/IndexOutOfBoundsException") (by decide +kernel))) hce9 hcv9 hcl9 ?_
      refine lv_astore (lv' := [(5, .ref q9), (0, .ref a_q0), (1, .int p1), (2, .int p2), (3, .int p3), (4, .ref a_q4)]) hx hb dL_divide_16 hl (by decide) rfl (fun ls hl => ?_)
      refine lv_iconst (v := 1) hx hb dL_divide_18 (by decide) ?_
      obtain ⟨e0, e1, e2, e3, e4⟩ := tup5 h
      subst e0
      subst e1
      subst e2
      subst e3
      subst e4
      have hP9 : va_P D vwCl [(a_q0, .inr (6, [.ref a_q0_forms, .ref a_q0_roll, .ref a_q0_row, .ref a_q0_rows, .ref a_q0_factors, .ref a_q0_found, .ref a_q0_foundOtherwise, .int c_q0_acts_6, .int c_q0_refusals_6, .int c_q0_knocks])), (a_q0_forms, .inl (cyJ, 6, .inr (.inl f_q0_forms_6))), (a_q4, .inr (7, [.long c_q4_n, c_q4_s]))] H := hP.sub [1, 2, 0] rfl
      have hD9 : va_D A [(a_q0, .inr (6, [.ref a_q0_forms, .ref a_q0_roll, .ref a_q0_row, .ref a_q0_rows, .ref a_q0_factors, .ref a_q0_found, .ref a_q0_foundOtherwise, .int c_q0_acts_6, .int c_q0_refusals_6, .int c_q0_knocks])), (a_q0_forms, .inl (cyJ, 6, .inr (.inl f_q0_forms_6))), (a_q4, .inr (7, [.long c_q4_n, c_q4_s]))] := hD.sub [1, 2, 0] (by decide) rfl
      refine vx_ret ?_
      exact W.iret hx hb hr (fun t ht hW => ⟨⟨_, (), rfl, rfl, wQA_of ht hP9 hD9⟩, hS.F ht⟩) hS.2.2 dL_divide_19
    have h := if_ cx0 h
    cases h
  · have h := it_ hx9 h
    have hP : va_P D vwCl [(a_q4, .inr (7, [.long c_q4_n, c_q4_s])), (a_q0, .inr (6, [.ref a_q0_forms, .ref a_q0_roll, .ref a_q0_row, .ref a_q0_rows, .ref a_q0_factors, .ref a_q0_found, .ref a_q0_foundOtherwise, .int c_q0_acts_6, .int c_q0_refusals_6, .int c_q0_knocks])), (a_q0_forms, .inl (cyJ, 6, .inr (.inl f_q0_forms_6)))] H := hP
    have hD : va_D A [(a_q4, .inr (7, [.long c_q4_n, c_q4_s])), (a_q0, .inr (6, [.ref a_q0_forms, .ref a_q0_roll, .ref a_q0_row, .ref a_q0_rows, .ref a_q0_factors, .ref a_q0_found, .ref a_q0_foundOtherwise, .int c_q0_acts_6, .int c_q0_refusals_6, .int c_q0_knocks])), (a_q0_forms, .inl (cyJ, 6, .inr (.inl f_q0_forms_6)))] := hD
    refine lv_i2l (v := r6.toInt64) hx hb dL_divide_9 rfl ?_
    refine lv_topl (fun c_q4_n_10 e_c_q4_n_10 => ?_)
    have h := bnd_h e_c_q4_n_10 h
    refine va_putN (D := D) (ci := 7) (v := .long c_q4_n_10) (ty := .long) (C := RX8) (T := TX8) (N := 2) hx hb hts hinX8 tyX8 tyX8_ok nmX8 hown hK hP hD hS 0 rfl rfl 0 (by decide) hfl13 (fun _ h9 => h9) rfl (by decide +kernel) rfl rfl (Nat.le_of_ble_eq_true rfl) dL_divide_10 (fun H locs hP hD hS => ?_)
    have hP : va_P D vwCl [(a_q4, .inr (7, [.long c_q4_n_10, c_q4_s])), (a_q0, .inr (6, [.ref a_q0_forms, .ref a_q0_roll, .ref a_q0_row, .ref a_q0_rows, .ref a_q0_factors, .ref a_q0_found, .ref a_q0_foundOtherwise, .int c_q0_acts_6, .int c_q0_refusals_6, .int c_q0_knocks])), (a_q0_forms, .inl (cyJ, 6, .inr (.inl f_q0_forms_6)))] H := hP
    have hD : va_D A [(a_q4, .inr (7, [.long c_q4_n_10, c_q4_s])), (a_q0, .inr (6, [.ref a_q0_forms, .ref a_q0_roll, .ref a_q0_row, .ref a_q0_rows, .ref a_q0_factors, .ref a_q0_found, .ref a_q0_foundOtherwise, .int c_q0_acts_6, .int c_q0_refusals_6, .int c_q0_knocks])), (a_q0_forms, .inl (cyJ, 6, .inr (.inl f_q0_forms_6)))] := hD
    refine lv_goto (tgt := 20) hx hb dL_divide_13 (by decide) ?_
    refine lv_iconst (v := 0) hx hb dL_divide_20 (by decide) ?_
    obtain ⟨e0, e1, e2, e3, e4⟩ := tup5 h
    subst e0
    subst e1
    subst e2
    subst e3
    subst e4
    have hP9 : va_P D vwCl [(a_q0, .inr (6, [.ref a_q0_forms, .ref a_q0_roll, .ref a_q0_row, .ref a_q0_rows, .ref a_q0_factors, .ref a_q0_found, .ref a_q0_foundOtherwise, .int c_q0_acts_6, .int c_q0_refusals_6, .int c_q0_knocks])), (a_q0_forms, .inl (cyJ, 6, .inr (.inl f_q0_forms_6))), (a_q4, .inr (7, [.long c_q4_n_10, c_q4_s]))] H := hP.sub [1, 2, 0] rfl
    have hD9 : va_D A [(a_q0, .inr (6, [.ref a_q0_forms, .ref a_q0_roll, .ref a_q0_row, .ref a_q0_rows, .ref a_q0_factors, .ref a_q0_found, .ref a_q0_foundOtherwise, .int c_q0_acts_6, .int c_q0_refusals_6, .int c_q0_knocks])), (a_q0_forms, .inl (cyJ, 6, .inr (.inl f_q0_forms_6))), (a_q4, .inr (7, [.long c_q4_n_10, c_q4_s]))] := hD.sub [1, 2, 0] (by decide) rfl
    refine vx_ret ?_
    exact W.iret hx hb hr (fun t ht hW => ⟨⟨_, (), rfl, rfl, wQA_of ht hP9 hD9⟩, hS.F ht⟩) hS.2.2 dL_divide_21

noncomputable abbrev rmL_remain : Room := { frames := 11, cells := 3, slots := 18, locals := 165 }
theorem ydL_remain : yL_remain.cls ≠ "java/lang/invoke/MethodHandle" ∧ yL_remain.cls ≠ "java/lang/invoke/VarHandle" ∧ (parseMethodDescriptor yL_remain.desc).map (fun d => d.parameters.length) = some 5 := by decide +kernel
noncomputable def F_L_remain (c_q0_acts : Int32) (c_q0_refusals : Int32) (f_q0_forms : Nat → Int64) (c_q4_n : Int64) (p1 : Int32) (p2 : Int32) (p3 : Int32) : Option (Int32 × Int32 × Int32 × (Nat → Int64) × Int64) :=
 obn5 (F_X7_remain c_q0_acts c_q0_refusals f_q0_forms p1 p2 p3) (fun xc6 r6 c_q0_acts_6 c_q0_refusals_6 f_q0_forms_6 =>
 if xc6 = 0 then
 bnd r6.toInt64 (fun c_q4_n_10 =>
 some ((0 : Int32), c_q0_acts_6, c_q0_refusals_6, f_q0_forms_6, c_q4_n_10))
else
 (if xc6 = 1 then
 some ((1 : Int32), c_q0_acts_6, c_q0_refusals_6, f_q0_forms_6, c_q4_n)
else
 none))
set_option maxHeartbeats 4000000 in
set_option maxRecDepth 100000 in
theorem c_L_remain (l : Launch) (hfl : l.stackTraces = false) (D : va_G) (cyJ : ClassId) (sz : Nat) (a_q0 : Nat) (a_q4 : Nat) (a_q0_forms : Nat) (a_q0_roll : Nat) (a_q0_row : Nat) (a_q0_rows : Nat) (a_q0_factors : Nat) (a_q0_found : Nat) (a_q0_foundOtherwise : Nat) (c_q0_acts : Int32) (c_q0_refusals : Int32) (c_q0_knocks : Int32) (f_q0_forms : Nat → Int64) (c_q4_n : Int64) (c_q4_s : Value) (p1 : Int32) (p2 : Int32) (p3 : Int32) (r0 : Int32) (o_c_q0_acts : Int32) (o_c_q0_refusals : Int32) (o_f_q0_forms : Nat → Int64) (o_c_q4_n : Int64) (hF : F_L_remain c_q0_acts c_q0_refusals f_q0_forms c_q4_n p1 p2 p3 = some (r0, o_c_q0_acts, o_c_q0_refusals, o_f_q0_forms, o_c_q4_n)) : vx_Met l yL_remain wsL_remain rmL_remain (va_Pc [.ref a_q0, .int p1, .int p2, .int p3, .ref a_q4] (wPL D [(cyJ, .long)] [(a_q0, .inr (6, [.ref a_q0_forms, .ref a_q0_roll, .ref a_q0_row, .ref a_q0_rows, .ref a_q0_factors, .ref a_q0_found, .ref a_q0_foundOtherwise, .int c_q0_acts, .int c_q0_refusals, .int c_q0_knocks])), (a_q0_forms, .inl (cyJ, 6, .inr (.inl f_q0_forms))), (a_q4, .inr (7, [.long c_q4_n, c_q4_s]))] sz)) (va_Qi (fun (r : Int32) (_ : Unit) => r = r0) (fun _ t => wQA D [(a_q0, .inr (6, [.ref a_q0_forms, .ref a_q0_roll, .ref a_q0_row, .ref a_q0_rows, .ref a_q0_factors, .ref a_q0_found, .ref a_q0_foundOtherwise, .int o_c_q0_acts, .int o_c_q0_refusals, .int c_q0_knocks])), (a_q0_forms, .inl (cyJ, 6, .inr (.inl o_f_q0_forms))), (a_q4, .inr (7, [.long o_c_q4_n, c_q4_s]))] (va_A [(a_q0, .inr (6, [.ref a_q0_forms, .ref a_q0_roll, .ref a_q0_row, .ref a_q0_rows, .ref a_q0_factors, .ref a_q0_found, .ref a_q0_foundOtherwise, .int c_q0_acts, .int c_q0_refusals, .int c_q0_knocks])), (a_q0_forms, .inl (cyJ, 6, .inr (.inl f_q0_forms))), (a_q4, .inr (7, [.long c_q4_n, c_q4_s]))] sz) t) (va_A [(a_q0, .inr (6, [.ref a_q0_forms, .ref a_q0_roll, .ref a_q0_row, .ref a_q0_rows, .ref a_q0_factors, .ref a_q0_found, .ref a_q0_foundOtherwise, .int c_q0_acts, .int c_q0_refusals, .int c_q0_knocks])), (a_q0_forms, .inl (cyJ, 6, .inr (.inl f_q0_forms))), (a_q4, .inr (7, [.long c_q4_n, c_q4_s]))] sz)) (fun _ _ _ => False) 3 18 (va_A [(a_q0, .inr (6, [.ref a_q0_forms, .ref a_q0_roll, .ref a_q0_row, .ref a_q0_rows, .ref a_q0_factors, .ref a_q0_found, .ref a_q0_foundOtherwise, .int c_q0_acts, .int c_q0_refusals, .int c_q0_knocks])), (a_q0_forms, .inl (cyJ, 6, .inr (.inl f_q0_forms))), (a_q4, .inr (7, [.long c_q4_n, c_q4_s]))] sz) := by
  refine vx_ofWH (cc := cL_remain) (maxL := 6) (ret := (some .int)) (hh := [(0, 13, 16, 19)]) (by decide) rfl ?_
  intro p e s m args below meth c s₁ B hml hv
  obtain ⟨rfl, ⟨⟨hsz, hP, hK, hD0, hnw⟩, hE⟩, hNc⟩ := hv
  have hx := B.exec
  have hb := B.bytes
  have hr := B.returns
  have hts := atoms_spec (ws := wsL_remain) B.pre
  have hown : s.vm.findClass RL = some m.cls := findClass_of_methodNamed B.named
  have hlocks := B.notSynchronized
  have hcf : CallFix _ _ _ _ _ _ _ _ _ := ⟨hx, hb, hml, hown, hts⟩
  have hxt : c.exceptionTable.toList = tableOf [(0, 13, 16, 19)] := vx_table (x := yL_remain) B (hts _ List.mem_cons_self)
  have hinX8 : ∀ w ∈ u_ws RX8 TX8 2, w ∈ wsL_remain := by decide +kernel
  have hfl13 := hnw.use (A := ([.ref a_q0, .int p1, .int p2, .int p3, .ref a_q4] : List Value).toArray) (w := .fieldLinkNest RL 13 "FormwheelLaw$Out" "n" "J" "FormwheelLaw") (by decide +kernel)
  subst hsz
  have hD := hD0.self (sz := s.heap.size)
  generalize hAe : va_A [(a_q0, .inr (6, [.ref a_q0_forms, .ref a_q0_roll, .ref a_q0_row, .ref a_q0_rows, .ref a_q0_factors, .ref a_q0_found, .ref a_q0_foundOtherwise, .int c_q0_acts, .int c_q0_refusals, .int c_q0_knocks])), (a_q0_forms, .inl (cyJ, 6, .inr (.inl f_q0_forms))), (a_q4, .inr (7, [.long c_q4_n, c_q4_s]))] s.heap.size = A at hD hE ⊢
  have hA : ∀ q : Nat, s.heap.size ≤ q → A q := fun q h => by rw [← hAe]; exact Or.inr h
  have hS : va_S A s.heap s.heap [] := va_S.rf
  have hP : va_P D vwCl [(a_q0, .inr (6, [.ref a_q0_forms, .ref a_q0_roll, .ref a_q0_row, .ref a_q0_rows, .ref a_q0_factors, .ref a_q0_found, .ref a_q0_foundOtherwise, .int c_q0_acts, .int c_q0_refusals, .int c_q0_knocks])), (a_q0_forms, .inl (cyJ, 6, .inr (.inl f_q0_forms))), (a_q4, .inr (7, [.long c_q4_n, c_q4_s]))] s.heap := hP
  have hK0 := hK
  have hl := lv_entry ([.ref a_q0, .int p1, .int p2, .int p3, .ref a_q4]) (n := 6) (Nat.le_of_ble_eq_true rfl)
  rw [lg_entry_eq]
  generalize (lg_sl ([.ref a_q0, .int p1, .int p2, .int p3, .ref a_q4]) ++ List.replicate (6 - (lg_sl ([.ref a_q0, .int p1, .int p2, .int p3, .ref a_q4])).length) Slot.unset).toArray = ls at hl ⊢
  have hl : lv_has ls 6 [(0, .ref a_q0), (1, .int p1), (2, .int p2), (3, .int p3), (4, .ref a_q4)] := hl
  have h := hF
  clear hF
  unfold F_L_remain at h
  refine lv_aload hx hb dL_remain_0 (lv_at hl 4 rfl) ?_
  refine lv_aload_n hx hb dL_remain_2 rfl (lv_at hl 0 rfl) ?_
  refine lv_iload_n hx hb dL_remain_3 rfl (lv_at hl 1 rfl) ?_
  refine lv_iload_n hx hb dL_remain_4 rfl (lv_at hl 2 rfl) ?_
  refine lv_iload_n hx hb dL_remain_5 rfl (lv_at hl 3 rfl) ?_
  obtain ⟨xc6, r6, c_q0_acts_6, c_q0_refusals_6, f_q0_forms_6, hc6, h⟩ := obn5_h h
  have hPc := hP.sub (ws' := [(a_q0, .inr (6, [.ref a_q0_forms, .ref a_q0_roll, .ref a_q0_row, .ref a_q0_rows, .ref a_q0_factors, .ref a_q0_found, .ref a_q0_foundOtherwise, .int c_q0_acts, .int c_q0_refusals, .int c_q0_knocks])), (a_q0_forms, .inl (cyJ, 6, .inr (.inl f_q0_forms)))]) [0, 1] rfl
  have hDc := hD.sub (ws' := [(a_q0, .inr (6, [.ref a_q0_forms, .ref a_q0_roll, .ref a_q0_row, .ref a_q0_rows, .ref a_q0_factors, .ref a_q0_found, .ref a_q0_foundOtherwise, .int c_q0_acts, .int c_q0_refusals, .int c_q0_knocks])), (a_q0_forms, .inl (cyJ, 6, .inr (.inl f_q0_forms)))]) [0, 1] (by decide) rfl
  refine hx_i (w1 := [(a_q0, .inr (6, [.ref a_q0_forms, .ref a_q0_roll, .ref a_q0_row, .ref a_q0_rows, .ref a_q0_factors, .ref a_q0_found, .ref a_q0_foundOtherwise, .int c_q0_acts_6, .int c_q0_refusals_6, .int c_q0_knocks])), (a_q0_forms, .inl (cyJ, 6, .inr (.inl f_q0_forms_6)))]) (wr := [(a_q4, .inr (7, [.long c_q4_n, c_q4_s]))]) (vx_runV (As := [.int p1, .int p2, .int p3]) (rest := [.ref a_q4]) hcf (c_X7_remain l hfl D cyJ s.heap.size a_q0 a_q0_forms a_q0_roll a_q0_row a_q0_rows a_q0_factors a_q0_found a_q0_foundOtherwise c_q0_acts c_q0_refusals c_q0_knocks f_q0_forms p1 p2 p3 xc6 r6 c_q0_acts_6 c_q0_refusals_6 f_q0_forms_6 hc6) (cwV 3 hts gL_remain_X7_remain rfl rfl rfl ydX7_remain ⟨Nat.le_of_ble_eq_true rfl, Nat.le_of_ble_eq_true rfl⟩) ⟨bl_PX, va_recv hK hP (ci := 6) (q0 := 0) rfl rfl, pr_PX hPc hK0 hDc hnw hE hS (va_free hD hS hA [0, 1] rfl)⟩ rfl rfl hl.1 rfl (lv_room (Nat.le_of_ble_eq_true rfl)) dL_remain_6 ⟨Nat.le_of_ble_eq_true rfl, Nat.le_of_ble_eq_true rfl⟩) hP hD hS hA [0, 1] [2] rfl rfl (by decide) (by decide) (fun E9 ce9 q9 H locs hx9 hE9 hP hD hS hce9 hcv9 hcl9 => ?_) (fun hx9 H locs hP hD hS => ?_)
  · have h := if_ hx9 h
    have hP : va_P D vwCl [(a_q4, .inr (7, [.long c_q4_n, c_q4_s])), (a_q0, .inr (6, [.ref a_q0_forms, .ref a_q0_roll, .ref a_q0_row, .ref a_q0_rows, .ref a_q0_factors, .ref a_q0_found, .ref a_q0_foundOtherwise, .int c_q0_acts_6, .int c_q0_refusals_6, .int c_q0_knocks])), (a_q0_forms, .inl (cyJ, 6, .inr (.inl f_q0_forms_6)))] H := hP
    have hD : va_D A [(a_q4, .inr (7, [.long c_q4_n, c_q4_s])), (a_q0, .inr (6, [.ref a_q0_forms, .ref a_q0_roll, .ref a_q0_row, .ref a_q0_rows, .ref a_q0_factors, .ref a_q0_found, .ref a_q0_foundOtherwise, .int c_q0_acts_6, .int c_q0_refusals_6, .int c_q0_knocks])), (a_q0_forms, .inl (cyJ, 6, .inr (.inl f_q0_forms_6)))] := hD
    by_cases cx0 : xc6 = 1
    · have h := it_ cx0 h
      have hE1 : E9 = "java/lang/IndexOutOfBoundsException" := by rw [hE9, cx0]; rfl
      subst hE1
      refine vx_catch (name := "java/lang/IndexOutOfBoundsException") hown (tableOf []) ⟨0, 13, 16, 19⟩ (tableOf []) hxt (fun z hz => absurd hz List.not_mem_nil) (by decide) (by decide) (hts (.classLink RL 19 "java/lang/IndexOutOfBoundsException") (by decide +kernel)) (va_Nw.use rfl (hE.2.1 (.castable "java/lang/IndexOutOfBoundsException" "java/lang/IndexOutOfBoundsException") (by decide +kernel))) hce9 hcv9 hcl9 ?_
      refine lv_astore (lv' := [(5, .ref q9), (0, .ref a_q0), (1, .int p1), (2, .int p2), (3, .int p3), (4, .ref a_q4)]) hx hb dL_remain_16 hl (by decide) rfl (fun ls hl => ?_)
      refine lv_iconst (v := 1) hx hb dL_remain_18 (by decide) ?_
      obtain ⟨e0, e1, e2, e3, e4⟩ := tup5 h
      subst e0
      subst e1
      subst e2
      subst e3
      subst e4
      have hP9 : va_P D vwCl [(a_q0, .inr (6, [.ref a_q0_forms, .ref a_q0_roll, .ref a_q0_row, .ref a_q0_rows, .ref a_q0_factors, .ref a_q0_found, .ref a_q0_foundOtherwise, .int c_q0_acts_6, .int c_q0_refusals_6, .int c_q0_knocks])), (a_q0_forms, .inl (cyJ, 6, .inr (.inl f_q0_forms_6))), (a_q4, .inr (7, [.long c_q4_n, c_q4_s]))] H := hP.sub [1, 2, 0] rfl
      have hD9 : va_D A [(a_q0, .inr (6, [.ref a_q0_forms, .ref a_q0_roll, .ref a_q0_row, .ref a_q0_rows, .ref a_q0_factors, .ref a_q0_found, .ref a_q0_foundOtherwise, .int c_q0_acts_6, .int c_q0_refusals_6, .int c_q0_knocks])), (a_q0_forms, .inl (cyJ, 6, .inr (.inl f_q0_forms_6))), (a_q4, .inr (7, [.long c_q4_n, c_q4_s]))] := hD.sub [1, 2, 0] (by decide) rfl
      refine vx_ret ?_
      exact W.iret hx hb hr (fun t ht hW => ⟨⟨_, (), rfl, rfl, wQA_of ht hP9 hD9⟩, hS.F ht⟩) hS.2.2 dL_remain_19
    have h := if_ cx0 h
    cases h
  · have h := it_ hx9 h
    have hP : va_P D vwCl [(a_q4, .inr (7, [.long c_q4_n, c_q4_s])), (a_q0, .inr (6, [.ref a_q0_forms, .ref a_q0_roll, .ref a_q0_row, .ref a_q0_rows, .ref a_q0_factors, .ref a_q0_found, .ref a_q0_foundOtherwise, .int c_q0_acts_6, .int c_q0_refusals_6, .int c_q0_knocks])), (a_q0_forms, .inl (cyJ, 6, .inr (.inl f_q0_forms_6)))] H := hP
    have hD : va_D A [(a_q4, .inr (7, [.long c_q4_n, c_q4_s])), (a_q0, .inr (6, [.ref a_q0_forms, .ref a_q0_roll, .ref a_q0_row, .ref a_q0_rows, .ref a_q0_factors, .ref a_q0_found, .ref a_q0_foundOtherwise, .int c_q0_acts_6, .int c_q0_refusals_6, .int c_q0_knocks])), (a_q0_forms, .inl (cyJ, 6, .inr (.inl f_q0_forms_6)))] := hD
    refine lv_i2l (v := r6.toInt64) hx hb dL_remain_9 rfl ?_
    refine lv_topl (fun c_q4_n_10 e_c_q4_n_10 => ?_)
    have h := bnd_h e_c_q4_n_10 h
    refine va_putN (D := D) (ci := 7) (v := .long c_q4_n_10) (ty := .long) (C := RX8) (T := TX8) (N := 2) hx hb hts hinX8 tyX8 tyX8_ok nmX8 hown hK hP hD hS 0 rfl rfl 0 (by decide) hfl13 (fun _ h9 => h9) rfl (by decide +kernel) rfl rfl (Nat.le_of_ble_eq_true rfl) dL_remain_10 (fun H locs hP hD hS => ?_)
    have hP : va_P D vwCl [(a_q4, .inr (7, [.long c_q4_n_10, c_q4_s])), (a_q0, .inr (6, [.ref a_q0_forms, .ref a_q0_roll, .ref a_q0_row, .ref a_q0_rows, .ref a_q0_factors, .ref a_q0_found, .ref a_q0_foundOtherwise, .int c_q0_acts_6, .int c_q0_refusals_6, .int c_q0_knocks])), (a_q0_forms, .inl (cyJ, 6, .inr (.inl f_q0_forms_6)))] H := hP
    have hD : va_D A [(a_q4, .inr (7, [.long c_q4_n_10, c_q4_s])), (a_q0, .inr (6, [.ref a_q0_forms, .ref a_q0_roll, .ref a_q0_row, .ref a_q0_rows, .ref a_q0_factors, .ref a_q0_found, .ref a_q0_foundOtherwise, .int c_q0_acts_6, .int c_q0_refusals_6, .int c_q0_knocks])), (a_q0_forms, .inl (cyJ, 6, .inr (.inl f_q0_forms_6)))] := hD
    refine lv_goto (tgt := 20) hx hb dL_remain_13 (by decide) ?_
    refine lv_iconst (v := 0) hx hb dL_remain_20 (by decide) ?_
    obtain ⟨e0, e1, e2, e3, e4⟩ := tup5 h
    subst e0
    subst e1
    subst e2
    subst e3
    subst e4
    have hP9 : va_P D vwCl [(a_q0, .inr (6, [.ref a_q0_forms, .ref a_q0_roll, .ref a_q0_row, .ref a_q0_rows, .ref a_q0_factors, .ref a_q0_found, .ref a_q0_foundOtherwise, .int c_q0_acts_6, .int c_q0_refusals_6, .int c_q0_knocks])), (a_q0_forms, .inl (cyJ, 6, .inr (.inl f_q0_forms_6))), (a_q4, .inr (7, [.long c_q4_n_10, c_q4_s]))] H := hP.sub [1, 2, 0] rfl
    have hD9 : va_D A [(a_q0, .inr (6, [.ref a_q0_forms, .ref a_q0_roll, .ref a_q0_row, .ref a_q0_rows, .ref a_q0_factors, .ref a_q0_found, .ref a_q0_foundOtherwise, .int c_q0_acts_6, .int c_q0_refusals_6, .int c_q0_knocks])), (a_q0_forms, .inl (cyJ, 6, .inr (.inl f_q0_forms_6))), (a_q4, .inr (7, [.long c_q4_n_10, c_q4_s]))] := hD.sub [1, 2, 0] (by decide) rfl
    refine vx_ret ?_
    exact W.iret hx hb hr (fun t ht hW => ⟨⟨_, (), rfl, rfl, wQA_of ht hP9 hD9⟩, hS.F ht⟩) hS.2.2 dL_remain_21

noncomputable abbrev rmL_common : Room := { frames := 11, cells := 3, slots := 18, locals := 165 }
theorem ydL_common : yL_common.cls ≠ "java/lang/invoke/MethodHandle" ∧ yL_common.cls ≠ "java/lang/invoke/VarHandle" ∧ (parseMethodDescriptor yL_common.desc).map (fun d => d.parameters.length) = some 5 := by decide +kernel
noncomputable def F_L_common (c_q0_acts : Int32) (f_q0_forms : Nat → Int64) (c_q4_n : Int64) (p1 : Int32) (p2 : Int32) (p3 : Int32) : Option (Int32 × Int32 × (Nat → Int64) × Int64) :=
 obn4 (F_X7_common c_q0_acts f_q0_forms p1 p2 p3) (fun xc6 r6 c_q0_acts_6 f_q0_forms_6 =>
 if xc6 = 0 then
 bnd r6.toInt64 (fun c_q4_n_10 =>
 some ((0 : Int32), c_q0_acts_6, f_q0_forms_6, c_q4_n_10))
else
 (if xc6 = 1 then
 some ((1 : Int32), c_q0_acts_6, f_q0_forms_6, c_q4_n)
else
 none))
set_option maxHeartbeats 4000000 in
set_option maxRecDepth 100000 in
theorem c_L_common (l : Launch) (hfl : l.stackTraces = false) (D : va_G) (cyJ : ClassId) (sz : Nat) (a_q0 : Nat) (a_q4 : Nat) (a_q0_forms : Nat) (a_q0_roll : Nat) (a_q0_row : Nat) (a_q0_rows : Nat) (a_q0_factors : Nat) (a_q0_found : Nat) (a_q0_foundOtherwise : Nat) (c_q0_acts : Int32) (c_q0_refusals : Int32) (c_q0_knocks : Int32) (f_q0_forms : Nat → Int64) (c_q4_n : Int64) (c_q4_s : Value) (p1 : Int32) (p2 : Int32) (p3 : Int32) (r0 : Int32) (o_c_q0_acts : Int32) (o_f_q0_forms : Nat → Int64) (o_c_q4_n : Int64) (hF : F_L_common c_q0_acts f_q0_forms c_q4_n p1 p2 p3 = some (r0, o_c_q0_acts, o_f_q0_forms, o_c_q4_n)) : vx_Met l yL_common wsL_common rmL_common (va_Pc [.ref a_q0, .int p1, .int p2, .int p3, .ref a_q4] (wPL D [(cyJ, .long)] [(a_q0, .inr (6, [.ref a_q0_forms, .ref a_q0_roll, .ref a_q0_row, .ref a_q0_rows, .ref a_q0_factors, .ref a_q0_found, .ref a_q0_foundOtherwise, .int c_q0_acts, .int c_q0_refusals, .int c_q0_knocks])), (a_q0_forms, .inl (cyJ, 6, .inr (.inl f_q0_forms))), (a_q4, .inr (7, [.long c_q4_n, c_q4_s]))] sz)) (va_Qi (fun (r : Int32) (_ : Unit) => r = r0) (fun _ t => wQA D [(a_q0, .inr (6, [.ref a_q0_forms, .ref a_q0_roll, .ref a_q0_row, .ref a_q0_rows, .ref a_q0_factors, .ref a_q0_found, .ref a_q0_foundOtherwise, .int o_c_q0_acts, .int c_q0_refusals, .int c_q0_knocks])), (a_q0_forms, .inl (cyJ, 6, .inr (.inl o_f_q0_forms))), (a_q4, .inr (7, [.long o_c_q4_n, c_q4_s]))] (va_A [(a_q0, .inr (6, [.ref a_q0_forms, .ref a_q0_roll, .ref a_q0_row, .ref a_q0_rows, .ref a_q0_factors, .ref a_q0_found, .ref a_q0_foundOtherwise, .int c_q0_acts, .int c_q0_refusals, .int c_q0_knocks])), (a_q0_forms, .inl (cyJ, 6, .inr (.inl f_q0_forms))), (a_q4, .inr (7, [.long c_q4_n, c_q4_s]))] sz) t) (va_A [(a_q0, .inr (6, [.ref a_q0_forms, .ref a_q0_roll, .ref a_q0_row, .ref a_q0_rows, .ref a_q0_factors, .ref a_q0_found, .ref a_q0_foundOtherwise, .int c_q0_acts, .int c_q0_refusals, .int c_q0_knocks])), (a_q0_forms, .inl (cyJ, 6, .inr (.inl f_q0_forms))), (a_q4, .inr (7, [.long c_q4_n, c_q4_s]))] sz)) (fun _ _ _ => False) 3 18 (va_A [(a_q0, .inr (6, [.ref a_q0_forms, .ref a_q0_roll, .ref a_q0_row, .ref a_q0_rows, .ref a_q0_factors, .ref a_q0_found, .ref a_q0_foundOtherwise, .int c_q0_acts, .int c_q0_refusals, .int c_q0_knocks])), (a_q0_forms, .inl (cyJ, 6, .inr (.inl f_q0_forms))), (a_q4, .inr (7, [.long c_q4_n, c_q4_s]))] sz) := by
  refine vx_ofWH (cc := cL_common) (maxL := 6) (ret := (some .int)) (hh := [(0, 13, 16, 19)]) (by decide) rfl ?_
  intro p e s m args below meth c s₁ B hml hv
  obtain ⟨rfl, ⟨⟨hsz, hP, hK, hD0, hnw⟩, hE⟩, hNc⟩ := hv
  have hx := B.exec
  have hb := B.bytes
  have hr := B.returns
  have hts := atoms_spec (ws := wsL_common) B.pre
  have hown : s.vm.findClass RL = some m.cls := findClass_of_methodNamed B.named
  have hlocks := B.notSynchronized
  have hcf : CallFix _ _ _ _ _ _ _ _ _ := ⟨hx, hb, hml, hown, hts⟩
  have hxt : c.exceptionTable.toList = tableOf [(0, 13, 16, 19)] := vx_table (x := yL_common) B (hts _ List.mem_cons_self)
  have hinX8 : ∀ w ∈ u_ws RX8 TX8 2, w ∈ wsL_common := by decide +kernel
  have hfl13 := hnw.use (A := ([.ref a_q0, .int p1, .int p2, .int p3, .ref a_q4] : List Value).toArray) (w := .fieldLinkNest RL 13 "FormwheelLaw$Out" "n" "J" "FormwheelLaw") (by decide +kernel)
  subst hsz
  have hD := hD0.self (sz := s.heap.size)
  generalize hAe : va_A [(a_q0, .inr (6, [.ref a_q0_forms, .ref a_q0_roll, .ref a_q0_row, .ref a_q0_rows, .ref a_q0_factors, .ref a_q0_found, .ref a_q0_foundOtherwise, .int c_q0_acts, .int c_q0_refusals, .int c_q0_knocks])), (a_q0_forms, .inl (cyJ, 6, .inr (.inl f_q0_forms))), (a_q4, .inr (7, [.long c_q4_n, c_q4_s]))] s.heap.size = A at hD hE ⊢
  have hA : ∀ q : Nat, s.heap.size ≤ q → A q := fun q h => by rw [← hAe]; exact Or.inr h
  have hS : va_S A s.heap s.heap [] := va_S.rf
  have hP : va_P D vwCl [(a_q0, .inr (6, [.ref a_q0_forms, .ref a_q0_roll, .ref a_q0_row, .ref a_q0_rows, .ref a_q0_factors, .ref a_q0_found, .ref a_q0_foundOtherwise, .int c_q0_acts, .int c_q0_refusals, .int c_q0_knocks])), (a_q0_forms, .inl (cyJ, 6, .inr (.inl f_q0_forms))), (a_q4, .inr (7, [.long c_q4_n, c_q4_s]))] s.heap := hP
  have hK0 := hK
  have hl := lv_entry ([.ref a_q0, .int p1, .int p2, .int p3, .ref a_q4]) (n := 6) (Nat.le_of_ble_eq_true rfl)
  rw [lg_entry_eq]
  generalize (lg_sl ([.ref a_q0, .int p1, .int p2, .int p3, .ref a_q4]) ++ List.replicate (6 - (lg_sl ([.ref a_q0, .int p1, .int p2, .int p3, .ref a_q4])).length) Slot.unset).toArray = ls at hl ⊢
  have hl : lv_has ls 6 [(0, .ref a_q0), (1, .int p1), (2, .int p2), (3, .int p3), (4, .ref a_q4)] := hl
  have h := hF
  clear hF
  unfold F_L_common at h
  refine lv_aload hx hb dL_common_0 (lv_at hl 4 rfl) ?_
  refine lv_aload_n hx hb dL_common_2 rfl (lv_at hl 0 rfl) ?_
  refine lv_iload_n hx hb dL_common_3 rfl (lv_at hl 1 rfl) ?_
  refine lv_iload_n hx hb dL_common_4 rfl (lv_at hl 2 rfl) ?_
  refine lv_iload_n hx hb dL_common_5 rfl (lv_at hl 3 rfl) ?_
  obtain ⟨xc6, r6, c_q0_acts_6, f_q0_forms_6, hc6, h⟩ := obn4_h h
  have hPc := hP.sub (ws' := [(a_q0, .inr (6, [.ref a_q0_forms, .ref a_q0_roll, .ref a_q0_row, .ref a_q0_rows, .ref a_q0_factors, .ref a_q0_found, .ref a_q0_foundOtherwise, .int c_q0_acts, .int c_q0_refusals, .int c_q0_knocks])), (a_q0_forms, .inl (cyJ, 6, .inr (.inl f_q0_forms)))]) [0, 1] rfl
  have hDc := hD.sub (ws' := [(a_q0, .inr (6, [.ref a_q0_forms, .ref a_q0_roll, .ref a_q0_row, .ref a_q0_rows, .ref a_q0_factors, .ref a_q0_found, .ref a_q0_foundOtherwise, .int c_q0_acts, .int c_q0_refusals, .int c_q0_knocks])), (a_q0_forms, .inl (cyJ, 6, .inr (.inl f_q0_forms)))]) [0, 1] (by decide) rfl
  refine hx_i (w1 := [(a_q0, .inr (6, [.ref a_q0_forms, .ref a_q0_roll, .ref a_q0_row, .ref a_q0_rows, .ref a_q0_factors, .ref a_q0_found, .ref a_q0_foundOtherwise, .int c_q0_acts_6, .int c_q0_refusals, .int c_q0_knocks])), (a_q0_forms, .inl (cyJ, 6, .inr (.inl f_q0_forms_6)))]) (wr := [(a_q4, .inr (7, [.long c_q4_n, c_q4_s]))]) (vx_runV (As := [.int p1, .int p2, .int p3]) (rest := [.ref a_q4]) hcf (c_X7_common l hfl D cyJ s.heap.size a_q0 a_q0_forms a_q0_roll a_q0_row a_q0_rows a_q0_factors a_q0_found a_q0_foundOtherwise c_q0_acts c_q0_refusals c_q0_knocks f_q0_forms p1 p2 p3 xc6 r6 c_q0_acts_6 f_q0_forms_6 hc6) (cwV 3 hts gL_common_X7_common rfl rfl rfl ydX7_common ⟨Nat.le_of_ble_eq_true rfl, Nat.le_of_ble_eq_true rfl⟩) ⟨bl_PX, va_recv hK hP (ci := 6) (q0 := 0) rfl rfl, pr_PX hPc hK0 hDc hnw hE hS (va_free hD hS hA [0, 1] rfl)⟩ rfl rfl hl.1 rfl (lv_room (Nat.le_of_ble_eq_true rfl)) dL_common_6 ⟨Nat.le_of_ble_eq_true rfl, Nat.le_of_ble_eq_true rfl⟩) hP hD hS hA [0, 1] [2] rfl rfl (by decide) (by decide) (fun E9 ce9 q9 H locs hx9 hE9 hP hD hS hce9 hcv9 hcl9 => ?_) (fun hx9 H locs hP hD hS => ?_)
  · have h := if_ hx9 h
    have hP : va_P D vwCl [(a_q4, .inr (7, [.long c_q4_n, c_q4_s])), (a_q0, .inr (6, [.ref a_q0_forms, .ref a_q0_roll, .ref a_q0_row, .ref a_q0_rows, .ref a_q0_factors, .ref a_q0_found, .ref a_q0_foundOtherwise, .int c_q0_acts_6, .int c_q0_refusals, .int c_q0_knocks])), (a_q0_forms, .inl (cyJ, 6, .inr (.inl f_q0_forms_6)))] H := hP
    have hD : va_D A [(a_q4, .inr (7, [.long c_q4_n, c_q4_s])), (a_q0, .inr (6, [.ref a_q0_forms, .ref a_q0_roll, .ref a_q0_row, .ref a_q0_rows, .ref a_q0_factors, .ref a_q0_found, .ref a_q0_foundOtherwise, .int c_q0_acts_6, .int c_q0_refusals, .int c_q0_knocks])), (a_q0_forms, .inl (cyJ, 6, .inr (.inl f_q0_forms_6)))] := hD
    by_cases cx0 : xc6 = 1
    · have h := it_ cx0 h
      have hE1 : E9 = "java/lang/IndexOutOfBoundsException" := by rw [hE9, cx0]; rfl
      subst hE1
      refine vx_catch (name := "java/lang/IndexOutOfBoundsException") hown (tableOf []) ⟨0, 13, 16, 19⟩ (tableOf []) hxt (fun z hz => absurd hz List.not_mem_nil) (by decide) (by decide) (hts (.classLink RL 19 "java/lang/IndexOutOfBoundsException") (by decide +kernel)) (va_Nw.use rfl (hE.2.1 (.castable "java/lang/IndexOutOfBoundsException" "java/lang/IndexOutOfBoundsException") (by decide +kernel))) hce9 hcv9 hcl9 ?_
      refine lv_astore (lv' := [(5, .ref q9), (0, .ref a_q0), (1, .int p1), (2, .int p2), (3, .int p3), (4, .ref a_q4)]) hx hb dL_common_16 hl (by decide) rfl (fun ls hl => ?_)
      refine lv_iconst (v := 1) hx hb dL_common_18 (by decide) ?_
      obtain ⟨e0, e1, e2, e3⟩ := tup4 h
      subst e0
      subst e1
      subst e2
      subst e3
      have hP9 : va_P D vwCl [(a_q0, .inr (6, [.ref a_q0_forms, .ref a_q0_roll, .ref a_q0_row, .ref a_q0_rows, .ref a_q0_factors, .ref a_q0_found, .ref a_q0_foundOtherwise, .int c_q0_acts_6, .int c_q0_refusals, .int c_q0_knocks])), (a_q0_forms, .inl (cyJ, 6, .inr (.inl f_q0_forms_6))), (a_q4, .inr (7, [.long c_q4_n, c_q4_s]))] H := hP.sub [1, 2, 0] rfl
      have hD9 : va_D A [(a_q0, .inr (6, [.ref a_q0_forms, .ref a_q0_roll, .ref a_q0_row, .ref a_q0_rows, .ref a_q0_factors, .ref a_q0_found, .ref a_q0_foundOtherwise, .int c_q0_acts_6, .int c_q0_refusals, .int c_q0_knocks])), (a_q0_forms, .inl (cyJ, 6, .inr (.inl f_q0_forms_6))), (a_q4, .inr (7, [.long c_q4_n, c_q4_s]))] := hD.sub [1, 2, 0] (by decide) rfl
      refine vx_ret ?_
      exact W.iret hx hb hr (fun t ht hW => ⟨⟨_, (), rfl, rfl, wQA_of ht hP9 hD9⟩, hS.F ht⟩) hS.2.2 dL_common_19
    have h := if_ cx0 h
    cases h
  · have h := it_ hx9 h
    have hP : va_P D vwCl [(a_q4, .inr (7, [.long c_q4_n, c_q4_s])), (a_q0, .inr (6, [.ref a_q0_forms, .ref a_q0_roll, .ref a_q0_row, .ref a_q0_rows, .ref a_q0_factors, .ref a_q0_found, .ref a_q0_foundOtherwise, .int c_q0_acts_6, .int c_q0_refusals, .int c_q0_knocks])), (a_q0_forms, .inl (cyJ, 6, .inr (.inl f_q0_forms_6)))] H := hP
    have hD : va_D A [(a_q4, .inr (7, [.long c_q4_n, c_q4_s])), (a_q0, .inr (6, [.ref a_q0_forms, .ref a_q0_roll, .ref a_q0_row, .ref a_q0_rows, .ref a_q0_factors, .ref a_q0_found, .ref a_q0_foundOtherwise, .int c_q0_acts_6, .int c_q0_refusals, .int c_q0_knocks])), (a_q0_forms, .inl (cyJ, 6, .inr (.inl f_q0_forms_6)))] := hD
    refine lv_i2l (v := r6.toInt64) hx hb dL_common_9 rfl ?_
    refine lv_topl (fun c_q4_n_10 e_c_q4_n_10 => ?_)
    have h := bnd_h e_c_q4_n_10 h
    refine va_putN (D := D) (ci := 7) (v := .long c_q4_n_10) (ty := .long) (C := RX8) (T := TX8) (N := 2) hx hb hts hinX8 tyX8 tyX8_ok nmX8 hown hK hP hD hS 0 rfl rfl 0 (by decide) hfl13 (fun _ h9 => h9) rfl (by decide +kernel) rfl rfl (Nat.le_of_ble_eq_true rfl) dL_common_10 (fun H locs hP hD hS => ?_)
    have hP : va_P D vwCl [(a_q4, .inr (7, [.long c_q4_n_10, c_q4_s])), (a_q0, .inr (6, [.ref a_q0_forms, .ref a_q0_roll, .ref a_q0_row, .ref a_q0_rows, .ref a_q0_factors, .ref a_q0_found, .ref a_q0_foundOtherwise, .int c_q0_acts_6, .int c_q0_refusals, .int c_q0_knocks])), (a_q0_forms, .inl (cyJ, 6, .inr (.inl f_q0_forms_6)))] H := hP
    have hD : va_D A [(a_q4, .inr (7, [.long c_q4_n_10, c_q4_s])), (a_q0, .inr (6, [.ref a_q0_forms, .ref a_q0_roll, .ref a_q0_row, .ref a_q0_rows, .ref a_q0_factors, .ref a_q0_found, .ref a_q0_foundOtherwise, .int c_q0_acts_6, .int c_q0_refusals, .int c_q0_knocks])), (a_q0_forms, .inl (cyJ, 6, .inr (.inl f_q0_forms_6)))] := hD
    refine lv_goto (tgt := 20) hx hb dL_common_13 (by decide) ?_
    refine lv_iconst (v := 0) hx hb dL_common_20 (by decide) ?_
    obtain ⟨e0, e1, e2, e3⟩ := tup4 h
    subst e0
    subst e1
    subst e2
    subst e3
    have hP9 : va_P D vwCl [(a_q0, .inr (6, [.ref a_q0_forms, .ref a_q0_roll, .ref a_q0_row, .ref a_q0_rows, .ref a_q0_factors, .ref a_q0_found, .ref a_q0_foundOtherwise, .int c_q0_acts_6, .int c_q0_refusals, .int c_q0_knocks])), (a_q0_forms, .inl (cyJ, 6, .inr (.inl f_q0_forms_6))), (a_q4, .inr (7, [.long c_q4_n_10, c_q4_s]))] H := hP.sub [1, 2, 0] rfl
    have hD9 : va_D A [(a_q0, .inr (6, [.ref a_q0_forms, .ref a_q0_roll, .ref a_q0_row, .ref a_q0_rows, .ref a_q0_factors, .ref a_q0_found, .ref a_q0_foundOtherwise, .int c_q0_acts_6, .int c_q0_refusals, .int c_q0_knocks])), (a_q0_forms, .inl (cyJ, 6, .inr (.inl f_q0_forms_6))), (a_q4, .inr (7, [.long c_q4_n_10, c_q4_s]))] := hD.sub [1, 2, 0] (by decide) rfl
    refine vx_ret ?_
    exact W.iret hx hb hr (fun t ht hW => ⟨⟨_, (), rfl, rfl, wQA_of ht hP9 hD9⟩, hS.F ht⟩) hS.2.2 dL_common_21

noncomputable abbrev rmL_multipliers : Room := { frames := 11, cells := 5, slots := 30, locals := 166 }
theorem ydL_multipliers : yL_multipliers.cls ≠ "java/lang/invoke/MethodHandle" ∧ yL_multipliers.cls ≠ "java/lang/invoke/VarHandle" ∧ (parseMethodDescriptor yL_multipliers.desc).map (fun d => d.parameters.length) = some 6 := by decide +kernel
noncomputable def F_L_multipliers (c_q0_acts : Int32) (f_q0_forms : Nat → Int64) (c_q0_rows_first : Int64) (c_q0_rows_ofOne : Int64) (c_q0_rows_ofOther : Int64) (c_q0_rows_second : Int64) (c_q0_rows_secondOfOne : Int64) (c_q0_rows_secondOfOther : Int64) (c_q5_n : Int64) (p1 : Int32) (p2 : Int32) (p3 : Int32) (p4 : Int32) : Option (Int32 × Int32 × (Nat → Int64) × Int64 × Int64 × Int64 × Int64 × Int64 × Int64 × Int64) :=
 obn10 (F_X7_multipliers c_q0_acts f_q0_forms c_q0_rows_first c_q0_rows_ofOne c_q0_rows_ofOther c_q0_rows_second c_q0_rows_secondOfOne c_q0_rows_secondOfOther p1 p2 p3 p4) (fun xc8 r8 c_q0_acts_8 f_q0_forms_8 c_q0_rows_first_8 c_q0_rows_ofOne_8 c_q0_rows_ofOther_8 c_q0_rows_second_8 c_q0_rows_secondOfOne_8 c_q0_rows_secondOfOther_8 =>
 if xc8 = 0 then
 bnd r8.toInt64 (fun c_q5_n_12 =>
 some ((0 : Int32), c_q0_acts_8, f_q0_forms_8, c_q0_rows_first_8, c_q0_rows_ofOne_8, c_q0_rows_ofOther_8, c_q0_rows_second_8, c_q0_rows_secondOfOne_8, c_q0_rows_secondOfOther_8, c_q5_n_12))
else
 (if xc8 = 1 then
 some ((1 : Int32), c_q0_acts_8, f_q0_forms_8, c_q0_rows_first_8, c_q0_rows_ofOne_8, c_q0_rows_ofOther_8, c_q0_rows_second_8, c_q0_rows_secondOfOne_8, c_q0_rows_secondOfOther_8, c_q5_n)
else
 (if xc8 = 2 then
 some ((2 : Int32), c_q0_acts_8, f_q0_forms_8, c_q0_rows_first_8, c_q0_rows_ofOne_8, c_q0_rows_ofOther_8, c_q0_rows_second_8, c_q0_rows_secondOfOne_8, c_q0_rows_secondOfOther_8, c_q5_n)
else
 none)))
set_option maxHeartbeats 4000000 in
set_option maxRecDepth 100000 in
theorem c_L_multipliers (l : Launch) (hfl : l.stackTraces = false) (D : va_G) (cyJ : ClassId) (sz : Nat) (a_q0 : Nat) (a_q5 : Nat) (a_q0_forms : Nat) (a_q0_roll : Nat) (a_q0_row : Nat) (a_q0_rows : Nat) (a_q0_factors : Nat) (a_q0_found : Nat) (a_q0_foundOtherwise : Nat) (c_q0_acts : Int32) (c_q0_refusals : Int32) (c_q0_knocks : Int32) (f_q0_forms : Nat → Int64) (c_q0_rows_first : Int64) (c_q0_rows_ofOne : Int64) (c_q0_rows_ofOther : Int64) (c_q0_rows_second : Int64) (c_q0_rows_secondOfOne : Int64) (c_q0_rows_secondOfOther : Int64) (c_q5_n : Int64) (c_q5_s : Value) (p1 : Int32) (p2 : Int32) (p3 : Int32) (p4 : Int32) (r0 : Int32) (o_c_q0_acts : Int32) (o_f_q0_forms : Nat → Int64) (o_c_q0_rows_first : Int64) (o_c_q0_rows_ofOne : Int64) (o_c_q0_rows_ofOther : Int64) (o_c_q0_rows_second : Int64) (o_c_q0_rows_secondOfOne : Int64) (o_c_q0_rows_secondOfOther : Int64) (o_c_q5_n : Int64) (hF : F_L_multipliers c_q0_acts f_q0_forms c_q0_rows_first c_q0_rows_ofOne c_q0_rows_ofOther c_q0_rows_second c_q0_rows_secondOfOne c_q0_rows_secondOfOther c_q5_n p1 p2 p3 p4 = some (r0, o_c_q0_acts, o_f_q0_forms, o_c_q0_rows_first, o_c_q0_rows_ofOne, o_c_q0_rows_ofOther, o_c_q0_rows_second, o_c_q0_rows_secondOfOne, o_c_q0_rows_secondOfOther, o_c_q5_n)) : vx_Met l yL_multipliers wsL_multipliers rmL_multipliers (va_Pc [.ref a_q0, .int p1, .int p2, .int p3, .int p4, .ref a_q5] (wPL D [(cyJ, .long)] [(a_q0, .inr (6, [.ref a_q0_forms, .ref a_q0_roll, .ref a_q0_row, .ref a_q0_rows, .ref a_q0_factors, .ref a_q0_found, .ref a_q0_foundOtherwise, .int c_q0_acts, .int c_q0_refusals, .int c_q0_knocks])), (a_q0_forms, .inl (cyJ, 6, .inr (.inl f_q0_forms))), (a_q0_rows, .inr (4, [.long c_q0_rows_first, .long c_q0_rows_ofOne, .long c_q0_rows_ofOther, .long c_q0_rows_second, .long c_q0_rows_secondOfOne, .long c_q0_rows_secondOfOther])), (a_q5, .inr (7, [.long c_q5_n, c_q5_s]))] sz)) (va_Qi (fun (r : Int32) (_ : Unit) => r = r0) (fun _ t => wQA D [(a_q0, .inr (6, [.ref a_q0_forms, .ref a_q0_roll, .ref a_q0_row, .ref a_q0_rows, .ref a_q0_factors, .ref a_q0_found, .ref a_q0_foundOtherwise, .int o_c_q0_acts, .int c_q0_refusals, .int c_q0_knocks])), (a_q0_forms, .inl (cyJ, 6, .inr (.inl o_f_q0_forms))), (a_q0_rows, .inr (4, [.long o_c_q0_rows_first, .long o_c_q0_rows_ofOne, .long o_c_q0_rows_ofOther, .long o_c_q0_rows_second, .long o_c_q0_rows_secondOfOne, .long o_c_q0_rows_secondOfOther])), (a_q5, .inr (7, [.long o_c_q5_n, c_q5_s]))] (va_A [(a_q0, .inr (6, [.ref a_q0_forms, .ref a_q0_roll, .ref a_q0_row, .ref a_q0_rows, .ref a_q0_factors, .ref a_q0_found, .ref a_q0_foundOtherwise, .int c_q0_acts, .int c_q0_refusals, .int c_q0_knocks])), (a_q0_forms, .inl (cyJ, 6, .inr (.inl f_q0_forms))), (a_q0_rows, .inr (4, [.long c_q0_rows_first, .long c_q0_rows_ofOne, .long c_q0_rows_ofOther, .long c_q0_rows_second, .long c_q0_rows_secondOfOne, .long c_q0_rows_secondOfOther])), (a_q5, .inr (7, [.long c_q5_n, c_q5_s]))] sz) t) (va_A [(a_q0, .inr (6, [.ref a_q0_forms, .ref a_q0_roll, .ref a_q0_row, .ref a_q0_rows, .ref a_q0_factors, .ref a_q0_found, .ref a_q0_foundOtherwise, .int c_q0_acts, .int c_q0_refusals, .int c_q0_knocks])), (a_q0_forms, .inl (cyJ, 6, .inr (.inl f_q0_forms))), (a_q0_rows, .inr (4, [.long c_q0_rows_first, .long c_q0_rows_ofOne, .long c_q0_rows_ofOther, .long c_q0_rows_second, .long c_q0_rows_secondOfOne, .long c_q0_rows_secondOfOther])), (a_q5, .inr (7, [.long c_q5_n, c_q5_s]))] sz)) (fun _ _ _ => False) 5 30 (va_A [(a_q0, .inr (6, [.ref a_q0_forms, .ref a_q0_roll, .ref a_q0_row, .ref a_q0_rows, .ref a_q0_factors, .ref a_q0_found, .ref a_q0_foundOtherwise, .int c_q0_acts, .int c_q0_refusals, .int c_q0_knocks])), (a_q0_forms, .inl (cyJ, 6, .inr (.inl f_q0_forms))), (a_q0_rows, .inr (4, [.long c_q0_rows_first, .long c_q0_rows_ofOne, .long c_q0_rows_ofOther, .long c_q0_rows_second, .long c_q0_rows_secondOfOne, .long c_q0_rows_secondOfOther])), (a_q5, .inr (7, [.long c_q5_n, c_q5_s]))] sz) := by
  refine vx_ofWH (cc := cL_multipliers) (maxL := 7) (ret := (some .int)) (hh := [(0, 15, 18, 19), (0, 15, 22, 21)]) (by decide) rfl ?_
  intro p e s m args below meth c s₁ B hml hv
  obtain ⟨rfl, ⟨⟨hsz, hP, hK, hD0, hnw⟩, hE⟩, hNc⟩ := hv
  have hx := B.exec
  have hb := B.bytes
  have hr := B.returns
  have hts := atoms_spec (ws := wsL_multipliers) B.pre
  have hown : s.vm.findClass RL = some m.cls := findClass_of_methodNamed B.named
  have hlocks := B.notSynchronized
  have hcf : CallFix _ _ _ _ _ _ _ _ _ := ⟨hx, hb, hml, hown, hts⟩
  have hxt : c.exceptionTable.toList = tableOf [(0, 15, 18, 19), (0, 15, 22, 21)] := vx_table (x := yL_multipliers) B (hts _ List.mem_cons_self)
  have hinX8 : ∀ w ∈ u_ws RX8 TX8 2, w ∈ wsL_multipliers := by decide +kernel
  have hfl13 := hnw.use (A := ([.ref a_q0, .int p1, .int p2, .int p3, .int p4, .ref a_q5] : List Value).toArray) (w := .fieldLinkNest RL 13 "FormwheelLaw$Out" "n" "J" "FormwheelLaw") (by decide +kernel)
  subst hsz
  have hD := hD0.self (sz := s.heap.size)
  generalize hAe : va_A [(a_q0, .inr (6, [.ref a_q0_forms, .ref a_q0_roll, .ref a_q0_row, .ref a_q0_rows, .ref a_q0_factors, .ref a_q0_found, .ref a_q0_foundOtherwise, .int c_q0_acts, .int c_q0_refusals, .int c_q0_knocks])), (a_q0_forms, .inl (cyJ, 6, .inr (.inl f_q0_forms))), (a_q0_rows, .inr (4, [.long c_q0_rows_first, .long c_q0_rows_ofOne, .long c_q0_rows_ofOther, .long c_q0_rows_second, .long c_q0_rows_secondOfOne, .long c_q0_rows_secondOfOther])), (a_q5, .inr (7, [.long c_q5_n, c_q5_s]))] s.heap.size = A at hD hE ⊢
  have hA : ∀ q : Nat, s.heap.size ≤ q → A q := fun q h => by rw [← hAe]; exact Or.inr h
  have hS : va_S A s.heap s.heap [] := va_S.rf
  have hP : va_P D vwCl [(a_q0, .inr (6, [.ref a_q0_forms, .ref a_q0_roll, .ref a_q0_row, .ref a_q0_rows, .ref a_q0_factors, .ref a_q0_found, .ref a_q0_foundOtherwise, .int c_q0_acts, .int c_q0_refusals, .int c_q0_knocks])), (a_q0_forms, .inl (cyJ, 6, .inr (.inl f_q0_forms))), (a_q0_rows, .inr (4, [.long c_q0_rows_first, .long c_q0_rows_ofOne, .long c_q0_rows_ofOther, .long c_q0_rows_second, .long c_q0_rows_secondOfOne, .long c_q0_rows_secondOfOther])), (a_q5, .inr (7, [.long c_q5_n, c_q5_s]))] s.heap := hP
  have hK0 := hK
  have hl := lv_entry ([.ref a_q0, .int p1, .int p2, .int p3, .int p4, .ref a_q5]) (n := 7) (Nat.le_of_ble_eq_true rfl)
  rw [lg_entry_eq]
  generalize (lg_sl ([.ref a_q0, .int p1, .int p2, .int p3, .int p4, .ref a_q5]) ++ List.replicate (7 - (lg_sl ([.ref a_q0, .int p1, .int p2, .int p3, .int p4, .ref a_q5])).length) Slot.unset).toArray = ls at hl ⊢
  have hl : lv_has ls 7 [(0, .ref a_q0), (1, .int p1), (2, .int p2), (3, .int p3), (4, .int p4), (5, .ref a_q5)] := hl
  have h := hF
  clear hF
  unfold F_L_multipliers at h
  refine lv_aload hx hb dL_multipliers_0 (lv_at hl 5 rfl) ?_
  refine lv_aload_n hx hb dL_multipliers_2 rfl (lv_at hl 0 rfl) ?_
  refine lv_iload_n hx hb dL_multipliers_3 rfl (lv_at hl 1 rfl) ?_
  refine lv_iload_n hx hb dL_multipliers_4 rfl (lv_at hl 2 rfl) ?_
  refine lv_iload_n hx hb dL_multipliers_5 rfl (lv_at hl 3 rfl) ?_
  refine lv_iload hx hb dL_multipliers_6 (lv_at hl 4 rfl) ?_
  obtain ⟨xc8, r8, c_q0_acts_8, f_q0_forms_8, c_q0_rows_first_8, c_q0_rows_ofOne_8, c_q0_rows_ofOther_8, c_q0_rows_second_8, c_q0_rows_secondOfOne_8, c_q0_rows_secondOfOther_8, hc8, h⟩ := obn10_h h
  have hPc := hP.sub (ws' := [(a_q0, .inr (6, [.ref a_q0_forms, .ref a_q0_roll, .ref a_q0_row, .ref a_q0_rows, .ref a_q0_factors, .ref a_q0_found, .ref a_q0_foundOtherwise, .int c_q0_acts, .int c_q0_refusals, .int c_q0_knocks])), (a_q0_forms, .inl (cyJ, 6, .inr (.inl f_q0_forms))), (a_q0_rows, .inr (4, [.long c_q0_rows_first, .long c_q0_rows_ofOne, .long c_q0_rows_ofOther, .long c_q0_rows_second, .long c_q0_rows_secondOfOne, .long c_q0_rows_secondOfOther]))]) [0, 1, 2] rfl
  have hDc := hD.sub (ws' := [(a_q0, .inr (6, [.ref a_q0_forms, .ref a_q0_roll, .ref a_q0_row, .ref a_q0_rows, .ref a_q0_factors, .ref a_q0_found, .ref a_q0_foundOtherwise, .int c_q0_acts, .int c_q0_refusals, .int c_q0_knocks])), (a_q0_forms, .inl (cyJ, 6, .inr (.inl f_q0_forms))), (a_q0_rows, .inr (4, [.long c_q0_rows_first, .long c_q0_rows_ofOne, .long c_q0_rows_ofOther, .long c_q0_rows_second, .long c_q0_rows_secondOfOne, .long c_q0_rows_secondOfOther]))]) [0, 1, 2] (by decide) rfl
  refine hx_i (w1 := [(a_q0, .inr (6, [.ref a_q0_forms, .ref a_q0_roll, .ref a_q0_row, .ref a_q0_rows, .ref a_q0_factors, .ref a_q0_found, .ref a_q0_foundOtherwise, .int c_q0_acts_8, .int c_q0_refusals, .int c_q0_knocks])), (a_q0_forms, .inl (cyJ, 6, .inr (.inl f_q0_forms_8))), (a_q0_rows, .inr (4, [.long c_q0_rows_first_8, .long c_q0_rows_ofOne_8, .long c_q0_rows_ofOther_8, .long c_q0_rows_second_8, .long c_q0_rows_secondOfOne_8, .long c_q0_rows_secondOfOther_8]))]) (wr := [(a_q5, .inr (7, [.long c_q5_n, c_q5_s]))]) (vx_runV (As := [.int p1, .int p2, .int p3, .int p4]) (rest := [.ref a_q5]) hcf (c_X7_multipliers l hfl D cyJ s.heap.size a_q0 a_q0_forms a_q0_roll a_q0_row a_q0_rows a_q0_factors a_q0_found a_q0_foundOtherwise c_q0_acts c_q0_refusals c_q0_knocks f_q0_forms c_q0_rows_first c_q0_rows_ofOne c_q0_rows_ofOther c_q0_rows_second c_q0_rows_secondOfOne c_q0_rows_secondOfOther p1 p2 p3 p4 xc8 r8 c_q0_acts_8 f_q0_forms_8 c_q0_rows_first_8 c_q0_rows_ofOne_8 c_q0_rows_ofOther_8 c_q0_rows_second_8 c_q0_rows_secondOfOne_8 c_q0_rows_secondOfOther_8 hc8) (cwV 4 hts gL_multipliers_X7_multipliers rfl rfl rfl ydX7_multipliers ⟨Nat.le_of_ble_eq_true rfl, Nat.le_of_ble_eq_true rfl⟩) ⟨bl_PX, va_recv hK hP (ci := 6) (q0 := 0) rfl rfl, pr_PX hPc hK0 hDc hnw hE hS (va_free hD hS hA [0, 1, 2] rfl)⟩ rfl rfl hl.1 rfl (lv_room (Nat.le_of_ble_eq_true rfl)) dL_multipliers_8 ⟨Nat.le_of_ble_eq_true rfl, Nat.le_of_ble_eq_true rfl⟩) hP hD hS hA [0, 1, 2] [3] rfl rfl (by decide) (by decide) (fun E9 ce9 q9 H locs hx9 hE9 hP hD hS hce9 hcv9 hcl9 => ?_) (fun hx9 H locs hP hD hS => ?_)
  · have h := if_ hx9 h
    have hP : va_P D vwCl [(a_q5, .inr (7, [.long c_q5_n, c_q5_s])), (a_q0, .inr (6, [.ref a_q0_forms, .ref a_q0_roll, .ref a_q0_row, .ref a_q0_rows, .ref a_q0_factors, .ref a_q0_found, .ref a_q0_foundOtherwise, .int c_q0_acts_8, .int c_q0_refusals, .int c_q0_knocks])), (a_q0_forms, .inl (cyJ, 6, .inr (.inl f_q0_forms_8))), (a_q0_rows, .inr (4, [.long c_q0_rows_first_8, .long c_q0_rows_ofOne_8, .long c_q0_rows_ofOther_8, .long c_q0_rows_second_8, .long c_q0_rows_secondOfOne_8, .long c_q0_rows_secondOfOther_8]))] H := hP
    have hD : va_D A [(a_q5, .inr (7, [.long c_q5_n, c_q5_s])), (a_q0, .inr (6, [.ref a_q0_forms, .ref a_q0_roll, .ref a_q0_row, .ref a_q0_rows, .ref a_q0_factors, .ref a_q0_found, .ref a_q0_foundOtherwise, .int c_q0_acts_8, .int c_q0_refusals, .int c_q0_knocks])), (a_q0_forms, .inl (cyJ, 6, .inr (.inl f_q0_forms_8))), (a_q0_rows, .inr (4, [.long c_q0_rows_first_8, .long c_q0_rows_ofOne_8, .long c_q0_rows_ofOther_8, .long c_q0_rows_second_8, .long c_q0_rows_secondOfOne_8, .long c_q0_rows_secondOfOther_8]))] := hD
    by_cases cx0 : xc8 = 1
    · have h := it_ cx0 h
      have hE1 : E9 = "java/lang/IndexOutOfBoundsException" := by rw [hE9, cx0]; rfl
      subst hE1
      refine vx_catch (name := "java/lang/IndexOutOfBoundsException") hown (tableOf []) ⟨0, 15, 18, 19⟩ (tableOf [(0, 15, 22, 21)]) hxt (fun z hz => absurd hz List.not_mem_nil) (by decide) (by decide) (hts (.classLink RL 19 "java/lang/IndexOutOfBoundsException") (by decide +kernel)) (va_Nw.use rfl (hE.2.1 (.castable "java/lang/IndexOutOfBoundsException" "java/lang/IndexOutOfBoundsException") (by decide +kernel))) hce9 hcv9 hcl9 ?_
      refine lv_astore (lv' := [(6, .ref q9), (0, .ref a_q0), (1, .int p1), (2, .int p2), (3, .int p3), (4, .int p4), (5, .ref a_q5)]) hx hb dL_multipliers_18 hl (by decide) rfl (fun ls hl => ?_)
      refine lv_iconst (v := 1) hx hb dL_multipliers_20 (by decide) ?_
      obtain ⟨e0, e1, e2, e3, e4, e5, e6, e7, e8, e9⟩ := tup10 h
      subst e0
      subst e1
      subst e2
      subst e3
      subst e4
      subst e5
      subst e6
      subst e7
      subst e8
      subst e9
      have hP9 : va_P D vwCl [(a_q0, .inr (6, [.ref a_q0_forms, .ref a_q0_roll, .ref a_q0_row, .ref a_q0_rows, .ref a_q0_factors, .ref a_q0_found, .ref a_q0_foundOtherwise, .int c_q0_acts_8, .int c_q0_refusals, .int c_q0_knocks])), (a_q0_forms, .inl (cyJ, 6, .inr (.inl f_q0_forms_8))), (a_q0_rows, .inr (4, [.long c_q0_rows_first_8, .long c_q0_rows_ofOne_8, .long c_q0_rows_ofOther_8, .long c_q0_rows_second_8, .long c_q0_rows_secondOfOne_8, .long c_q0_rows_secondOfOther_8])), (a_q5, .inr (7, [.long c_q5_n, c_q5_s]))] H := hP.sub [1, 2, 3, 0] rfl
      have hD9 : va_D A [(a_q0, .inr (6, [.ref a_q0_forms, .ref a_q0_roll, .ref a_q0_row, .ref a_q0_rows, .ref a_q0_factors, .ref a_q0_found, .ref a_q0_foundOtherwise, .int c_q0_acts_8, .int c_q0_refusals, .int c_q0_knocks])), (a_q0_forms, .inl (cyJ, 6, .inr (.inl f_q0_forms_8))), (a_q0_rows, .inr (4, [.long c_q0_rows_first_8, .long c_q0_rows_ofOne_8, .long c_q0_rows_ofOther_8, .long c_q0_rows_second_8, .long c_q0_rows_secondOfOne_8, .long c_q0_rows_secondOfOther_8])), (a_q5, .inr (7, [.long c_q5_n, c_q5_s]))] := hD.sub [1, 2, 3, 0] (by decide) rfl
      refine vx_ret ?_
      exact W.iret hx hb hr (fun t ht hW => ⟨⟨_, (), rfl, rfl, wQA_of ht hP9 hD9⟩, hS.F ht⟩) hS.2.2 dL_multipliers_21
    have h := if_ cx0 h
    by_cases cx1 : xc8 = 2
    · have h := it_ cx1 h
      have hE1 : E9 = "java/lang/IllegalArgumentException" := by rw [hE9, cx1]; rfl
      subst hE1
      refine vx_catch (name := "java/lang/IllegalArgumentException") hown (tableOf [(0, 15, 18, 19)]) ⟨0, 15, 22, 21⟩ (tableOf []) hxt (fun z hz => by obtain rfl := List.mem_singleton.mp hz; exact Or.inr ⟨by decide, "java/lang/IndexOutOfBoundsException", hts (.classLink RL 19 "java/lang/IndexOutOfBoundsException") (by decide +kernel), hNc⟩) (by decide) (by decide) (hts (.classLink RL 21 "java/lang/IllegalArgumentException") (by decide +kernel)) (va_Nw.use rfl (hE.2.1 (.castable "java/lang/IllegalArgumentException" "java/lang/IllegalArgumentException") (by decide +kernel))) hce9 hcv9 hcl9 ?_
      refine lv_astore (lv' := [(6, .ref q9), (0, .ref a_q0), (1, .int p1), (2, .int p2), (3, .int p3), (4, .int p4), (5, .ref a_q5)]) hx hb dL_multipliers_22 hl (by decide) rfl (fun ls hl => ?_)
      refine lv_iconst (v := 2) hx hb dL_multipliers_24 (by decide) ?_
      obtain ⟨e0, e1, e2, e3, e4, e5, e6, e7, e8, e9⟩ := tup10 h
      subst e0
      subst e1
      subst e2
      subst e3
      subst e4
      subst e5
      subst e6
      subst e7
      subst e8
      subst e9
      have hP9 : va_P D vwCl [(a_q0, .inr (6, [.ref a_q0_forms, .ref a_q0_roll, .ref a_q0_row, .ref a_q0_rows, .ref a_q0_factors, .ref a_q0_found, .ref a_q0_foundOtherwise, .int c_q0_acts_8, .int c_q0_refusals, .int c_q0_knocks])), (a_q0_forms, .inl (cyJ, 6, .inr (.inl f_q0_forms_8))), (a_q0_rows, .inr (4, [.long c_q0_rows_first_8, .long c_q0_rows_ofOne_8, .long c_q0_rows_ofOther_8, .long c_q0_rows_second_8, .long c_q0_rows_secondOfOne_8, .long c_q0_rows_secondOfOther_8])), (a_q5, .inr (7, [.long c_q5_n, c_q5_s]))] H := hP.sub [1, 2, 3, 0] rfl
      have hD9 : va_D A [(a_q0, .inr (6, [.ref a_q0_forms, .ref a_q0_roll, .ref a_q0_row, .ref a_q0_rows, .ref a_q0_factors, .ref a_q0_found, .ref a_q0_foundOtherwise, .int c_q0_acts_8, .int c_q0_refusals, .int c_q0_knocks])), (a_q0_forms, .inl (cyJ, 6, .inr (.inl f_q0_forms_8))), (a_q0_rows, .inr (4, [.long c_q0_rows_first_8, .long c_q0_rows_ofOne_8, .long c_q0_rows_ofOther_8, .long c_q0_rows_second_8, .long c_q0_rows_secondOfOne_8, .long c_q0_rows_secondOfOther_8])), (a_q5, .inr (7, [.long c_q5_n, c_q5_s]))] := hD.sub [1, 2, 3, 0] (by decide) rfl
      refine vx_ret ?_
      exact W.iret hx hb hr (fun t ht hW => ⟨⟨_, (), rfl, rfl, wQA_of ht hP9 hD9⟩, hS.F ht⟩) hS.2.2 dL_multipliers_25
    have h := if_ cx1 h
    cases h
  · have h := it_ hx9 h
    have hP : va_P D vwCl [(a_q5, .inr (7, [.long c_q5_n, c_q5_s])), (a_q0, .inr (6, [.ref a_q0_forms, .ref a_q0_roll, .ref a_q0_row, .ref a_q0_rows, .ref a_q0_factors, .ref a_q0_found, .ref a_q0_foundOtherwise, .int c_q0_acts_8, .int c_q0_refusals, .int c_q0_knocks])), (a_q0_forms, .inl (cyJ, 6, .inr (.inl f_q0_forms_8))), (a_q0_rows, .inr (4, [.long c_q0_rows_first_8, .long c_q0_rows_ofOne_8, .long c_q0_rows_ofOther_8, .long c_q0_rows_second_8, .long c_q0_rows_secondOfOne_8, .long c_q0_rows_secondOfOther_8]))] H := hP
    have hD : va_D A [(a_q5, .inr (7, [.long c_q5_n, c_q5_s])), (a_q0, .inr (6, [.ref a_q0_forms, .ref a_q0_roll, .ref a_q0_row, .ref a_q0_rows, .ref a_q0_factors, .ref a_q0_found, .ref a_q0_foundOtherwise, .int c_q0_acts_8, .int c_q0_refusals, .int c_q0_knocks])), (a_q0_forms, .inl (cyJ, 6, .inr (.inl f_q0_forms_8))), (a_q0_rows, .inr (4, [.long c_q0_rows_first_8, .long c_q0_rows_ofOne_8, .long c_q0_rows_ofOther_8, .long c_q0_rows_second_8, .long c_q0_rows_secondOfOne_8, .long c_q0_rows_secondOfOther_8]))] := hD
    refine lv_i2l (v := r8.toInt64) hx hb dL_multipliers_11 rfl ?_
    refine lv_topl (fun c_q5_n_12 e_c_q5_n_12 => ?_)
    have h := bnd_h e_c_q5_n_12 h
    refine va_putN (D := D) (ci := 7) (v := .long c_q5_n_12) (ty := .long) (C := RX8) (T := TX8) (N := 2) hx hb hts hinX8 tyX8 tyX8_ok nmX8 hown hK hP hD hS 0 rfl rfl 0 (by decide) hfl13 (fun _ h9 => h9) rfl (by decide +kernel) rfl rfl (Nat.le_of_ble_eq_true rfl) dL_multipliers_12 (fun H locs hP hD hS => ?_)
    have hP : va_P D vwCl [(a_q5, .inr (7, [.long c_q5_n_12, c_q5_s])), (a_q0, .inr (6, [.ref a_q0_forms, .ref a_q0_roll, .ref a_q0_row, .ref a_q0_rows, .ref a_q0_factors, .ref a_q0_found, .ref a_q0_foundOtherwise, .int c_q0_acts_8, .int c_q0_refusals, .int c_q0_knocks])), (a_q0_forms, .inl (cyJ, 6, .inr (.inl f_q0_forms_8))), (a_q0_rows, .inr (4, [.long c_q0_rows_first_8, .long c_q0_rows_ofOne_8, .long c_q0_rows_ofOther_8, .long c_q0_rows_second_8, .long c_q0_rows_secondOfOne_8, .long c_q0_rows_secondOfOther_8]))] H := hP
    have hD : va_D A [(a_q5, .inr (7, [.long c_q5_n_12, c_q5_s])), (a_q0, .inr (6, [.ref a_q0_forms, .ref a_q0_roll, .ref a_q0_row, .ref a_q0_rows, .ref a_q0_factors, .ref a_q0_found, .ref a_q0_foundOtherwise, .int c_q0_acts_8, .int c_q0_refusals, .int c_q0_knocks])), (a_q0_forms, .inl (cyJ, 6, .inr (.inl f_q0_forms_8))), (a_q0_rows, .inr (4, [.long c_q0_rows_first_8, .long c_q0_rows_ofOne_8, .long c_q0_rows_ofOther_8, .long c_q0_rows_second_8, .long c_q0_rows_secondOfOne_8, .long c_q0_rows_secondOfOther_8]))] := hD
    refine lv_goto (tgt := 26) hx hb dL_multipliers_15 (by decide) ?_
    refine lv_iconst (v := 0) hx hb dL_multipliers_26 (by decide) ?_
    obtain ⟨e0, e1, e2, e3, e4, e5, e6, e7, e8, e9⟩ := tup10 h
    subst e0
    subst e1
    subst e2
    subst e3
    subst e4
    subst e5
    subst e6
    subst e7
    subst e8
    subst e9
    have hP9 : va_P D vwCl [(a_q0, .inr (6, [.ref a_q0_forms, .ref a_q0_roll, .ref a_q0_row, .ref a_q0_rows, .ref a_q0_factors, .ref a_q0_found, .ref a_q0_foundOtherwise, .int c_q0_acts_8, .int c_q0_refusals, .int c_q0_knocks])), (a_q0_forms, .inl (cyJ, 6, .inr (.inl f_q0_forms_8))), (a_q0_rows, .inr (4, [.long c_q0_rows_first_8, .long c_q0_rows_ofOne_8, .long c_q0_rows_ofOther_8, .long c_q0_rows_second_8, .long c_q0_rows_secondOfOne_8, .long c_q0_rows_secondOfOther_8])), (a_q5, .inr (7, [.long c_q5_n_12, c_q5_s]))] H := hP.sub [1, 2, 3, 0] rfl
    have hD9 : va_D A [(a_q0, .inr (6, [.ref a_q0_forms, .ref a_q0_roll, .ref a_q0_row, .ref a_q0_rows, .ref a_q0_factors, .ref a_q0_found, .ref a_q0_foundOtherwise, .int c_q0_acts_8, .int c_q0_refusals, .int c_q0_knocks])), (a_q0_forms, .inl (cyJ, 6, .inr (.inl f_q0_forms_8))), (a_q0_rows, .inr (4, [.long c_q0_rows_first_8, .long c_q0_rows_ofOne_8, .long c_q0_rows_ofOther_8, .long c_q0_rows_second_8, .long c_q0_rows_secondOfOne_8, .long c_q0_rows_secondOfOther_8])), (a_q5, .inr (7, [.long c_q5_n_12, c_q5_s]))] := hD.sub [1, 2, 3, 0] (by decide) rfl
    refine vx_ret ?_
    exact W.iret hx hb hr (fun t ht hW => ⟨⟨_, (), rfl, rfl, wQA_of ht hP9 hD9⟩, hS.F ht⟩) hS.2.2 dL_multipliers_27

noncomputable abbrev rmL_power : Room := { frames := 11, cells := 4, slots := 24, locals := 166 }
theorem ydL_power : yL_power.cls ≠ "java/lang/invoke/MethodHandle" ∧ yL_power.cls ≠ "java/lang/invoke/VarHandle" ∧ (parseMethodDescriptor yL_power.desc).map (fun d => d.parameters.length) = some 6 := by decide +kernel
noncomputable def F_L_power (c_q0_acts : Int32) (c_q0_refusals : Int32) (f_q0_forms : Nat → Int64) (c_q5_n : Int64) (p1 : Int32) (p2 : Int32) (p3 : Int32) (p4 : Int32) : Option (Int32 × Int32 × Int32 × (Nat → Int64) × Int64) :=
 obn5 (F_X7_power c_q0_acts c_q0_refusals f_q0_forms p1 p2 p3 p4) (fun xc8 r8 c_q0_acts_8 c_q0_refusals_8 f_q0_forms_8 =>
 if xc8 = 0 then
 bnd r8.toInt64 (fun c_q5_n_12 =>
 some ((0 : Int32), c_q0_acts_8, c_q0_refusals_8, f_q0_forms_8, c_q5_n_12))
else
 (if xc8 = 1 then
 some ((1 : Int32), c_q0_acts_8, c_q0_refusals_8, f_q0_forms_8, c_q5_n)
else
 (if xc8 = 2 then
 some ((2 : Int32), c_q0_acts_8, c_q0_refusals_8, f_q0_forms_8, c_q5_n)
else
 none)))
set_option maxHeartbeats 4000000 in
set_option maxRecDepth 100000 in
theorem c_L_power (l : Launch) (hfl : l.stackTraces = false) (D : va_G) (cyJ : ClassId) (sz : Nat) (a_q0 : Nat) (a_q5 : Nat) (a_q0_forms : Nat) (a_q0_roll : Nat) (a_q0_row : Nat) (a_q0_rows : Nat) (a_q0_factors : Nat) (a_q0_found : Nat) (a_q0_foundOtherwise : Nat) (c_q0_acts : Int32) (c_q0_refusals : Int32) (c_q0_knocks : Int32) (f_q0_forms : Nat → Int64) (c_q5_n : Int64) (c_q5_s : Value) (p1 : Int32) (p2 : Int32) (p3 : Int32) (p4 : Int32) (r0 : Int32) (o_c_q0_acts : Int32) (o_c_q0_refusals : Int32) (o_f_q0_forms : Nat → Int64) (o_c_q5_n : Int64) (hF : F_L_power c_q0_acts c_q0_refusals f_q0_forms c_q5_n p1 p2 p3 p4 = some (r0, o_c_q0_acts, o_c_q0_refusals, o_f_q0_forms, o_c_q5_n)) : vx_Met l yL_power wsL_power rmL_power (va_Pc [.ref a_q0, .int p1, .int p2, .int p3, .int p4, .ref a_q5] (wPL D [(cyJ, .long)] [(a_q0, .inr (6, [.ref a_q0_forms, .ref a_q0_roll, .ref a_q0_row, .ref a_q0_rows, .ref a_q0_factors, .ref a_q0_found, .ref a_q0_foundOtherwise, .int c_q0_acts, .int c_q0_refusals, .int c_q0_knocks])), (a_q0_forms, .inl (cyJ, 6, .inr (.inl f_q0_forms))), (a_q5, .inr (7, [.long c_q5_n, c_q5_s]))] sz)) (va_Qi (fun (r : Int32) (_ : Unit) => r = r0) (fun _ t => wQA D [(a_q0, .inr (6, [.ref a_q0_forms, .ref a_q0_roll, .ref a_q0_row, .ref a_q0_rows, .ref a_q0_factors, .ref a_q0_found, .ref a_q0_foundOtherwise, .int o_c_q0_acts, .int o_c_q0_refusals, .int c_q0_knocks])), (a_q0_forms, .inl (cyJ, 6, .inr (.inl o_f_q0_forms))), (a_q5, .inr (7, [.long o_c_q5_n, c_q5_s]))] (va_A [(a_q0, .inr (6, [.ref a_q0_forms, .ref a_q0_roll, .ref a_q0_row, .ref a_q0_rows, .ref a_q0_factors, .ref a_q0_found, .ref a_q0_foundOtherwise, .int c_q0_acts, .int c_q0_refusals, .int c_q0_knocks])), (a_q0_forms, .inl (cyJ, 6, .inr (.inl f_q0_forms))), (a_q5, .inr (7, [.long c_q5_n, c_q5_s]))] sz) t) (va_A [(a_q0, .inr (6, [.ref a_q0_forms, .ref a_q0_roll, .ref a_q0_row, .ref a_q0_rows, .ref a_q0_factors, .ref a_q0_found, .ref a_q0_foundOtherwise, .int c_q0_acts, .int c_q0_refusals, .int c_q0_knocks])), (a_q0_forms, .inl (cyJ, 6, .inr (.inl f_q0_forms))), (a_q5, .inr (7, [.long c_q5_n, c_q5_s]))] sz)) (fun _ _ _ => False) 4 24 (va_A [(a_q0, .inr (6, [.ref a_q0_forms, .ref a_q0_roll, .ref a_q0_row, .ref a_q0_rows, .ref a_q0_factors, .ref a_q0_found, .ref a_q0_foundOtherwise, .int c_q0_acts, .int c_q0_refusals, .int c_q0_knocks])), (a_q0_forms, .inl (cyJ, 6, .inr (.inl f_q0_forms))), (a_q5, .inr (7, [.long c_q5_n, c_q5_s]))] sz) := by
  refine vx_ofWH (cc := cL_power) (maxL := 7) (ret := (some .int)) (hh := [(0, 15, 18, 19), (0, 15, 22, 21)]) (by decide) rfl ?_
  intro p e s m args below meth c s₁ B hml hv
  obtain ⟨rfl, ⟨⟨hsz, hP, hK, hD0, hnw⟩, hE⟩, hNc⟩ := hv
  have hx := B.exec
  have hb := B.bytes
  have hr := B.returns
  have hts := atoms_spec (ws := wsL_power) B.pre
  have hown : s.vm.findClass RL = some m.cls := findClass_of_methodNamed B.named
  have hlocks := B.notSynchronized
  have hcf : CallFix _ _ _ _ _ _ _ _ _ := ⟨hx, hb, hml, hown, hts⟩
  have hxt : c.exceptionTable.toList = tableOf [(0, 15, 18, 19), (0, 15, 22, 21)] := vx_table (x := yL_power) B (hts _ List.mem_cons_self)
  have hinX8 : ∀ w ∈ u_ws RX8 TX8 2, w ∈ wsL_power := by decide +kernel
  have hfl13 := hnw.use (A := ([.ref a_q0, .int p1, .int p2, .int p3, .int p4, .ref a_q5] : List Value).toArray) (w := .fieldLinkNest RL 13 "FormwheelLaw$Out" "n" "J" "FormwheelLaw") (by decide +kernel)
  subst hsz
  have hD := hD0.self (sz := s.heap.size)
  generalize hAe : va_A [(a_q0, .inr (6, [.ref a_q0_forms, .ref a_q0_roll, .ref a_q0_row, .ref a_q0_rows, .ref a_q0_factors, .ref a_q0_found, .ref a_q0_foundOtherwise, .int c_q0_acts, .int c_q0_refusals, .int c_q0_knocks])), (a_q0_forms, .inl (cyJ, 6, .inr (.inl f_q0_forms))), (a_q5, .inr (7, [.long c_q5_n, c_q5_s]))] s.heap.size = A at hD hE ⊢
  have hA : ∀ q : Nat, s.heap.size ≤ q → A q := fun q h => by rw [← hAe]; exact Or.inr h
  have hS : va_S A s.heap s.heap [] := va_S.rf
  have hP : va_P D vwCl [(a_q0, .inr (6, [.ref a_q0_forms, .ref a_q0_roll, .ref a_q0_row, .ref a_q0_rows, .ref a_q0_factors, .ref a_q0_found, .ref a_q0_foundOtherwise, .int c_q0_acts, .int c_q0_refusals, .int c_q0_knocks])), (a_q0_forms, .inl (cyJ, 6, .inr (.inl f_q0_forms))), (a_q5, .inr (7, [.long c_q5_n, c_q5_s]))] s.heap := hP
  have hK0 := hK
  have hl := lv_entry ([.ref a_q0, .int p1, .int p2, .int p3, .int p4, .ref a_q5]) (n := 7) (Nat.le_of_ble_eq_true rfl)
  rw [lg_entry_eq]
  generalize (lg_sl ([.ref a_q0, .int p1, .int p2, .int p3, .int p4, .ref a_q5]) ++ List.replicate (7 - (lg_sl ([.ref a_q0, .int p1, .int p2, .int p3, .int p4, .ref a_q5])).length) Slot.unset).toArray = ls at hl ⊢
  have hl : lv_has ls 7 [(0, .ref a_q0), (1, .int p1), (2, .int p2), (3, .int p3), (4, .int p4), (5, .ref a_q5)] := hl
  have h := hF
  clear hF
  unfold F_L_power at h
  refine lv_aload hx hb dL_power_0 (lv_at hl 5 rfl) ?_
  refine lv_aload_n hx hb dL_power_2 rfl (lv_at hl 0 rfl) ?_
  refine lv_iload_n hx hb dL_power_3 rfl (lv_at hl 1 rfl) ?_
  refine lv_iload_n hx hb dL_power_4 rfl (lv_at hl 2 rfl) ?_
  refine lv_iload_n hx hb dL_power_5 rfl (lv_at hl 3 rfl) ?_
  refine lv_iload hx hb dL_power_6 (lv_at hl 4 rfl) ?_
  obtain ⟨xc8, r8, c_q0_acts_8, c_q0_refusals_8, f_q0_forms_8, hc8, h⟩ := obn5_h h
  have hPc := hP.sub (ws' := [(a_q0, .inr (6, [.ref a_q0_forms, .ref a_q0_roll, .ref a_q0_row, .ref a_q0_rows, .ref a_q0_factors, .ref a_q0_found, .ref a_q0_foundOtherwise, .int c_q0_acts, .int c_q0_refusals, .int c_q0_knocks])), (a_q0_forms, .inl (cyJ, 6, .inr (.inl f_q0_forms)))]) [0, 1] rfl
  have hDc := hD.sub (ws' := [(a_q0, .inr (6, [.ref a_q0_forms, .ref a_q0_roll, .ref a_q0_row, .ref a_q0_rows, .ref a_q0_factors, .ref a_q0_found, .ref a_q0_foundOtherwise, .int c_q0_acts, .int c_q0_refusals, .int c_q0_knocks])), (a_q0_forms, .inl (cyJ, 6, .inr (.inl f_q0_forms)))]) [0, 1] (by decide) rfl
  refine hx_i (w1 := [(a_q0, .inr (6, [.ref a_q0_forms, .ref a_q0_roll, .ref a_q0_row, .ref a_q0_rows, .ref a_q0_factors, .ref a_q0_found, .ref a_q0_foundOtherwise, .int c_q0_acts_8, .int c_q0_refusals_8, .int c_q0_knocks])), (a_q0_forms, .inl (cyJ, 6, .inr (.inl f_q0_forms_8)))]) (wr := [(a_q5, .inr (7, [.long c_q5_n, c_q5_s]))]) (vx_runV (As := [.int p1, .int p2, .int p3, .int p4]) (rest := [.ref a_q5]) hcf (c_X7_power l hfl D cyJ s.heap.size a_q0 a_q0_forms a_q0_roll a_q0_row a_q0_rows a_q0_factors a_q0_found a_q0_foundOtherwise c_q0_acts c_q0_refusals c_q0_knocks f_q0_forms p1 p2 p3 p4 xc8 r8 c_q0_acts_8 c_q0_refusals_8 f_q0_forms_8 hc8) (cwV 4 hts gL_power_X7_power rfl rfl rfl ydX7_power ⟨Nat.le_of_ble_eq_true rfl, Nat.le_of_ble_eq_true rfl⟩) ⟨bl_PX, va_recv hK hP (ci := 6) (q0 := 0) rfl rfl, pr_PX hPc hK0 hDc hnw hE hS (va_free hD hS hA [0, 1] rfl)⟩ rfl rfl hl.1 rfl (lv_room (Nat.le_of_ble_eq_true rfl)) dL_power_8 ⟨Nat.le_of_ble_eq_true rfl, Nat.le_of_ble_eq_true rfl⟩) hP hD hS hA [0, 1] [2] rfl rfl (by decide) (by decide) (fun E9 ce9 q9 H locs hx9 hE9 hP hD hS hce9 hcv9 hcl9 => ?_) (fun hx9 H locs hP hD hS => ?_)
  · have h := if_ hx9 h
    have hP : va_P D vwCl [(a_q5, .inr (7, [.long c_q5_n, c_q5_s])), (a_q0, .inr (6, [.ref a_q0_forms, .ref a_q0_roll, .ref a_q0_row, .ref a_q0_rows, .ref a_q0_factors, .ref a_q0_found, .ref a_q0_foundOtherwise, .int c_q0_acts_8, .int c_q0_refusals_8, .int c_q0_knocks])), (a_q0_forms, .inl (cyJ, 6, .inr (.inl f_q0_forms_8)))] H := hP
    have hD : va_D A [(a_q5, .inr (7, [.long c_q5_n, c_q5_s])), (a_q0, .inr (6, [.ref a_q0_forms, .ref a_q0_roll, .ref a_q0_row, .ref a_q0_rows, .ref a_q0_factors, .ref a_q0_found, .ref a_q0_foundOtherwise, .int c_q0_acts_8, .int c_q0_refusals_8, .int c_q0_knocks])), (a_q0_forms, .inl (cyJ, 6, .inr (.inl f_q0_forms_8)))] := hD
    by_cases cx0 : xc8 = 1
    · have h := it_ cx0 h
      have hE1 : E9 = "java/lang/IndexOutOfBoundsException" := by rw [hE9, cx0]; rfl
      subst hE1
      refine vx_catch (name := "java/lang/IndexOutOfBoundsException") hown (tableOf []) ⟨0, 15, 18, 19⟩ (tableOf [(0, 15, 22, 21)]) hxt (fun z hz => absurd hz List.not_mem_nil) (by decide) (by decide) (hts (.classLink RL 19 "java/lang/IndexOutOfBoundsException") (by decide +kernel)) (va_Nw.use rfl (hE.2.1 (.castable "java/lang/IndexOutOfBoundsException" "java/lang/IndexOutOfBoundsException") (by decide +kernel))) hce9 hcv9 hcl9 ?_
      refine lv_astore (lv' := [(6, .ref q9), (0, .ref a_q0), (1, .int p1), (2, .int p2), (3, .int p3), (4, .int p4), (5, .ref a_q5)]) hx hb dL_power_18 hl (by decide) rfl (fun ls hl => ?_)
      refine lv_iconst (v := 1) hx hb dL_power_20 (by decide) ?_
      obtain ⟨e0, e1, e2, e3, e4⟩ := tup5 h
      subst e0
      subst e1
      subst e2
      subst e3
      subst e4
      have hP9 : va_P D vwCl [(a_q0, .inr (6, [.ref a_q0_forms, .ref a_q0_roll, .ref a_q0_row, .ref a_q0_rows, .ref a_q0_factors, .ref a_q0_found, .ref a_q0_foundOtherwise, .int c_q0_acts_8, .int c_q0_refusals_8, .int c_q0_knocks])), (a_q0_forms, .inl (cyJ, 6, .inr (.inl f_q0_forms_8))), (a_q5, .inr (7, [.long c_q5_n, c_q5_s]))] H := hP.sub [1, 2, 0] rfl
      have hD9 : va_D A [(a_q0, .inr (6, [.ref a_q0_forms, .ref a_q0_roll, .ref a_q0_row, .ref a_q0_rows, .ref a_q0_factors, .ref a_q0_found, .ref a_q0_foundOtherwise, .int c_q0_acts_8, .int c_q0_refusals_8, .int c_q0_knocks])), (a_q0_forms, .inl (cyJ, 6, .inr (.inl f_q0_forms_8))), (a_q5, .inr (7, [.long c_q5_n, c_q5_s]))] := hD.sub [1, 2, 0] (by decide) rfl
      refine vx_ret ?_
      exact W.iret hx hb hr (fun t ht hW => ⟨⟨_, (), rfl, rfl, wQA_of ht hP9 hD9⟩, hS.F ht⟩) hS.2.2 dL_power_21
    have h := if_ cx0 h
    by_cases cx1 : xc8 = 2
    · have h := it_ cx1 h
      have hE1 : E9 = "java/lang/IllegalArgumentException" := by rw [hE9, cx1]; rfl
      subst hE1
      refine vx_catch (name := "java/lang/IllegalArgumentException") hown (tableOf [(0, 15, 18, 19)]) ⟨0, 15, 22, 21⟩ (tableOf []) hxt (fun z hz => by obtain rfl := List.mem_singleton.mp hz; exact Or.inr ⟨by decide, "java/lang/IndexOutOfBoundsException", hts (.classLink RL 19 "java/lang/IndexOutOfBoundsException") (by decide +kernel), hNc⟩) (by decide) (by decide) (hts (.classLink RL 21 "java/lang/IllegalArgumentException") (by decide +kernel)) (va_Nw.use rfl (hE.2.1 (.castable "java/lang/IllegalArgumentException" "java/lang/IllegalArgumentException") (by decide +kernel))) hce9 hcv9 hcl9 ?_
      refine lv_astore (lv' := [(6, .ref q9), (0, .ref a_q0), (1, .int p1), (2, .int p2), (3, .int p3), (4, .int p4), (5, .ref a_q5)]) hx hb dL_power_22 hl (by decide) rfl (fun ls hl => ?_)
      refine lv_iconst (v := 2) hx hb dL_power_24 (by decide) ?_
      obtain ⟨e0, e1, e2, e3, e4⟩ := tup5 h
      subst e0
      subst e1
      subst e2
      subst e3
      subst e4
      have hP9 : va_P D vwCl [(a_q0, .inr (6, [.ref a_q0_forms, .ref a_q0_roll, .ref a_q0_row, .ref a_q0_rows, .ref a_q0_factors, .ref a_q0_found, .ref a_q0_foundOtherwise, .int c_q0_acts_8, .int c_q0_refusals_8, .int c_q0_knocks])), (a_q0_forms, .inl (cyJ, 6, .inr (.inl f_q0_forms_8))), (a_q5, .inr (7, [.long c_q5_n, c_q5_s]))] H := hP.sub [1, 2, 0] rfl
      have hD9 : va_D A [(a_q0, .inr (6, [.ref a_q0_forms, .ref a_q0_roll, .ref a_q0_row, .ref a_q0_rows, .ref a_q0_factors, .ref a_q0_found, .ref a_q0_foundOtherwise, .int c_q0_acts_8, .int c_q0_refusals_8, .int c_q0_knocks])), (a_q0_forms, .inl (cyJ, 6, .inr (.inl f_q0_forms_8))), (a_q5, .inr (7, [.long c_q5_n, c_q5_s]))] := hD.sub [1, 2, 0] (by decide) rfl
      refine vx_ret ?_
      exact W.iret hx hb hr (fun t ht hW => ⟨⟨_, (), rfl, rfl, wQA_of ht hP9 hD9⟩, hS.F ht⟩) hS.2.2 dL_power_25
    have h := if_ cx1 h
    cases h
  · have h := it_ hx9 h
    have hP : va_P D vwCl [(a_q5, .inr (7, [.long c_q5_n, c_q5_s])), (a_q0, .inr (6, [.ref a_q0_forms, .ref a_q0_roll, .ref a_q0_row, .ref a_q0_rows, .ref a_q0_factors, .ref a_q0_found, .ref a_q0_foundOtherwise, .int c_q0_acts_8, .int c_q0_refusals_8, .int c_q0_knocks])), (a_q0_forms, .inl (cyJ, 6, .inr (.inl f_q0_forms_8)))] H := hP
    have hD : va_D A [(a_q5, .inr (7, [.long c_q5_n, c_q5_s])), (a_q0, .inr (6, [.ref a_q0_forms, .ref a_q0_roll, .ref a_q0_row, .ref a_q0_rows, .ref a_q0_factors, .ref a_q0_found, .ref a_q0_foundOtherwise, .int c_q0_acts_8, .int c_q0_refusals_8, .int c_q0_knocks])), (a_q0_forms, .inl (cyJ, 6, .inr (.inl f_q0_forms_8)))] := hD
    refine lv_i2l (v := r8.toInt64) hx hb dL_power_11 rfl ?_
    refine lv_topl (fun c_q5_n_12 e_c_q5_n_12 => ?_)
    have h := bnd_h e_c_q5_n_12 h
    refine va_putN (D := D) (ci := 7) (v := .long c_q5_n_12) (ty := .long) (C := RX8) (T := TX8) (N := 2) hx hb hts hinX8 tyX8 tyX8_ok nmX8 hown hK hP hD hS 0 rfl rfl 0 (by decide) hfl13 (fun _ h9 => h9) rfl (by decide +kernel) rfl rfl (Nat.le_of_ble_eq_true rfl) dL_power_12 (fun H locs hP hD hS => ?_)
    have hP : va_P D vwCl [(a_q5, .inr (7, [.long c_q5_n_12, c_q5_s])), (a_q0, .inr (6, [.ref a_q0_forms, .ref a_q0_roll, .ref a_q0_row, .ref a_q0_rows, .ref a_q0_factors, .ref a_q0_found, .ref a_q0_foundOtherwise, .int c_q0_acts_8, .int c_q0_refusals_8, .int c_q0_knocks])), (a_q0_forms, .inl (cyJ, 6, .inr (.inl f_q0_forms_8)))] H := hP
    have hD : va_D A [(a_q5, .inr (7, [.long c_q5_n_12, c_q5_s])), (a_q0, .inr (6, [.ref a_q0_forms, .ref a_q0_roll, .ref a_q0_row, .ref a_q0_rows, .ref a_q0_factors, .ref a_q0_found, .ref a_q0_foundOtherwise, .int c_q0_acts_8, .int c_q0_refusals_8, .int c_q0_knocks])), (a_q0_forms, .inl (cyJ, 6, .inr (.inl f_q0_forms_8)))] := hD
    refine lv_goto (tgt := 26) hx hb dL_power_15 (by decide) ?_
    refine lv_iconst (v := 0) hx hb dL_power_26 (by decide) ?_
    obtain ⟨e0, e1, e2, e3, e4⟩ := tup5 h
    subst e0
    subst e1
    subst e2
    subst e3
    subst e4
    have hP9 : va_P D vwCl [(a_q0, .inr (6, [.ref a_q0_forms, .ref a_q0_roll, .ref a_q0_row, .ref a_q0_rows, .ref a_q0_factors, .ref a_q0_found, .ref a_q0_foundOtherwise, .int c_q0_acts_8, .int c_q0_refusals_8, .int c_q0_knocks])), (a_q0_forms, .inl (cyJ, 6, .inr (.inl f_q0_forms_8))), (a_q5, .inr (7, [.long c_q5_n_12, c_q5_s]))] H := hP.sub [1, 2, 0] rfl
    have hD9 : va_D A [(a_q0, .inr (6, [.ref a_q0_forms, .ref a_q0_roll, .ref a_q0_row, .ref a_q0_rows, .ref a_q0_factors, .ref a_q0_found, .ref a_q0_foundOtherwise, .int c_q0_acts_8, .int c_q0_refusals_8, .int c_q0_knocks])), (a_q0_forms, .inl (cyJ, 6, .inr (.inl f_q0_forms_8))), (a_q5, .inr (7, [.long c_q5_n_12, c_q5_s]))] := hD.sub [1, 2, 0] (by decide) rfl
    refine vx_ret ?_
    exact W.iret hx hb hr (fun t ht hW => ⟨⟨_, (), rfl, rfl, wQA_of ht hP9 hD9⟩, hS.F ht⟩) hS.2.2 dL_power_27

noncomputable abbrev rmL_allPrimes : Room := { frames := 10, cells := 2, slots := 12, locals := 189 }
theorem ydL_allPrimes : yL_allPrimes.cls ≠ "java/lang/invoke/MethodHandle" ∧ yL_allPrimes.cls ≠ "java/lang/invoke/VarHandle" ∧ (parseMethodDescriptor yL_allPrimes.desc).map (fun d => d.parameters.length) = some 4 := by decide +kernel
noncomputable def F_L_allPrimes (c_q0_acts : Int32) (f_q0_forms : Nat → Int64) (c_q3_n : Int64) (p1 : Int32) (p2 : Int32) : Option (Int32 × Int32 × (Nat → Int64) × Int64) :=
 obn4 (F_X7_allPrimes c_q0_acts f_q0_forms p1 p2) (fun xc4 r4 c_q0_acts_4 f_q0_forms_4 =>
 if xc4 = 0 then
 bnd r4.toInt64 (fun c_q3_n_8 =>
 some ((0 : Int32), c_q0_acts_4, f_q0_forms_4, c_q3_n_8))
else
 (if xc4 = 1 then
 some ((1 : Int32), c_q0_acts_4, f_q0_forms_4, c_q3_n)
else
 (if xc4 = 2 then
 some ((2 : Int32), c_q0_acts_4, f_q0_forms_4, c_q3_n)
else
 none)))
set_option maxHeartbeats 4000000 in
set_option maxRecDepth 100000 in
theorem c_L_allPrimes (l : Launch) (hfl : l.stackTraces = false) (D : va_G) (cyJ : ClassId) (sz : Nat) (a_q0 : Nat) (a_q3 : Nat) (a_q0_forms : Nat) (a_q0_roll : Nat) (a_q0_row : Nat) (a_q0_rows : Nat) (a_q0_factors : Nat) (a_q0_found : Nat) (a_q0_foundOtherwise : Nat) (c_q0_acts : Int32) (c_q0_refusals : Int32) (c_q0_knocks : Int32) (f_q0_forms : Nat → Int64) (c_q3_n : Int64) (c_q3_s : Value) (p1 : Int32) (p2 : Int32) (r0 : Int32) (o_c_q0_acts : Int32) (o_f_q0_forms : Nat → Int64) (o_c_q3_n : Int64) (hF : F_L_allPrimes c_q0_acts f_q0_forms c_q3_n p1 p2 = some (r0, o_c_q0_acts, o_f_q0_forms, o_c_q3_n)) : vx_Met l yL_allPrimes wsL_allPrimes rmL_allPrimes (va_Pc [.ref a_q0, .int p1, .int p2, .ref a_q3] (wPL D [(cyJ, .long)] [(a_q0, .inr (6, [.ref a_q0_forms, .ref a_q0_roll, .ref a_q0_row, .ref a_q0_rows, .ref a_q0_factors, .ref a_q0_found, .ref a_q0_foundOtherwise, .int c_q0_acts, .int c_q0_refusals, .int c_q0_knocks])), (a_q0_forms, .inl (cyJ, 6, .inr (.inl f_q0_forms))), (a_q3, .inr (7, [.long c_q3_n, c_q3_s]))] sz)) (va_Qi (fun (r : Int32) (_ : Unit) => r = r0) (fun _ t => wQA D [(a_q0, .inr (6, [.ref a_q0_forms, .ref a_q0_roll, .ref a_q0_row, .ref a_q0_rows, .ref a_q0_factors, .ref a_q0_found, .ref a_q0_foundOtherwise, .int o_c_q0_acts, .int c_q0_refusals, .int c_q0_knocks])), (a_q0_forms, .inl (cyJ, 6, .inr (.inl o_f_q0_forms))), (a_q3, .inr (7, [.long o_c_q3_n, c_q3_s]))] (va_A [(a_q0, .inr (6, [.ref a_q0_forms, .ref a_q0_roll, .ref a_q0_row, .ref a_q0_rows, .ref a_q0_factors, .ref a_q0_found, .ref a_q0_foundOtherwise, .int c_q0_acts, .int c_q0_refusals, .int c_q0_knocks])), (a_q0_forms, .inl (cyJ, 6, .inr (.inl f_q0_forms))), (a_q3, .inr (7, [.long c_q3_n, c_q3_s]))] sz) t) (va_A [(a_q0, .inr (6, [.ref a_q0_forms, .ref a_q0_roll, .ref a_q0_row, .ref a_q0_rows, .ref a_q0_factors, .ref a_q0_found, .ref a_q0_foundOtherwise, .int c_q0_acts, .int c_q0_refusals, .int c_q0_knocks])), (a_q0_forms, .inl (cyJ, 6, .inr (.inl f_q0_forms))), (a_q3, .inr (7, [.long c_q3_n, c_q3_s]))] sz)) (fun _ _ _ => False) 2 12 (va_A [(a_q0, .inr (6, [.ref a_q0_forms, .ref a_q0_roll, .ref a_q0_row, .ref a_q0_rows, .ref a_q0_factors, .ref a_q0_found, .ref a_q0_foundOtherwise, .int c_q0_acts, .int c_q0_refusals, .int c_q0_knocks])), (a_q0_forms, .inl (cyJ, 6, .inr (.inl f_q0_forms))), (a_q3, .inr (7, [.long c_q3_n, c_q3_s]))] sz) := by
  refine vx_ofWH (cc := cL_allPrimes) (maxL := 5) (ret := (some .int)) (hh := [(0, 11, 14, 19), (0, 11, 18, 21)]) (by decide) rfl ?_
  intro p e s m args below meth c s₁ B hml hv
  obtain ⟨rfl, ⟨⟨hsz, hP, hK, hD0, hnw⟩, hE⟩, hNc⟩ := hv
  have hx := B.exec
  have hb := B.bytes
  have hr := B.returns
  have hts := atoms_spec (ws := wsL_allPrimes) B.pre
  have hown : s.vm.findClass RL = some m.cls := findClass_of_methodNamed B.named
  have hlocks := B.notSynchronized
  have hcf : CallFix _ _ _ _ _ _ _ _ _ := ⟨hx, hb, hml, hown, hts⟩
  have hxt : c.exceptionTable.toList = tableOf [(0, 11, 14, 19), (0, 11, 18, 21)] := vx_table (x := yL_allPrimes) B (hts _ List.mem_cons_self)
  have hinX8 : ∀ w ∈ u_ws RX8 TX8 2, w ∈ wsL_allPrimes := by decide +kernel
  have hfl13 := hnw.use (A := ([.ref a_q0, .int p1, .int p2, .ref a_q3] : List Value).toArray) (w := .fieldLinkNest RL 13 "FormwheelLaw$Out" "n" "J" "FormwheelLaw") (by decide +kernel)
  subst hsz
  have hD := hD0.self (sz := s.heap.size)
  generalize hAe : va_A [(a_q0, .inr (6, [.ref a_q0_forms, .ref a_q0_roll, .ref a_q0_row, .ref a_q0_rows, .ref a_q0_factors, .ref a_q0_found, .ref a_q0_foundOtherwise, .int c_q0_acts, .int c_q0_refusals, .int c_q0_knocks])), (a_q0_forms, .inl (cyJ, 6, .inr (.inl f_q0_forms))), (a_q3, .inr (7, [.long c_q3_n, c_q3_s]))] s.heap.size = A at hD hE ⊢
  have hA : ∀ q : Nat, s.heap.size ≤ q → A q := fun q h => by rw [← hAe]; exact Or.inr h
  have hS : va_S A s.heap s.heap [] := va_S.rf
  have hP : va_P D vwCl [(a_q0, .inr (6, [.ref a_q0_forms, .ref a_q0_roll, .ref a_q0_row, .ref a_q0_rows, .ref a_q0_factors, .ref a_q0_found, .ref a_q0_foundOtherwise, .int c_q0_acts, .int c_q0_refusals, .int c_q0_knocks])), (a_q0_forms, .inl (cyJ, 6, .inr (.inl f_q0_forms))), (a_q3, .inr (7, [.long c_q3_n, c_q3_s]))] s.heap := hP
  have hK0 := hK
  have hl := lv_entry ([.ref a_q0, .int p1, .int p2, .ref a_q3]) (n := 5) (Nat.le_of_ble_eq_true rfl)
  rw [lg_entry_eq]
  generalize (lg_sl ([.ref a_q0, .int p1, .int p2, .ref a_q3]) ++ List.replicate (5 - (lg_sl ([.ref a_q0, .int p1, .int p2, .ref a_q3])).length) Slot.unset).toArray = ls at hl ⊢
  have hl : lv_has ls 5 [(0, .ref a_q0), (1, .int p1), (2, .int p2), (3, .ref a_q3)] := hl
  have h := hF
  clear hF
  unfold F_L_allPrimes at h
  refine lv_aload_n hx hb dL_allPrimes_0 rfl (lv_at hl 3 rfl) ?_
  refine lv_aload_n hx hb dL_allPrimes_1 rfl (lv_at hl 0 rfl) ?_
  refine lv_iload_n hx hb dL_allPrimes_2 rfl (lv_at hl 1 rfl) ?_
  refine lv_iload_n hx hb dL_allPrimes_3 rfl (lv_at hl 2 rfl) ?_
  obtain ⟨xc4, r4, c_q0_acts_4, f_q0_forms_4, hc4, h⟩ := obn4_h h
  have hPc := hP.sub (ws' := [(a_q0, .inr (6, [.ref a_q0_forms, .ref a_q0_roll, .ref a_q0_row, .ref a_q0_rows, .ref a_q0_factors, .ref a_q0_found, .ref a_q0_foundOtherwise, .int c_q0_acts, .int c_q0_refusals, .int c_q0_knocks])), (a_q0_forms, .inl (cyJ, 6, .inr (.inl f_q0_forms)))]) [0, 1] rfl
  have hDc := hD.sub (ws' := [(a_q0, .inr (6, [.ref a_q0_forms, .ref a_q0_roll, .ref a_q0_row, .ref a_q0_rows, .ref a_q0_factors, .ref a_q0_found, .ref a_q0_foundOtherwise, .int c_q0_acts, .int c_q0_refusals, .int c_q0_knocks])), (a_q0_forms, .inl (cyJ, 6, .inr (.inl f_q0_forms)))]) [0, 1] (by decide) rfl
  refine hx_i (w1 := [(a_q0, .inr (6, [.ref a_q0_forms, .ref a_q0_roll, .ref a_q0_row, .ref a_q0_rows, .ref a_q0_factors, .ref a_q0_found, .ref a_q0_foundOtherwise, .int c_q0_acts_4, .int c_q0_refusals, .int c_q0_knocks])), (a_q0_forms, .inl (cyJ, 6, .inr (.inl f_q0_forms_4)))]) (wr := [(a_q3, .inr (7, [.long c_q3_n, c_q3_s]))]) (vx_runV (As := [.int p1, .int p2]) (rest := [.ref a_q3]) hcf (c_X7_allPrimes l hfl D cyJ s.heap.size a_q0 a_q0_forms a_q0_roll a_q0_row a_q0_rows a_q0_factors a_q0_found a_q0_foundOtherwise c_q0_acts c_q0_refusals c_q0_knocks f_q0_forms p1 p2 xc4 r4 c_q0_acts_4 f_q0_forms_4 hc4) (cwV 2 hts gL_allPrimes_X7_allPrimes rfl rfl rfl ydX7_allPrimes ⟨Nat.le_of_ble_eq_true rfl, Nat.le_of_ble_eq_true rfl⟩) ⟨bl_PX, va_recv hK hP (ci := 6) (q0 := 0) rfl rfl, pr_PX hPc hK0 hDc hnw hE hS (va_free hD hS hA [0, 1] rfl)⟩ rfl rfl hl.1 rfl (lv_room (Nat.le_of_ble_eq_true rfl)) dL_allPrimes_4 ⟨Nat.le_of_ble_eq_true rfl, Nat.le_of_ble_eq_true rfl⟩) hP hD hS hA [0, 1] [2] rfl rfl (by decide) (by decide) (fun E9 ce9 q9 H locs hx9 hE9 hP hD hS hce9 hcv9 hcl9 => ?_) (fun hx9 H locs hP hD hS => ?_)
  · have h := if_ hx9 h
    have hP : va_P D vwCl [(a_q3, .inr (7, [.long c_q3_n, c_q3_s])), (a_q0, .inr (6, [.ref a_q0_forms, .ref a_q0_roll, .ref a_q0_row, .ref a_q0_rows, .ref a_q0_factors, .ref a_q0_found, .ref a_q0_foundOtherwise, .int c_q0_acts_4, .int c_q0_refusals, .int c_q0_knocks])), (a_q0_forms, .inl (cyJ, 6, .inr (.inl f_q0_forms_4)))] H := hP
    have hD : va_D A [(a_q3, .inr (7, [.long c_q3_n, c_q3_s])), (a_q0, .inr (6, [.ref a_q0_forms, .ref a_q0_roll, .ref a_q0_row, .ref a_q0_rows, .ref a_q0_factors, .ref a_q0_found, .ref a_q0_foundOtherwise, .int c_q0_acts_4, .int c_q0_refusals, .int c_q0_knocks])), (a_q0_forms, .inl (cyJ, 6, .inr (.inl f_q0_forms_4)))] := hD
    by_cases cx0 : xc4 = 1
    · have h := it_ cx0 h
      have hE1 : E9 = "java/lang/IndexOutOfBoundsException" := by rw [hE9, cx0]; rfl
      subst hE1
      refine vx_catch (name := "java/lang/IndexOutOfBoundsException") hown (tableOf []) ⟨0, 11, 14, 19⟩ (tableOf [(0, 11, 18, 21)]) hxt (fun z hz => absurd hz List.not_mem_nil) (by decide) (by decide) (hts (.classLink RL 19 "java/lang/IndexOutOfBoundsException") (by decide +kernel)) (va_Nw.use rfl (hE.2.1 (.castable "java/lang/IndexOutOfBoundsException" "java/lang/IndexOutOfBoundsException") (by decide +kernel))) hce9 hcv9 hcl9 ?_
      refine lv_astore (lv' := [(4, .ref q9), (0, .ref a_q0), (1, .int p1), (2, .int p2), (3, .ref a_q3)]) hx hb dL_allPrimes_14 hl (by decide) rfl (fun ls hl => ?_)
      refine lv_iconst (v := 1) hx hb dL_allPrimes_16 (by decide) ?_
      obtain ⟨e0, e1, e2, e3⟩ := tup4 h
      subst e0
      subst e1
      subst e2
      subst e3
      have hP9 : va_P D vwCl [(a_q0, .inr (6, [.ref a_q0_forms, .ref a_q0_roll, .ref a_q0_row, .ref a_q0_rows, .ref a_q0_factors, .ref a_q0_found, .ref a_q0_foundOtherwise, .int c_q0_acts_4, .int c_q0_refusals, .int c_q0_knocks])), (a_q0_forms, .inl (cyJ, 6, .inr (.inl f_q0_forms_4))), (a_q3, .inr (7, [.long c_q3_n, c_q3_s]))] H := hP.sub [1, 2, 0] rfl
      have hD9 : va_D A [(a_q0, .inr (6, [.ref a_q0_forms, .ref a_q0_roll, .ref a_q0_row, .ref a_q0_rows, .ref a_q0_factors, .ref a_q0_found, .ref a_q0_foundOtherwise, .int c_q0_acts_4, .int c_q0_refusals, .int c_q0_knocks])), (a_q0_forms, .inl (cyJ, 6, .inr (.inl f_q0_forms_4))), (a_q3, .inr (7, [.long c_q3_n, c_q3_s]))] := hD.sub [1, 2, 0] (by decide) rfl
      refine vx_ret ?_
      exact W.iret hx hb hr (fun t ht hW => ⟨⟨_, (), rfl, rfl, wQA_of ht hP9 hD9⟩, hS.F ht⟩) hS.2.2 dL_allPrimes_17
    have h := if_ cx0 h
    by_cases cx1 : xc4 = 2
    · have h := it_ cx1 h
      have hE1 : E9 = "java/lang/IllegalArgumentException" := by rw [hE9, cx1]; rfl
      subst hE1
      refine vx_catch (name := "java/lang/IllegalArgumentException") hown (tableOf [(0, 11, 14, 19)]) ⟨0, 11, 18, 21⟩ (tableOf []) hxt (fun z hz => by obtain rfl := List.mem_singleton.mp hz; exact Or.inr ⟨by decide, "java/lang/IndexOutOfBoundsException", hts (.classLink RL 19 "java/lang/IndexOutOfBoundsException") (by decide +kernel), hNc⟩) (by decide) (by decide) (hts (.classLink RL 21 "java/lang/IllegalArgumentException") (by decide +kernel)) (va_Nw.use rfl (hE.2.1 (.castable "java/lang/IllegalArgumentException" "java/lang/IllegalArgumentException") (by decide +kernel))) hce9 hcv9 hcl9 ?_
      refine lv_astore (lv' := [(4, .ref q9), (0, .ref a_q0), (1, .int p1), (2, .int p2), (3, .ref a_q3)]) hx hb dL_allPrimes_18 hl (by decide) rfl (fun ls hl => ?_)
      refine lv_iconst (v := 2) hx hb dL_allPrimes_20 (by decide) ?_
      obtain ⟨e0, e1, e2, e3⟩ := tup4 h
      subst e0
      subst e1
      subst e2
      subst e3
      have hP9 : va_P D vwCl [(a_q0, .inr (6, [.ref a_q0_forms, .ref a_q0_roll, .ref a_q0_row, .ref a_q0_rows, .ref a_q0_factors, .ref a_q0_found, .ref a_q0_foundOtherwise, .int c_q0_acts_4, .int c_q0_refusals, .int c_q0_knocks])), (a_q0_forms, .inl (cyJ, 6, .inr (.inl f_q0_forms_4))), (a_q3, .inr (7, [.long c_q3_n, c_q3_s]))] H := hP.sub [1, 2, 0] rfl
      have hD9 : va_D A [(a_q0, .inr (6, [.ref a_q0_forms, .ref a_q0_roll, .ref a_q0_row, .ref a_q0_rows, .ref a_q0_factors, .ref a_q0_found, .ref a_q0_foundOtherwise, .int c_q0_acts_4, .int c_q0_refusals, .int c_q0_knocks])), (a_q0_forms, .inl (cyJ, 6, .inr (.inl f_q0_forms_4))), (a_q3, .inr (7, [.long c_q3_n, c_q3_s]))] := hD.sub [1, 2, 0] (by decide) rfl
      refine vx_ret ?_
      exact W.iret hx hb hr (fun t ht hW => ⟨⟨_, (), rfl, rfl, wQA_of ht hP9 hD9⟩, hS.F ht⟩) hS.2.2 dL_allPrimes_21
    have h := if_ cx1 h
    cases h
  · have h := it_ hx9 h
    have hP : va_P D vwCl [(a_q3, .inr (7, [.long c_q3_n, c_q3_s])), (a_q0, .inr (6, [.ref a_q0_forms, .ref a_q0_roll, .ref a_q0_row, .ref a_q0_rows, .ref a_q0_factors, .ref a_q0_found, .ref a_q0_foundOtherwise, .int c_q0_acts_4, .int c_q0_refusals, .int c_q0_knocks])), (a_q0_forms, .inl (cyJ, 6, .inr (.inl f_q0_forms_4)))] H := hP
    have hD : va_D A [(a_q3, .inr (7, [.long c_q3_n, c_q3_s])), (a_q0, .inr (6, [.ref a_q0_forms, .ref a_q0_roll, .ref a_q0_row, .ref a_q0_rows, .ref a_q0_factors, .ref a_q0_found, .ref a_q0_foundOtherwise, .int c_q0_acts_4, .int c_q0_refusals, .int c_q0_knocks])), (a_q0_forms, .inl (cyJ, 6, .inr (.inl f_q0_forms_4)))] := hD
    refine lv_i2l (v := r4.toInt64) hx hb dL_allPrimes_7 rfl ?_
    refine lv_topl (fun c_q3_n_8 e_c_q3_n_8 => ?_)
    have h := bnd_h e_c_q3_n_8 h
    refine va_putN (D := D) (ci := 7) (v := .long c_q3_n_8) (ty := .long) (C := RX8) (T := TX8) (N := 2) hx hb hts hinX8 tyX8 tyX8_ok nmX8 hown hK hP hD hS 0 rfl rfl 0 (by decide) hfl13 (fun _ h9 => h9) rfl (by decide +kernel) rfl rfl (Nat.le_of_ble_eq_true rfl) dL_allPrimes_8 (fun H locs hP hD hS => ?_)
    have hP : va_P D vwCl [(a_q3, .inr (7, [.long c_q3_n_8, c_q3_s])), (a_q0, .inr (6, [.ref a_q0_forms, .ref a_q0_roll, .ref a_q0_row, .ref a_q0_rows, .ref a_q0_factors, .ref a_q0_found, .ref a_q0_foundOtherwise, .int c_q0_acts_4, .int c_q0_refusals, .int c_q0_knocks])), (a_q0_forms, .inl (cyJ, 6, .inr (.inl f_q0_forms_4)))] H := hP
    have hD : va_D A [(a_q3, .inr (7, [.long c_q3_n_8, c_q3_s])), (a_q0, .inr (6, [.ref a_q0_forms, .ref a_q0_roll, .ref a_q0_row, .ref a_q0_rows, .ref a_q0_factors, .ref a_q0_found, .ref a_q0_foundOtherwise, .int c_q0_acts_4, .int c_q0_refusals, .int c_q0_knocks])), (a_q0_forms, .inl (cyJ, 6, .inr (.inl f_q0_forms_4)))] := hD
    refine lv_goto (tgt := 22) hx hb dL_allPrimes_11 (by decide) ?_
    refine lv_iconst (v := 0) hx hb dL_allPrimes_22 (by decide) ?_
    obtain ⟨e0, e1, e2, e3⟩ := tup4 h
    subst e0
    subst e1
    subst e2
    subst e3
    have hP9 : va_P D vwCl [(a_q0, .inr (6, [.ref a_q0_forms, .ref a_q0_roll, .ref a_q0_row, .ref a_q0_rows, .ref a_q0_factors, .ref a_q0_found, .ref a_q0_foundOtherwise, .int c_q0_acts_4, .int c_q0_refusals, .int c_q0_knocks])), (a_q0_forms, .inl (cyJ, 6, .inr (.inl f_q0_forms_4))), (a_q3, .inr (7, [.long c_q3_n_8, c_q3_s]))] H := hP.sub [1, 2, 0] rfl
    have hD9 : va_D A [(a_q0, .inr (6, [.ref a_q0_forms, .ref a_q0_roll, .ref a_q0_row, .ref a_q0_rows, .ref a_q0_factors, .ref a_q0_found, .ref a_q0_foundOtherwise, .int c_q0_acts_4, .int c_q0_refusals, .int c_q0_knocks])), (a_q0_forms, .inl (cyJ, 6, .inr (.inl f_q0_forms_4))), (a_q3, .inr (7, [.long c_q3_n_8, c_q3_s]))] := hD.sub [1, 2, 0] (by decide) rfl
    refine vx_ret ?_
    exact W.iret hx hb hr (fun t ht hW => ⟨⟨_, (), rfl, rfl, wQA_of ht hP9 hD9⟩, hS.F ht⟩) hS.2.2 dL_allPrimes_23

noncomputable abbrev rmL_seal : Room := { frames := 11, cells := 3, slots := 18, locals := 167 }
theorem ydL_seal : yL_seal.cls ≠ "java/lang/invoke/MethodHandle" ∧ yL_seal.cls ≠ "java/lang/invoke/VarHandle" ∧ (parseMethodDescriptor yL_seal.desc).map (fun d => d.parameters.length) = some 5 := by decide +kernel
noncomputable def F_L_seal (c_q0_acts : Int32) (c_q0_refusals : Int32) (f_q0_forms : Nat → Int64) (c_q4_n : Int64) (p1 : Int32) (p2 : Int32) (p3 : Int32) : Option (Int32 × Int32 × Int32 × (Nat → Int64) × Int64) :=
 obn5 (F_X7_seal c_q0_acts c_q0_refusals f_q0_forms p1 p2 p3) (fun xc6 r6 c_q0_acts_6 c_q0_refusals_6 f_q0_forms_6 =>
 if xc6 = 0 then
 bnd r6.toInt64 (fun c_q4_n_10 =>
 some ((0 : Int32), c_q0_acts_6, c_q0_refusals_6, f_q0_forms_6, c_q4_n_10))
else
 (if xc6 = 1 then
 some ((1 : Int32), c_q0_acts_6, c_q0_refusals_6, f_q0_forms_6, c_q4_n)
else
 none))
set_option maxHeartbeats 4000000 in
set_option maxRecDepth 100000 in
theorem c_L_seal (l : Launch) (hfl : l.stackTraces = false) (D : va_G) (cyJ : ClassId) (sz : Nat) (a_q0 : Nat) (a_q4 : Nat) (a_q0_forms : Nat) (a_q0_roll : Nat) (a_q0_row : Nat) (a_q0_rows : Nat) (a_q0_factors : Nat) (a_q0_found : Nat) (a_q0_foundOtherwise : Nat) (c_q0_acts : Int32) (c_q0_refusals : Int32) (c_q0_knocks : Int32) (f_q0_forms : Nat → Int64) (c_q4_n : Int64) (c_q4_s : Value) (p1 : Int32) (p2 : Int32) (p3 : Int32) (r0 : Int32) (o_c_q0_acts : Int32) (o_c_q0_refusals : Int32) (o_f_q0_forms : Nat → Int64) (o_c_q4_n : Int64) (hF : F_L_seal c_q0_acts c_q0_refusals f_q0_forms c_q4_n p1 p2 p3 = some (r0, o_c_q0_acts, o_c_q0_refusals, o_f_q0_forms, o_c_q4_n)) : vx_Met l yL_seal wsL_seal rmL_seal (va_Pc [.ref a_q0, .int p1, .int p2, .int p3, .ref a_q4] (wPL D [(cyJ, .long)] [(a_q0, .inr (6, [.ref a_q0_forms, .ref a_q0_roll, .ref a_q0_row, .ref a_q0_rows, .ref a_q0_factors, .ref a_q0_found, .ref a_q0_foundOtherwise, .int c_q0_acts, .int c_q0_refusals, .int c_q0_knocks])), (a_q0_forms, .inl (cyJ, 6, .inr (.inl f_q0_forms))), (a_q4, .inr (7, [.long c_q4_n, c_q4_s]))] sz)) (va_Qi (fun (r : Int32) (_ : Unit) => r = r0) (fun _ t => wQA D [(a_q0, .inr (6, [.ref a_q0_forms, .ref a_q0_roll, .ref a_q0_row, .ref a_q0_rows, .ref a_q0_factors, .ref a_q0_found, .ref a_q0_foundOtherwise, .int o_c_q0_acts, .int o_c_q0_refusals, .int c_q0_knocks])), (a_q0_forms, .inl (cyJ, 6, .inr (.inl o_f_q0_forms))), (a_q4, .inr (7, [.long o_c_q4_n, c_q4_s]))] (va_A [(a_q0, .inr (6, [.ref a_q0_forms, .ref a_q0_roll, .ref a_q0_row, .ref a_q0_rows, .ref a_q0_factors, .ref a_q0_found, .ref a_q0_foundOtherwise, .int c_q0_acts, .int c_q0_refusals, .int c_q0_knocks])), (a_q0_forms, .inl (cyJ, 6, .inr (.inl f_q0_forms))), (a_q4, .inr (7, [.long c_q4_n, c_q4_s]))] sz) t) (va_A [(a_q0, .inr (6, [.ref a_q0_forms, .ref a_q0_roll, .ref a_q0_row, .ref a_q0_rows, .ref a_q0_factors, .ref a_q0_found, .ref a_q0_foundOtherwise, .int c_q0_acts, .int c_q0_refusals, .int c_q0_knocks])), (a_q0_forms, .inl (cyJ, 6, .inr (.inl f_q0_forms))), (a_q4, .inr (7, [.long c_q4_n, c_q4_s]))] sz)) (fun _ _ _ => False) 3 18 (va_A [(a_q0, .inr (6, [.ref a_q0_forms, .ref a_q0_roll, .ref a_q0_row, .ref a_q0_rows, .ref a_q0_factors, .ref a_q0_found, .ref a_q0_foundOtherwise, .int c_q0_acts, .int c_q0_refusals, .int c_q0_knocks])), (a_q0_forms, .inl (cyJ, 6, .inr (.inl f_q0_forms))), (a_q4, .inr (7, [.long c_q4_n, c_q4_s]))] sz) := by
  refine vx_ofWH (cc := cL_seal) (maxL := 6) (ret := (some .int)) (hh := [(0, 13, 16, 19)]) (by decide) rfl ?_
  intro p e s m args below meth c s₁ B hml hv
  obtain ⟨rfl, ⟨⟨hsz, hP, hK, hD0, hnw⟩, hE⟩, hNc⟩ := hv
  have hx := B.exec
  have hb := B.bytes
  have hr := B.returns
  have hts := atoms_spec (ws := wsL_seal) B.pre
  have hown : s.vm.findClass RL = some m.cls := findClass_of_methodNamed B.named
  have hlocks := B.notSynchronized
  have hcf : CallFix _ _ _ _ _ _ _ _ _ := ⟨hx, hb, hml, hown, hts⟩
  have hxt : c.exceptionTable.toList = tableOf [(0, 13, 16, 19)] := vx_table (x := yL_seal) B (hts _ List.mem_cons_self)
  have hinX8 : ∀ w ∈ u_ws RX8 TX8 2, w ∈ wsL_seal := by decide +kernel
  have hfl13 := hnw.use (A := ([.ref a_q0, .int p1, .int p2, .int p3, .ref a_q4] : List Value).toArray) (w := .fieldLinkNest RL 13 "FormwheelLaw$Out" "n" "J" "FormwheelLaw") (by decide +kernel)
  subst hsz
  have hD := hD0.self (sz := s.heap.size)
  generalize hAe : va_A [(a_q0, .inr (6, [.ref a_q0_forms, .ref a_q0_roll, .ref a_q0_row, .ref a_q0_rows, .ref a_q0_factors, .ref a_q0_found, .ref a_q0_foundOtherwise, .int c_q0_acts, .int c_q0_refusals, .int c_q0_knocks])), (a_q0_forms, .inl (cyJ, 6, .inr (.inl f_q0_forms))), (a_q4, .inr (7, [.long c_q4_n, c_q4_s]))] s.heap.size = A at hD hE ⊢
  have hA : ∀ q : Nat, s.heap.size ≤ q → A q := fun q h => by rw [← hAe]; exact Or.inr h
  have hS : va_S A s.heap s.heap [] := va_S.rf
  have hP : va_P D vwCl [(a_q0, .inr (6, [.ref a_q0_forms, .ref a_q0_roll, .ref a_q0_row, .ref a_q0_rows, .ref a_q0_factors, .ref a_q0_found, .ref a_q0_foundOtherwise, .int c_q0_acts, .int c_q0_refusals, .int c_q0_knocks])), (a_q0_forms, .inl (cyJ, 6, .inr (.inl f_q0_forms))), (a_q4, .inr (7, [.long c_q4_n, c_q4_s]))] s.heap := hP
  have hK0 := hK
  have hl := lv_entry ([.ref a_q0, .int p1, .int p2, .int p3, .ref a_q4]) (n := 6) (Nat.le_of_ble_eq_true rfl)
  rw [lg_entry_eq]
  generalize (lg_sl ([.ref a_q0, .int p1, .int p2, .int p3, .ref a_q4]) ++ List.replicate (6 - (lg_sl ([.ref a_q0, .int p1, .int p2, .int p3, .ref a_q4])).length) Slot.unset).toArray = ls at hl ⊢
  have hl : lv_has ls 6 [(0, .ref a_q0), (1, .int p1), (2, .int p2), (3, .int p3), (4, .ref a_q4)] := hl
  have h := hF
  clear hF
  unfold F_L_seal at h
  refine lv_aload hx hb dL_seal_0 (lv_at hl 4 rfl) ?_
  refine lv_aload_n hx hb dL_seal_2 rfl (lv_at hl 0 rfl) ?_
  refine lv_iload_n hx hb dL_seal_3 rfl (lv_at hl 1 rfl) ?_
  refine lv_iload_n hx hb dL_seal_4 rfl (lv_at hl 2 rfl) ?_
  refine lv_iload_n hx hb dL_seal_5 rfl (lv_at hl 3 rfl) ?_
  obtain ⟨xc6, r6, c_q0_acts_6, c_q0_refusals_6, f_q0_forms_6, hc6, h⟩ := obn5_h h
  have hPc := hP.sub (ws' := [(a_q0, .inr (6, [.ref a_q0_forms, .ref a_q0_roll, .ref a_q0_row, .ref a_q0_rows, .ref a_q0_factors, .ref a_q0_found, .ref a_q0_foundOtherwise, .int c_q0_acts, .int c_q0_refusals, .int c_q0_knocks])), (a_q0_forms, .inl (cyJ, 6, .inr (.inl f_q0_forms)))]) [0, 1] rfl
  have hDc := hD.sub (ws' := [(a_q0, .inr (6, [.ref a_q0_forms, .ref a_q0_roll, .ref a_q0_row, .ref a_q0_rows, .ref a_q0_factors, .ref a_q0_found, .ref a_q0_foundOtherwise, .int c_q0_acts, .int c_q0_refusals, .int c_q0_knocks])), (a_q0_forms, .inl (cyJ, 6, .inr (.inl f_q0_forms)))]) [0, 1] (by decide) rfl
  refine hx_i (w1 := [(a_q0, .inr (6, [.ref a_q0_forms, .ref a_q0_roll, .ref a_q0_row, .ref a_q0_rows, .ref a_q0_factors, .ref a_q0_found, .ref a_q0_foundOtherwise, .int c_q0_acts_6, .int c_q0_refusals_6, .int c_q0_knocks])), (a_q0_forms, .inl (cyJ, 6, .inr (.inl f_q0_forms_6)))]) (wr := [(a_q4, .inr (7, [.long c_q4_n, c_q4_s]))]) (vx_runV (As := [.int p1, .int p2, .int p3]) (rest := [.ref a_q4]) hcf (c_X7_seal l hfl D cyJ s.heap.size a_q0 a_q0_forms a_q0_roll a_q0_row a_q0_rows a_q0_factors a_q0_found a_q0_foundOtherwise c_q0_acts c_q0_refusals c_q0_knocks f_q0_forms p1 p2 p3 xc6 r6 c_q0_acts_6 c_q0_refusals_6 f_q0_forms_6 hc6) (cwV 3 hts gL_seal_X7_seal rfl rfl rfl ydX7_seal ⟨Nat.le_of_ble_eq_true rfl, Nat.le_of_ble_eq_true rfl⟩) ⟨bl_PX, va_recv hK hP (ci := 6) (q0 := 0) rfl rfl, pr_PX hPc hK0 hDc hnw hE hS (va_free hD hS hA [0, 1] rfl)⟩ rfl rfl hl.1 rfl (lv_room (Nat.le_of_ble_eq_true rfl)) dL_seal_6 ⟨Nat.le_of_ble_eq_true rfl, Nat.le_of_ble_eq_true rfl⟩) hP hD hS hA [0, 1] [2] rfl rfl (by decide) (by decide) (fun E9 ce9 q9 H locs hx9 hE9 hP hD hS hce9 hcv9 hcl9 => ?_) (fun hx9 H locs hP hD hS => ?_)
  · have h := if_ hx9 h
    have hP : va_P D vwCl [(a_q4, .inr (7, [.long c_q4_n, c_q4_s])), (a_q0, .inr (6, [.ref a_q0_forms, .ref a_q0_roll, .ref a_q0_row, .ref a_q0_rows, .ref a_q0_factors, .ref a_q0_found, .ref a_q0_foundOtherwise, .int c_q0_acts_6, .int c_q0_refusals_6, .int c_q0_knocks])), (a_q0_forms, .inl (cyJ, 6, .inr (.inl f_q0_forms_6)))] H := hP
    have hD : va_D A [(a_q4, .inr (7, [.long c_q4_n, c_q4_s])), (a_q0, .inr (6, [.ref a_q0_forms, .ref a_q0_roll, .ref a_q0_row, .ref a_q0_rows, .ref a_q0_factors, .ref a_q0_found, .ref a_q0_foundOtherwise, .int c_q0_acts_6, .int c_q0_refusals_6, .int c_q0_knocks])), (a_q0_forms, .inl (cyJ, 6, .inr (.inl f_q0_forms_6)))] := hD
    by_cases cx0 : xc6 = 1
    · have h := it_ cx0 h
      have hE1 : E9 = "java/lang/IndexOutOfBoundsException" := by rw [hE9, cx0]; rfl
      subst hE1
      refine vx_catch (name := "java/lang/IndexOutOfBoundsException") hown (tableOf []) ⟨0, 13, 16, 19⟩ (tableOf []) hxt (fun z hz => absurd hz List.not_mem_nil) (by decide) (by decide) (hts (.classLink RL 19 "java/lang/IndexOutOfBoundsException") (by decide +kernel)) (va_Nw.use rfl (hE.2.1 (.castable "java/lang/IndexOutOfBoundsException" "java/lang/IndexOutOfBoundsException") (by decide +kernel))) hce9 hcv9 hcl9 ?_
      refine lv_astore (lv' := [(5, .ref q9), (0, .ref a_q0), (1, .int p1), (2, .int p2), (3, .int p3), (4, .ref a_q4)]) hx hb dL_seal_16 hl (by decide) rfl (fun ls hl => ?_)
      refine lv_iconst (v := 1) hx hb dL_seal_18 (by decide) ?_
      obtain ⟨e0, e1, e2, e3, e4⟩ := tup5 h
      subst e0
      subst e1
      subst e2
      subst e3
      subst e4
      have hP9 : va_P D vwCl [(a_q0, .inr (6, [.ref a_q0_forms, .ref a_q0_roll, .ref a_q0_row, .ref a_q0_rows, .ref a_q0_factors, .ref a_q0_found, .ref a_q0_foundOtherwise, .int c_q0_acts_6, .int c_q0_refusals_6, .int c_q0_knocks])), (a_q0_forms, .inl (cyJ, 6, .inr (.inl f_q0_forms_6))), (a_q4, .inr (7, [.long c_q4_n, c_q4_s]))] H := hP.sub [1, 2, 0] rfl
      have hD9 : va_D A [(a_q0, .inr (6, [.ref a_q0_forms, .ref a_q0_roll, .ref a_q0_row, .ref a_q0_rows, .ref a_q0_factors, .ref a_q0_found, .ref a_q0_foundOtherwise, .int c_q0_acts_6, .int c_q0_refusals_6, .int c_q0_knocks])), (a_q0_forms, .inl (cyJ, 6, .inr (.inl f_q0_forms_6))), (a_q4, .inr (7, [.long c_q4_n, c_q4_s]))] := hD.sub [1, 2, 0] (by decide) rfl
      refine vx_ret ?_
      exact W.iret hx hb hr (fun t ht hW => ⟨⟨_, (), rfl, rfl, wQA_of ht hP9 hD9⟩, hS.F ht⟩) hS.2.2 dL_seal_19
    have h := if_ cx0 h
    cases h
  · have h := it_ hx9 h
    have hP : va_P D vwCl [(a_q4, .inr (7, [.long c_q4_n, c_q4_s])), (a_q0, .inr (6, [.ref a_q0_forms, .ref a_q0_roll, .ref a_q0_row, .ref a_q0_rows, .ref a_q0_factors, .ref a_q0_found, .ref a_q0_foundOtherwise, .int c_q0_acts_6, .int c_q0_refusals_6, .int c_q0_knocks])), (a_q0_forms, .inl (cyJ, 6, .inr (.inl f_q0_forms_6)))] H := hP
    have hD : va_D A [(a_q4, .inr (7, [.long c_q4_n, c_q4_s])), (a_q0, .inr (6, [.ref a_q0_forms, .ref a_q0_roll, .ref a_q0_row, .ref a_q0_rows, .ref a_q0_factors, .ref a_q0_found, .ref a_q0_foundOtherwise, .int c_q0_acts_6, .int c_q0_refusals_6, .int c_q0_knocks])), (a_q0_forms, .inl (cyJ, 6, .inr (.inl f_q0_forms_6)))] := hD
    refine lv_i2l (v := r6.toInt64) hx hb dL_seal_9 rfl ?_
    refine lv_topl (fun c_q4_n_10 e_c_q4_n_10 => ?_)
    have h := bnd_h e_c_q4_n_10 h
    refine va_putN (D := D) (ci := 7) (v := .long c_q4_n_10) (ty := .long) (C := RX8) (T := TX8) (N := 2) hx hb hts hinX8 tyX8 tyX8_ok nmX8 hown hK hP hD hS 0 rfl rfl 0 (by decide) hfl13 (fun _ h9 => h9) rfl (by decide +kernel) rfl rfl (Nat.le_of_ble_eq_true rfl) dL_seal_10 (fun H locs hP hD hS => ?_)
    have hP : va_P D vwCl [(a_q4, .inr (7, [.long c_q4_n_10, c_q4_s])), (a_q0, .inr (6, [.ref a_q0_forms, .ref a_q0_roll, .ref a_q0_row, .ref a_q0_rows, .ref a_q0_factors, .ref a_q0_found, .ref a_q0_foundOtherwise, .int c_q0_acts_6, .int c_q0_refusals_6, .int c_q0_knocks])), (a_q0_forms, .inl (cyJ, 6, .inr (.inl f_q0_forms_6)))] H := hP
    have hD : va_D A [(a_q4, .inr (7, [.long c_q4_n_10, c_q4_s])), (a_q0, .inr (6, [.ref a_q0_forms, .ref a_q0_roll, .ref a_q0_row, .ref a_q0_rows, .ref a_q0_factors, .ref a_q0_found, .ref a_q0_foundOtherwise, .int c_q0_acts_6, .int c_q0_refusals_6, .int c_q0_knocks])), (a_q0_forms, .inl (cyJ, 6, .inr (.inl f_q0_forms_6)))] := hD
    refine lv_goto (tgt := 20) hx hb dL_seal_13 (by decide) ?_
    refine lv_iconst (v := 0) hx hb dL_seal_20 (by decide) ?_
    obtain ⟨e0, e1, e2, e3, e4⟩ := tup5 h
    subst e0
    subst e1
    subst e2
    subst e3
    subst e4
    have hP9 : va_P D vwCl [(a_q0, .inr (6, [.ref a_q0_forms, .ref a_q0_roll, .ref a_q0_row, .ref a_q0_rows, .ref a_q0_factors, .ref a_q0_found, .ref a_q0_foundOtherwise, .int c_q0_acts_6, .int c_q0_refusals_6, .int c_q0_knocks])), (a_q0_forms, .inl (cyJ, 6, .inr (.inl f_q0_forms_6))), (a_q4, .inr (7, [.long c_q4_n_10, c_q4_s]))] H := hP.sub [1, 2, 0] rfl
    have hD9 : va_D A [(a_q0, .inr (6, [.ref a_q0_forms, .ref a_q0_roll, .ref a_q0_row, .ref a_q0_rows, .ref a_q0_factors, .ref a_q0_found, .ref a_q0_foundOtherwise, .int c_q0_acts_6, .int c_q0_refusals_6, .int c_q0_knocks])), (a_q0_forms, .inl (cyJ, 6, .inr (.inl f_q0_forms_6))), (a_q4, .inr (7, [.long c_q4_n_10, c_q4_s]))] := hD.sub [1, 2, 0] (by decide) rfl
    refine vx_ret ?_
    exact W.iret hx hb hr (fun t ht hW => ⟨⟨_, (), rfl, rfl, wQA_of ht hP9 hD9⟩, hS.F ht⟩) hS.2.2 dL_seal_21

noncomputable abbrev rmL_burst : Room := { frames := 10, cells := 3, slots := 18, locals := 145 }
theorem ydL_burst : yL_burst.cls ≠ "java/lang/invoke/MethodHandle" ∧ yL_burst.cls ≠ "java/lang/invoke/VarHandle" ∧ (parseMethodDescriptor yL_burst.desc).map (fun d => d.parameters.length) = some 5 := by decide +kernel
noncomputable def F_L_burst (c_q0_acts : Int32) (c_q0_refusals : Int32) (f_q0_forms : Nat → Int64) (c_q4_n : Int64) (p1 : Int32) (p2 : Int32) (p3 : Int32) : Option (Int32 × Int32 × Int32 × (Nat → Int64) × Int64) :=
 obn5 (F_X7_burst c_q0_acts c_q0_refusals f_q0_forms p1 p2 p3) (fun xc6 r6 c_q0_acts_6 c_q0_refusals_6 f_q0_forms_6 =>
 if xc6 = 0 then
 bnd r6.toInt64 (fun c_q4_n_10 =>
 some ((0 : Int32), c_q0_acts_6, c_q0_refusals_6, f_q0_forms_6, c_q4_n_10))
else
 (if xc6 = 1 then
 some ((1 : Int32), c_q0_acts_6, c_q0_refusals_6, f_q0_forms_6, c_q4_n)
else
 (if xc6 = 2 then
 some ((2 : Int32), c_q0_acts_6, c_q0_refusals_6, f_q0_forms_6, c_q4_n)
else
 none)))
set_option maxHeartbeats 4000000 in
set_option maxRecDepth 100000 in
theorem c_L_burst (l : Launch) (hfl : l.stackTraces = false) (D : va_G) (cyJ : ClassId) (sz : Nat) (a_q0 : Nat) (a_q4 : Nat) (a_q0_forms : Nat) (a_q0_roll : Nat) (a_q0_row : Nat) (a_q0_rows : Nat) (a_q0_factors : Nat) (a_q0_found : Nat) (a_q0_foundOtherwise : Nat) (c_q0_acts : Int32) (c_q0_refusals : Int32) (c_q0_knocks : Int32) (f_q0_forms : Nat → Int64) (c_q4_n : Int64) (c_q4_s : Value) (p1 : Int32) (p2 : Int32) (p3 : Int32) (r0 : Int32) (o_c_q0_acts : Int32) (o_c_q0_refusals : Int32) (o_f_q0_forms : Nat → Int64) (o_c_q4_n : Int64) (hF : F_L_burst c_q0_acts c_q0_refusals f_q0_forms c_q4_n p1 p2 p3 = some (r0, o_c_q0_acts, o_c_q0_refusals, o_f_q0_forms, o_c_q4_n)) : vx_Met l yL_burst wsL_burst rmL_burst (va_Pc [.ref a_q0, .int p1, .int p2, .int p3, .ref a_q4] (wPL D [(cyJ, .long)] [(a_q0, .inr (6, [.ref a_q0_forms, .ref a_q0_roll, .ref a_q0_row, .ref a_q0_rows, .ref a_q0_factors, .ref a_q0_found, .ref a_q0_foundOtherwise, .int c_q0_acts, .int c_q0_refusals, .int c_q0_knocks])), (a_q0_forms, .inl (cyJ, 6, .inr (.inl f_q0_forms))), (a_q4, .inr (7, [.long c_q4_n, c_q4_s]))] sz)) (va_Qi (fun (r : Int32) (_ : Unit) => r = r0) (fun _ t => wQA D [(a_q0, .inr (6, [.ref a_q0_forms, .ref a_q0_roll, .ref a_q0_row, .ref a_q0_rows, .ref a_q0_factors, .ref a_q0_found, .ref a_q0_foundOtherwise, .int o_c_q0_acts, .int o_c_q0_refusals, .int c_q0_knocks])), (a_q0_forms, .inl (cyJ, 6, .inr (.inl o_f_q0_forms))), (a_q4, .inr (7, [.long o_c_q4_n, c_q4_s]))] (va_A [(a_q0, .inr (6, [.ref a_q0_forms, .ref a_q0_roll, .ref a_q0_row, .ref a_q0_rows, .ref a_q0_factors, .ref a_q0_found, .ref a_q0_foundOtherwise, .int c_q0_acts, .int c_q0_refusals, .int c_q0_knocks])), (a_q0_forms, .inl (cyJ, 6, .inr (.inl f_q0_forms))), (a_q4, .inr (7, [.long c_q4_n, c_q4_s]))] sz) t) (va_A [(a_q0, .inr (6, [.ref a_q0_forms, .ref a_q0_roll, .ref a_q0_row, .ref a_q0_rows, .ref a_q0_factors, .ref a_q0_found, .ref a_q0_foundOtherwise, .int c_q0_acts, .int c_q0_refusals, .int c_q0_knocks])), (a_q0_forms, .inl (cyJ, 6, .inr (.inl f_q0_forms))), (a_q4, .inr (7, [.long c_q4_n, c_q4_s]))] sz)) (fun _ _ _ => False) 3 18 (va_A [(a_q0, .inr (6, [.ref a_q0_forms, .ref a_q0_roll, .ref a_q0_row, .ref a_q0_rows, .ref a_q0_factors, .ref a_q0_found, .ref a_q0_foundOtherwise, .int c_q0_acts, .int c_q0_refusals, .int c_q0_knocks])), (a_q0_forms, .inl (cyJ, 6, .inr (.inl f_q0_forms))), (a_q4, .inr (7, [.long c_q4_n, c_q4_s]))] sz) := by
  refine vx_ofWH (cc := cL_burst) (maxL := 6) (ret := (some .int)) (hh := [(0, 13, 16, 19), (0, 13, 20, 21)]) (by decide) rfl ?_
  intro p e s m args below meth c s₁ B hml hv
  obtain ⟨rfl, ⟨⟨hsz, hP, hK, hD0, hnw⟩, hE⟩, hNc⟩ := hv
  have hx := B.exec
  have hb := B.bytes
  have hr := B.returns
  have hts := atoms_spec (ws := wsL_burst) B.pre
  have hown : s.vm.findClass RL = some m.cls := findClass_of_methodNamed B.named
  have hlocks := B.notSynchronized
  have hcf : CallFix _ _ _ _ _ _ _ _ _ := ⟨hx, hb, hml, hown, hts⟩
  have hxt : c.exceptionTable.toList = tableOf [(0, 13, 16, 19), (0, 13, 20, 21)] := vx_table (x := yL_burst) B (hts _ List.mem_cons_self)
  have hinX8 : ∀ w ∈ u_ws RX8 TX8 2, w ∈ wsL_burst := by decide +kernel
  have hfl13 := hnw.use (A := ([.ref a_q0, .int p1, .int p2, .int p3, .ref a_q4] : List Value).toArray) (w := .fieldLinkNest RL 13 "FormwheelLaw$Out" "n" "J" "FormwheelLaw") (by decide +kernel)
  subst hsz
  have hD := hD0.self (sz := s.heap.size)
  generalize hAe : va_A [(a_q0, .inr (6, [.ref a_q0_forms, .ref a_q0_roll, .ref a_q0_row, .ref a_q0_rows, .ref a_q0_factors, .ref a_q0_found, .ref a_q0_foundOtherwise, .int c_q0_acts, .int c_q0_refusals, .int c_q0_knocks])), (a_q0_forms, .inl (cyJ, 6, .inr (.inl f_q0_forms))), (a_q4, .inr (7, [.long c_q4_n, c_q4_s]))] s.heap.size = A at hD hE ⊢
  have hA : ∀ q : Nat, s.heap.size ≤ q → A q := fun q h => by rw [← hAe]; exact Or.inr h
  have hS : va_S A s.heap s.heap [] := va_S.rf
  have hP : va_P D vwCl [(a_q0, .inr (6, [.ref a_q0_forms, .ref a_q0_roll, .ref a_q0_row, .ref a_q0_rows, .ref a_q0_factors, .ref a_q0_found, .ref a_q0_foundOtherwise, .int c_q0_acts, .int c_q0_refusals, .int c_q0_knocks])), (a_q0_forms, .inl (cyJ, 6, .inr (.inl f_q0_forms))), (a_q4, .inr (7, [.long c_q4_n, c_q4_s]))] s.heap := hP
  have hK0 := hK
  have hl := lv_entry ([.ref a_q0, .int p1, .int p2, .int p3, .ref a_q4]) (n := 6) (Nat.le_of_ble_eq_true rfl)
  rw [lg_entry_eq]
  generalize (lg_sl ([.ref a_q0, .int p1, .int p2, .int p3, .ref a_q4]) ++ List.replicate (6 - (lg_sl ([.ref a_q0, .int p1, .int p2, .int p3, .ref a_q4])).length) Slot.unset).toArray = ls at hl ⊢
  have hl : lv_has ls 6 [(0, .ref a_q0), (1, .int p1), (2, .int p2), (3, .int p3), (4, .ref a_q4)] := hl
  have h := hF
  clear hF
  unfold F_L_burst at h
  refine lv_aload hx hb dL_burst_0 (lv_at hl 4 rfl) ?_
  refine lv_aload_n hx hb dL_burst_2 rfl (lv_at hl 0 rfl) ?_
  refine lv_iload_n hx hb dL_burst_3 rfl (lv_at hl 1 rfl) ?_
  refine lv_iload_n hx hb dL_burst_4 rfl (lv_at hl 2 rfl) ?_
  refine lv_iload_n hx hb dL_burst_5 rfl (lv_at hl 3 rfl) ?_
  obtain ⟨xc6, r6, c_q0_acts_6, c_q0_refusals_6, f_q0_forms_6, hc6, h⟩ := obn5_h h
  have hPc := hP.sub (ws' := [(a_q0, .inr (6, [.ref a_q0_forms, .ref a_q0_roll, .ref a_q0_row, .ref a_q0_rows, .ref a_q0_factors, .ref a_q0_found, .ref a_q0_foundOtherwise, .int c_q0_acts, .int c_q0_refusals, .int c_q0_knocks])), (a_q0_forms, .inl (cyJ, 6, .inr (.inl f_q0_forms)))]) [0, 1] rfl
  have hDc := hD.sub (ws' := [(a_q0, .inr (6, [.ref a_q0_forms, .ref a_q0_roll, .ref a_q0_row, .ref a_q0_rows, .ref a_q0_factors, .ref a_q0_found, .ref a_q0_foundOtherwise, .int c_q0_acts, .int c_q0_refusals, .int c_q0_knocks])), (a_q0_forms, .inl (cyJ, 6, .inr (.inl f_q0_forms)))]) [0, 1] (by decide) rfl
  refine hx_i (w1 := [(a_q0, .inr (6, [.ref a_q0_forms, .ref a_q0_roll, .ref a_q0_row, .ref a_q0_rows, .ref a_q0_factors, .ref a_q0_found, .ref a_q0_foundOtherwise, .int c_q0_acts_6, .int c_q0_refusals_6, .int c_q0_knocks])), (a_q0_forms, .inl (cyJ, 6, .inr (.inl f_q0_forms_6)))]) (wr := [(a_q4, .inr (7, [.long c_q4_n, c_q4_s]))]) (vx_runV (As := [.int p1, .int p2, .int p3]) (rest := [.ref a_q4]) hcf (c_X7_burst l hfl D cyJ s.heap.size a_q0 a_q0_forms a_q0_roll a_q0_row a_q0_rows a_q0_factors a_q0_found a_q0_foundOtherwise c_q0_acts c_q0_refusals c_q0_knocks f_q0_forms p1 p2 p3 xc6 r6 c_q0_acts_6 c_q0_refusals_6 f_q0_forms_6 hc6) (cwV 3 hts gL_burst_X7_burst rfl rfl rfl ydX7_burst ⟨Nat.le_of_ble_eq_true rfl, Nat.le_of_ble_eq_true rfl⟩) ⟨bl_PX, va_recv hK hP (ci := 6) (q0 := 0) rfl rfl, pr_PX hPc hK0 hDc hnw hE hS (va_free hD hS hA [0, 1] rfl)⟩ rfl rfl hl.1 rfl (lv_room (Nat.le_of_ble_eq_true rfl)) dL_burst_6 ⟨Nat.le_of_ble_eq_true rfl, Nat.le_of_ble_eq_true rfl⟩) hP hD hS hA [0, 1] [2] rfl rfl (by decide) (by decide) (fun E9 ce9 q9 H locs hx9 hE9 hP hD hS hce9 hcv9 hcl9 => ?_) (fun hx9 H locs hP hD hS => ?_)
  · have h := if_ hx9 h
    have hP : va_P D vwCl [(a_q4, .inr (7, [.long c_q4_n, c_q4_s])), (a_q0, .inr (6, [.ref a_q0_forms, .ref a_q0_roll, .ref a_q0_row, .ref a_q0_rows, .ref a_q0_factors, .ref a_q0_found, .ref a_q0_foundOtherwise, .int c_q0_acts_6, .int c_q0_refusals_6, .int c_q0_knocks])), (a_q0_forms, .inl (cyJ, 6, .inr (.inl f_q0_forms_6)))] H := hP
    have hD : va_D A [(a_q4, .inr (7, [.long c_q4_n, c_q4_s])), (a_q0, .inr (6, [.ref a_q0_forms, .ref a_q0_roll, .ref a_q0_row, .ref a_q0_rows, .ref a_q0_factors, .ref a_q0_found, .ref a_q0_foundOtherwise, .int c_q0_acts_6, .int c_q0_refusals_6, .int c_q0_knocks])), (a_q0_forms, .inl (cyJ, 6, .inr (.inl f_q0_forms_6)))] := hD
    by_cases cx0 : xc6 = 1
    · have h := it_ cx0 h
      have hE1 : E9 = "java/lang/IndexOutOfBoundsException" := by rw [hE9, cx0]; rfl
      subst hE1
      refine vx_catch (name := "java/lang/IndexOutOfBoundsException") hown (tableOf []) ⟨0, 13, 16, 19⟩ (tableOf [(0, 13, 20, 21)]) hxt (fun z hz => absurd hz List.not_mem_nil) (by decide) (by decide) (hts (.classLink RL 19 "java/lang/IndexOutOfBoundsException") (by decide +kernel)) (va_Nw.use rfl (hE.2.1 (.castable "java/lang/IndexOutOfBoundsException" "java/lang/IndexOutOfBoundsException") (by decide +kernel))) hce9 hcv9 hcl9 ?_
      refine lv_astore (lv' := [(5, .ref q9), (0, .ref a_q0), (1, .int p1), (2, .int p2), (3, .int p3), (4, .ref a_q4)]) hx hb dL_burst_16 hl (by decide) rfl (fun ls hl => ?_)
      refine lv_iconst (v := 1) hx hb dL_burst_18 (by decide) ?_
      obtain ⟨e0, e1, e2, e3, e4⟩ := tup5 h
      subst e0
      subst e1
      subst e2
      subst e3
      subst e4
      have hP9 : va_P D vwCl [(a_q0, .inr (6, [.ref a_q0_forms, .ref a_q0_roll, .ref a_q0_row, .ref a_q0_rows, .ref a_q0_factors, .ref a_q0_found, .ref a_q0_foundOtherwise, .int c_q0_acts_6, .int c_q0_refusals_6, .int c_q0_knocks])), (a_q0_forms, .inl (cyJ, 6, .inr (.inl f_q0_forms_6))), (a_q4, .inr (7, [.long c_q4_n, c_q4_s]))] H := hP.sub [1, 2, 0] rfl
      have hD9 : va_D A [(a_q0, .inr (6, [.ref a_q0_forms, .ref a_q0_roll, .ref a_q0_row, .ref a_q0_rows, .ref a_q0_factors, .ref a_q0_found, .ref a_q0_foundOtherwise, .int c_q0_acts_6, .int c_q0_refusals_6, .int c_q0_knocks])), (a_q0_forms, .inl (cyJ, 6, .inr (.inl f_q0_forms_6))), (a_q4, .inr (7, [.long c_q4_n, c_q4_s]))] := hD.sub [1, 2, 0] (by decide) rfl
      refine vx_ret ?_
      exact W.iret hx hb hr (fun t ht hW => ⟨⟨_, (), rfl, rfl, wQA_of ht hP9 hD9⟩, hS.F ht⟩) hS.2.2 dL_burst_19
    have h := if_ cx0 h
    by_cases cx1 : xc6 = 2
    · have h := it_ cx1 h
      have hE1 : E9 = "java/lang/IllegalArgumentException" := by rw [hE9, cx1]; rfl
      subst hE1
      refine vx_catch (name := "java/lang/IllegalArgumentException") hown (tableOf [(0, 13, 16, 19)]) ⟨0, 13, 20, 21⟩ (tableOf []) hxt (fun z hz => by obtain rfl := List.mem_singleton.mp hz; exact Or.inr ⟨by decide, "java/lang/IndexOutOfBoundsException", hts (.classLink RL 19 "java/lang/IndexOutOfBoundsException") (by decide +kernel), hNc⟩) (by decide) (by decide) (hts (.classLink RL 21 "java/lang/IllegalArgumentException") (by decide +kernel)) (va_Nw.use rfl (hE.2.1 (.castable "java/lang/IllegalArgumentException" "java/lang/IllegalArgumentException") (by decide +kernel))) hce9 hcv9 hcl9 ?_
      refine lv_astore (lv' := [(5, .ref q9), (0, .ref a_q0), (1, .int p1), (2, .int p2), (3, .int p3), (4, .ref a_q4)]) hx hb dL_burst_20 hl (by decide) rfl (fun ls hl => ?_)
      refine lv_iconst (v := 2) hx hb dL_burst_22 (by decide) ?_
      obtain ⟨e0, e1, e2, e3, e4⟩ := tup5 h
      subst e0
      subst e1
      subst e2
      subst e3
      subst e4
      have hP9 : va_P D vwCl [(a_q0, .inr (6, [.ref a_q0_forms, .ref a_q0_roll, .ref a_q0_row, .ref a_q0_rows, .ref a_q0_factors, .ref a_q0_found, .ref a_q0_foundOtherwise, .int c_q0_acts_6, .int c_q0_refusals_6, .int c_q0_knocks])), (a_q0_forms, .inl (cyJ, 6, .inr (.inl f_q0_forms_6))), (a_q4, .inr (7, [.long c_q4_n, c_q4_s]))] H := hP.sub [1, 2, 0] rfl
      have hD9 : va_D A [(a_q0, .inr (6, [.ref a_q0_forms, .ref a_q0_roll, .ref a_q0_row, .ref a_q0_rows, .ref a_q0_factors, .ref a_q0_found, .ref a_q0_foundOtherwise, .int c_q0_acts_6, .int c_q0_refusals_6, .int c_q0_knocks])), (a_q0_forms, .inl (cyJ, 6, .inr (.inl f_q0_forms_6))), (a_q4, .inr (7, [.long c_q4_n, c_q4_s]))] := hD.sub [1, 2, 0] (by decide) rfl
      refine vx_ret ?_
      exact W.iret hx hb hr (fun t ht hW => ⟨⟨_, (), rfl, rfl, wQA_of ht hP9 hD9⟩, hS.F ht⟩) hS.2.2 dL_burst_23
    have h := if_ cx1 h
    cases h
  · have h := it_ hx9 h
    have hP : va_P D vwCl [(a_q4, .inr (7, [.long c_q4_n, c_q4_s])), (a_q0, .inr (6, [.ref a_q0_forms, .ref a_q0_roll, .ref a_q0_row, .ref a_q0_rows, .ref a_q0_factors, .ref a_q0_found, .ref a_q0_foundOtherwise, .int c_q0_acts_6, .int c_q0_refusals_6, .int c_q0_knocks])), (a_q0_forms, .inl (cyJ, 6, .inr (.inl f_q0_forms_6)))] H := hP
    have hD : va_D A [(a_q4, .inr (7, [.long c_q4_n, c_q4_s])), (a_q0, .inr (6, [.ref a_q0_forms, .ref a_q0_roll, .ref a_q0_row, .ref a_q0_rows, .ref a_q0_factors, .ref a_q0_found, .ref a_q0_foundOtherwise, .int c_q0_acts_6, .int c_q0_refusals_6, .int c_q0_knocks])), (a_q0_forms, .inl (cyJ, 6, .inr (.inl f_q0_forms_6)))] := hD
    refine lv_i2l (v := r6.toInt64) hx hb dL_burst_9 rfl ?_
    refine lv_topl (fun c_q4_n_10 e_c_q4_n_10 => ?_)
    have h := bnd_h e_c_q4_n_10 h
    refine va_putN (D := D) (ci := 7) (v := .long c_q4_n_10) (ty := .long) (C := RX8) (T := TX8) (N := 2) hx hb hts hinX8 tyX8 tyX8_ok nmX8 hown hK hP hD hS 0 rfl rfl 0 (by decide) hfl13 (fun _ h9 => h9) rfl (by decide +kernel) rfl rfl (Nat.le_of_ble_eq_true rfl) dL_burst_10 (fun H locs hP hD hS => ?_)
    have hP : va_P D vwCl [(a_q4, .inr (7, [.long c_q4_n_10, c_q4_s])), (a_q0, .inr (6, [.ref a_q0_forms, .ref a_q0_roll, .ref a_q0_row, .ref a_q0_rows, .ref a_q0_factors, .ref a_q0_found, .ref a_q0_foundOtherwise, .int c_q0_acts_6, .int c_q0_refusals_6, .int c_q0_knocks])), (a_q0_forms, .inl (cyJ, 6, .inr (.inl f_q0_forms_6)))] H := hP
    have hD : va_D A [(a_q4, .inr (7, [.long c_q4_n_10, c_q4_s])), (a_q0, .inr (6, [.ref a_q0_forms, .ref a_q0_roll, .ref a_q0_row, .ref a_q0_rows, .ref a_q0_factors, .ref a_q0_found, .ref a_q0_foundOtherwise, .int c_q0_acts_6, .int c_q0_refusals_6, .int c_q0_knocks])), (a_q0_forms, .inl (cyJ, 6, .inr (.inl f_q0_forms_6)))] := hD
    refine lv_goto (tgt := 24) hx hb dL_burst_13 (by decide) ?_
    refine lv_iconst (v := 0) hx hb dL_burst_24 (by decide) ?_
    obtain ⟨e0, e1, e2, e3, e4⟩ := tup5 h
    subst e0
    subst e1
    subst e2
    subst e3
    subst e4
    have hP9 : va_P D vwCl [(a_q0, .inr (6, [.ref a_q0_forms, .ref a_q0_roll, .ref a_q0_row, .ref a_q0_rows, .ref a_q0_factors, .ref a_q0_found, .ref a_q0_foundOtherwise, .int c_q0_acts_6, .int c_q0_refusals_6, .int c_q0_knocks])), (a_q0_forms, .inl (cyJ, 6, .inr (.inl f_q0_forms_6))), (a_q4, .inr (7, [.long c_q4_n_10, c_q4_s]))] H := hP.sub [1, 2, 0] rfl
    have hD9 : va_D A [(a_q0, .inr (6, [.ref a_q0_forms, .ref a_q0_roll, .ref a_q0_row, .ref a_q0_rows, .ref a_q0_factors, .ref a_q0_found, .ref a_q0_foundOtherwise, .int c_q0_acts_6, .int c_q0_refusals_6, .int c_q0_knocks])), (a_q0_forms, .inl (cyJ, 6, .inr (.inl f_q0_forms_6))), (a_q4, .inr (7, [.long c_q4_n_10, c_q4_s]))] := hD.sub [1, 2, 0] (by decide) rfl
    refine vx_ret ?_
    exact W.iret hx hb hr (fun t ht hW => ⟨⟨_, (), rfl, rfl, wQA_of ht hP9 hD9⟩, hS.F ht⟩) hS.2.2 dL_burst_25

noncomputable abbrev rmL_factor : Room := { frames := 10, cells := 2, slots := 12, locals := 183 }
theorem ydL_factor : yL_factor.cls ≠ "java/lang/invoke/MethodHandle" ∧ yL_factor.cls ≠ "java/lang/invoke/VarHandle" ∧ (parseMethodDescriptor yL_factor.desc).map (fun d => d.parameters.length) = some 4 := by decide +kernel
noncomputable def F_L_factor (c_q0_acts : Int32) (c_q0_refusals : Int32) (f_q0_forms : Nat → Int64) (c_q0_roll_size : Int32) (f_q0_roll_held : Nat → Int64) (f_q0_roll_before : Nat → Int64) (c_q0_factors_parts_size : Int32) (f_q0_factors_parts_held : Nat → Int64) (c_q3_n : Int64) (p1 : Int32) (p2 : Int32) : Option (Int32 × Int32 × Int32 × Int32 × (Nat → Int64) × (Nat → Int64) × Int32 × (Nat → Int64) × Int64) :=
 obn9 (F_X7_factor c_q0_acts c_q0_refusals f_q0_forms c_q0_roll_size f_q0_roll_held f_q0_roll_before c_q0_factors_parts_size f_q0_factors_parts_held p1 p2) (fun xc4 r4 c_q0_acts_4 c_q0_refusals_4 c_q0_roll_size_4 f_q0_roll_held_4 f_q0_roll_before_4 c_q0_factors_parts_size_4 f_q0_factors_parts_held_4 =>
 if xc4 = 0 then
 bnd r4.toInt64 (fun c_q3_n_8 =>
 some ((0 : Int32), c_q0_acts_4, c_q0_refusals_4, c_q0_roll_size_4, f_q0_roll_held_4, f_q0_roll_before_4, c_q0_factors_parts_size_4, f_q0_factors_parts_held_4, c_q3_n_8))
else
 (if xc4 = 1 then
 some ((1 : Int32), c_q0_acts_4, c_q0_refusals_4, c_q0_roll_size_4, f_q0_roll_held_4, f_q0_roll_before_4, c_q0_factors_parts_size_4, f_q0_factors_parts_held_4, c_q3_n)
else
 (if xc4 = 2 then
 some ((2 : Int32), c_q0_acts_4, c_q0_refusals_4, c_q0_roll_size_4, f_q0_roll_held_4, f_q0_roll_before_4, c_q0_factors_parts_size_4, f_q0_factors_parts_held_4, c_q3_n)
else
 none)))
set_option maxHeartbeats 4000000 in
set_option maxRecDepth 100000 in
theorem c_L_factor (l : Launch) (hfl : l.stackTraces = false) (D : va_G) (cyJ : ClassId) (sz : Nat) (a_q0 : Nat) (a_q3 : Nat) (a_q0_forms : Nat) (a_q0_roll : Nat) (a_q0_row : Nat) (a_q0_rows : Nat) (a_q0_factors : Nat) (a_q0_found : Nat) (a_q0_foundOtherwise : Nat) (a_q0_roll_held : Nat) (a_q0_roll_before : Nat) (a_q0_factors_parts : Nat) (a_q0_factors_parts_held : Nat) (a_q0_factors_parts_before : Nat) (c_q0_acts : Int32) (c_q0_refusals : Int32) (c_q0_knocks : Int32) (f_q0_forms : Nat → Int64) (c_q0_roll_size : Int32) (f_q0_roll_held : Nat → Int64) (f_q0_roll_before : Nat → Int64) (c_q0_factors_parts_size : Int32) (f_q0_factors_parts_held : Nat → Int64) (c_q3_n : Int64) (c_q3_s : Value) (p1 : Int32) (p2 : Int32) (r0 : Int32) (o_c_q0_acts : Int32) (o_c_q0_refusals : Int32) (o_c_q0_roll_size : Int32) (o_f_q0_roll_held : Nat → Int64) (o_f_q0_roll_before : Nat → Int64) (o_c_q0_factors_parts_size : Int32) (o_f_q0_factors_parts_held : Nat → Int64) (o_c_q3_n : Int64) (hF : F_L_factor c_q0_acts c_q0_refusals f_q0_forms c_q0_roll_size f_q0_roll_held f_q0_roll_before c_q0_factors_parts_size f_q0_factors_parts_held c_q3_n p1 p2 = some (r0, o_c_q0_acts, o_c_q0_refusals, o_c_q0_roll_size, o_f_q0_roll_held, o_f_q0_roll_before, o_c_q0_factors_parts_size, o_f_q0_factors_parts_held, o_c_q3_n)) : vx_Met l yL_factor wsL_factor rmL_factor (va_Pc [.ref a_q0, .int p1, .int p2, .ref a_q3] (wPL D [(cyJ, .long)] [(a_q0, .inr (6, [.ref a_q0_forms, .ref a_q0_roll, .ref a_q0_row, .ref a_q0_rows, .ref a_q0_factors, .ref a_q0_found, .ref a_q0_foundOtherwise, .int c_q0_acts, .int c_q0_refusals, .int c_q0_knocks])), (a_q0_forms, .inl (cyJ, 6, .inr (.inl f_q0_forms))), (a_q0_roll, .inr (3, [.ref a_q0_roll_held, .ref a_q0_roll_before, .int c_q0_roll_size])), (a_q0_roll_held, .inl (cyJ, 12, .inr (.inl f_q0_roll_held))), (a_q0_roll_before, .inl (cyJ, 12, .inr (.inl f_q0_roll_before))), (a_q0_factors, .inr (2, [.ref a_q0_factors_parts])), (a_q0_factors_parts, .inr (3, [.ref a_q0_factors_parts_held, .ref a_q0_factors_parts_before, .int c_q0_factors_parts_size])), (a_q0_factors_parts_held, .inl (cyJ, 12, .inr (.inl f_q0_factors_parts_held))), (a_q3, .inr (7, [.long c_q3_n, c_q3_s]))] sz)) (va_Qi (fun (r : Int32) (_ : Unit) => r = r0) (fun _ t => wQA D [(a_q0, .inr (6, [.ref a_q0_forms, .ref a_q0_roll, .ref a_q0_row, .ref a_q0_rows, .ref a_q0_factors, .ref a_q0_found, .ref a_q0_foundOtherwise, .int o_c_q0_acts, .int o_c_q0_refusals, .int c_q0_knocks])), (a_q0_forms, .inl (cyJ, 6, .inr (.inl f_q0_forms))), (a_q0_roll, .inr (3, [.ref a_q0_roll_held, .ref a_q0_roll_before, .int o_c_q0_roll_size])), (a_q0_roll_held, .inl (cyJ, 12, .inr (.inl o_f_q0_roll_held))), (a_q0_roll_before, .inl (cyJ, 12, .inr (.inl o_f_q0_roll_before))), (a_q0_factors, .inr (2, [.ref a_q0_factors_parts])), (a_q0_factors_parts, .inr (3, [.ref a_q0_factors_parts_held, .ref a_q0_factors_parts_before, .int o_c_q0_factors_parts_size])), (a_q0_factors_parts_held, .inl (cyJ, 12, .inr (.inl o_f_q0_factors_parts_held))), (a_q3, .inr (7, [.long o_c_q3_n, c_q3_s]))] (va_A [(a_q0, .inr (6, [.ref a_q0_forms, .ref a_q0_roll, .ref a_q0_row, .ref a_q0_rows, .ref a_q0_factors, .ref a_q0_found, .ref a_q0_foundOtherwise, .int c_q0_acts, .int c_q0_refusals, .int c_q0_knocks])), (a_q0_forms, .inl (cyJ, 6, .inr (.inl f_q0_forms))), (a_q0_roll, .inr (3, [.ref a_q0_roll_held, .ref a_q0_roll_before, .int c_q0_roll_size])), (a_q0_roll_held, .inl (cyJ, 12, .inr (.inl f_q0_roll_held))), (a_q0_roll_before, .inl (cyJ, 12, .inr (.inl f_q0_roll_before))), (a_q0_factors, .inr (2, [.ref a_q0_factors_parts])), (a_q0_factors_parts, .inr (3, [.ref a_q0_factors_parts_held, .ref a_q0_factors_parts_before, .int c_q0_factors_parts_size])), (a_q0_factors_parts_held, .inl (cyJ, 12, .inr (.inl f_q0_factors_parts_held))), (a_q3, .inr (7, [.long c_q3_n, c_q3_s]))] sz) t) (va_A [(a_q0, .inr (6, [.ref a_q0_forms, .ref a_q0_roll, .ref a_q0_row, .ref a_q0_rows, .ref a_q0_factors, .ref a_q0_found, .ref a_q0_foundOtherwise, .int c_q0_acts, .int c_q0_refusals, .int c_q0_knocks])), (a_q0_forms, .inl (cyJ, 6, .inr (.inl f_q0_forms))), (a_q0_roll, .inr (3, [.ref a_q0_roll_held, .ref a_q0_roll_before, .int c_q0_roll_size])), (a_q0_roll_held, .inl (cyJ, 12, .inr (.inl f_q0_roll_held))), (a_q0_roll_before, .inl (cyJ, 12, .inr (.inl f_q0_roll_before))), (a_q0_factors, .inr (2, [.ref a_q0_factors_parts])), (a_q0_factors_parts, .inr (3, [.ref a_q0_factors_parts_held, .ref a_q0_factors_parts_before, .int c_q0_factors_parts_size])), (a_q0_factors_parts_held, .inl (cyJ, 12, .inr (.inl f_q0_factors_parts_held))), (a_q3, .inr (7, [.long c_q3_n, c_q3_s]))] sz)) (fun _ _ _ => False) 2 12 (va_A [(a_q0, .inr (6, [.ref a_q0_forms, .ref a_q0_roll, .ref a_q0_row, .ref a_q0_rows, .ref a_q0_factors, .ref a_q0_found, .ref a_q0_foundOtherwise, .int c_q0_acts, .int c_q0_refusals, .int c_q0_knocks])), (a_q0_forms, .inl (cyJ, 6, .inr (.inl f_q0_forms))), (a_q0_roll, .inr (3, [.ref a_q0_roll_held, .ref a_q0_roll_before, .int c_q0_roll_size])), (a_q0_roll_held, .inl (cyJ, 12, .inr (.inl f_q0_roll_held))), (a_q0_roll_before, .inl (cyJ, 12, .inr (.inl f_q0_roll_before))), (a_q0_factors, .inr (2, [.ref a_q0_factors_parts])), (a_q0_factors_parts, .inr (3, [.ref a_q0_factors_parts_held, .ref a_q0_factors_parts_before, .int c_q0_factors_parts_size])), (a_q0_factors_parts_held, .inl (cyJ, 12, .inr (.inl f_q0_factors_parts_held))), (a_q3, .inr (7, [.long c_q3_n, c_q3_s]))] sz) := by
  refine vx_ofWH (cc := cL_factor) (maxL := 5) (ret := (some .int)) (hh := [(0, 11, 14, 19), (0, 11, 18, 21)]) (by decide) rfl ?_
  intro p e s m args below meth c s₁ B hml hv
  obtain ⟨rfl, ⟨⟨hsz, hP, hK, hD0, hnw⟩, hE⟩, hNc⟩ := hv
  have hx := B.exec
  have hb := B.bytes
  have hr := B.returns
  have hts := atoms_spec (ws := wsL_factor) B.pre
  have hown : s.vm.findClass RL = some m.cls := findClass_of_methodNamed B.named
  have hlocks := B.notSynchronized
  have hcf : CallFix _ _ _ _ _ _ _ _ _ := ⟨hx, hb, hml, hown, hts⟩
  have hxt : c.exceptionTable.toList = tableOf [(0, 11, 14, 19), (0, 11, 18, 21)] := vx_table (x := yL_factor) B (hts _ List.mem_cons_self)
  have hinX8 : ∀ w ∈ u_ws RX8 TX8 2, w ∈ wsL_factor := by decide +kernel
  have hfl13 := hnw.use (A := ([.ref a_q0, .int p1, .int p2, .ref a_q3] : List Value).toArray) (w := .fieldLinkNest RL 13 "FormwheelLaw$Out" "n" "J" "FormwheelLaw") (by decide +kernel)
  subst hsz
  have hD := hD0.self (sz := s.heap.size)
  generalize hAe : va_A [(a_q0, .inr (6, [.ref a_q0_forms, .ref a_q0_roll, .ref a_q0_row, .ref a_q0_rows, .ref a_q0_factors, .ref a_q0_found, .ref a_q0_foundOtherwise, .int c_q0_acts, .int c_q0_refusals, .int c_q0_knocks])), (a_q0_forms, .inl (cyJ, 6, .inr (.inl f_q0_forms))), (a_q0_roll, .inr (3, [.ref a_q0_roll_held, .ref a_q0_roll_before, .int c_q0_roll_size])), (a_q0_roll_held, .inl (cyJ, 12, .inr (.inl f_q0_roll_held))), (a_q0_roll_before, .inl (cyJ, 12, .inr (.inl f_q0_roll_before))), (a_q0_factors, .inr (2, [.ref a_q0_factors_parts])), (a_q0_factors_parts, .inr (3, [.ref a_q0_factors_parts_held, .ref a_q0_factors_parts_before, .int c_q0_factors_parts_size])), (a_q0_factors_parts_held, .inl (cyJ, 12, .inr (.inl f_q0_factors_parts_held))), (a_q3, .inr (7, [.long c_q3_n, c_q3_s]))] s.heap.size = A at hD hE ⊢
  have hA : ∀ q : Nat, s.heap.size ≤ q → A q := fun q h => by rw [← hAe]; exact Or.inr h
  have hS : va_S A s.heap s.heap [] := va_S.rf
  have hP : va_P D vwCl [(a_q0, .inr (6, [.ref a_q0_forms, .ref a_q0_roll, .ref a_q0_row, .ref a_q0_rows, .ref a_q0_factors, .ref a_q0_found, .ref a_q0_foundOtherwise, .int c_q0_acts, .int c_q0_refusals, .int c_q0_knocks])), (a_q0_forms, .inl (cyJ, 6, .inr (.inl f_q0_forms))), (a_q0_roll, .inr (3, [.ref a_q0_roll_held, .ref a_q0_roll_before, .int c_q0_roll_size])), (a_q0_roll_held, .inl (cyJ, 12, .inr (.inl f_q0_roll_held))), (a_q0_roll_before, .inl (cyJ, 12, .inr (.inl f_q0_roll_before))), (a_q0_factors, .inr (2, [.ref a_q0_factors_parts])), (a_q0_factors_parts, .inr (3, [.ref a_q0_factors_parts_held, .ref a_q0_factors_parts_before, .int c_q0_factors_parts_size])), (a_q0_factors_parts_held, .inl (cyJ, 12, .inr (.inl f_q0_factors_parts_held))), (a_q3, .inr (7, [.long c_q3_n, c_q3_s]))] s.heap := hP
  have hK0 := hK
  have hl := lv_entry ([.ref a_q0, .int p1, .int p2, .ref a_q3]) (n := 5) (Nat.le_of_ble_eq_true rfl)
  rw [lg_entry_eq]
  generalize (lg_sl ([.ref a_q0, .int p1, .int p2, .ref a_q3]) ++ List.replicate (5 - (lg_sl ([.ref a_q0, .int p1, .int p2, .ref a_q3])).length) Slot.unset).toArray = ls at hl ⊢
  have hl : lv_has ls 5 [(0, .ref a_q0), (1, .int p1), (2, .int p2), (3, .ref a_q3)] := hl
  have h := hF
  clear hF
  unfold F_L_factor at h
  refine lv_aload_n hx hb dL_factor_0 rfl (lv_at hl 3 rfl) ?_
  refine lv_aload_n hx hb dL_factor_1 rfl (lv_at hl 0 rfl) ?_
  refine lv_iload_n hx hb dL_factor_2 rfl (lv_at hl 1 rfl) ?_
  refine lv_iload_n hx hb dL_factor_3 rfl (lv_at hl 2 rfl) ?_
  obtain ⟨xc4, r4, c_q0_acts_4, c_q0_refusals_4, c_q0_roll_size_4, f_q0_roll_held_4, f_q0_roll_before_4, c_q0_factors_parts_size_4, f_q0_factors_parts_held_4, hc4, h⟩ := obn9_h h
  have hPc := hP.sub (ws' := [(a_q0, .inr (6, [.ref a_q0_forms, .ref a_q0_roll, .ref a_q0_row, .ref a_q0_rows, .ref a_q0_factors, .ref a_q0_found, .ref a_q0_foundOtherwise, .int c_q0_acts, .int c_q0_refusals, .int c_q0_knocks])), (a_q0_forms, .inl (cyJ, 6, .inr (.inl f_q0_forms))), (a_q0_roll, .inr (3, [.ref a_q0_roll_held, .ref a_q0_roll_before, .int c_q0_roll_size])), (a_q0_roll_held, .inl (cyJ, 12, .inr (.inl f_q0_roll_held))), (a_q0_roll_before, .inl (cyJ, 12, .inr (.inl f_q0_roll_before))), (a_q0_factors, .inr (2, [.ref a_q0_factors_parts])), (a_q0_factors_parts, .inr (3, [.ref a_q0_factors_parts_held, .ref a_q0_factors_parts_before, .int c_q0_factors_parts_size])), (a_q0_factors_parts_held, .inl (cyJ, 12, .inr (.inl f_q0_factors_parts_held)))]) [0, 1, 2, 3, 4, 5, 6, 7] rfl
  have hDc := hD.sub (ws' := [(a_q0, .inr (6, [.ref a_q0_forms, .ref a_q0_roll, .ref a_q0_row, .ref a_q0_rows, .ref a_q0_factors, .ref a_q0_found, .ref a_q0_foundOtherwise, .int c_q0_acts, .int c_q0_refusals, .int c_q0_knocks])), (a_q0_forms, .inl (cyJ, 6, .inr (.inl f_q0_forms))), (a_q0_roll, .inr (3, [.ref a_q0_roll_held, .ref a_q0_roll_before, .int c_q0_roll_size])), (a_q0_roll_held, .inl (cyJ, 12, .inr (.inl f_q0_roll_held))), (a_q0_roll_before, .inl (cyJ, 12, .inr (.inl f_q0_roll_before))), (a_q0_factors, .inr (2, [.ref a_q0_factors_parts])), (a_q0_factors_parts, .inr (3, [.ref a_q0_factors_parts_held, .ref a_q0_factors_parts_before, .int c_q0_factors_parts_size])), (a_q0_factors_parts_held, .inl (cyJ, 12, .inr (.inl f_q0_factors_parts_held)))]) [0, 1, 2, 3, 4, 5, 6, 7] (by decide) rfl
  refine hx_i (w1 := [(a_q0, .inr (6, [.ref a_q0_forms, .ref a_q0_roll, .ref a_q0_row, .ref a_q0_rows, .ref a_q0_factors, .ref a_q0_found, .ref a_q0_foundOtherwise, .int c_q0_acts_4, .int c_q0_refusals_4, .int c_q0_knocks])), (a_q0_forms, .inl (cyJ, 6, .inr (.inl f_q0_forms))), (a_q0_roll, .inr (3, [.ref a_q0_roll_held, .ref a_q0_roll_before, .int c_q0_roll_size_4])), (a_q0_roll_held, .inl (cyJ, 12, .inr (.inl f_q0_roll_held_4))), (a_q0_roll_before, .inl (cyJ, 12, .inr (.inl f_q0_roll_before_4))), (a_q0_factors, .inr (2, [.ref a_q0_factors_parts])), (a_q0_factors_parts, .inr (3, [.ref a_q0_factors_parts_held, .ref a_q0_factors_parts_before, .int c_q0_factors_parts_size_4])), (a_q0_factors_parts_held, .inl (cyJ, 12, .inr (.inl f_q0_factors_parts_held_4)))]) (wr := [(a_q3, .inr (7, [.long c_q3_n, c_q3_s]))]) (vx_runV (As := [.int p1, .int p2]) (rest := [.ref a_q3]) hcf (c_X7_factor l hfl D cyJ s.heap.size a_q0 a_q0_forms a_q0_roll a_q0_row a_q0_rows a_q0_factors a_q0_found a_q0_foundOtherwise a_q0_roll_held a_q0_roll_before a_q0_factors_parts a_q0_factors_parts_held a_q0_factors_parts_before c_q0_acts c_q0_refusals c_q0_knocks f_q0_forms c_q0_roll_size f_q0_roll_held f_q0_roll_before c_q0_factors_parts_size f_q0_factors_parts_held p1 p2 xc4 r4 c_q0_acts_4 c_q0_refusals_4 c_q0_roll_size_4 f_q0_roll_held_4 f_q0_roll_before_4 c_q0_factors_parts_size_4 f_q0_factors_parts_held_4 hc4) (cwV 2 hts gL_factor_X7_factor rfl rfl rfl ydX7_factor ⟨Nat.le_of_ble_eq_true rfl, Nat.le_of_ble_eq_true rfl⟩) ⟨bl_PX, va_recv hK hP (ci := 6) (q0 := 0) rfl rfl, pr_PX hPc hK0 hDc hnw hE hS (va_free hD hS hA [0, 1, 2, 3, 4, 5, 6, 7] rfl)⟩ rfl rfl hl.1 rfl (lv_room (Nat.le_of_ble_eq_true rfl)) dL_factor_4 ⟨Nat.le_of_ble_eq_true rfl, Nat.le_of_ble_eq_true rfl⟩) hP hD hS hA [0, 1, 2, 3, 4, 5, 6, 7] [8] rfl rfl (by decide) (by decide) (fun E9 ce9 q9 H locs hx9 hE9 hP hD hS hce9 hcv9 hcl9 => ?_) (fun hx9 H locs hP hD hS => ?_)
  · have h := if_ hx9 h
    have hP : va_P D vwCl [(a_q3, .inr (7, [.long c_q3_n, c_q3_s])), (a_q0, .inr (6, [.ref a_q0_forms, .ref a_q0_roll, .ref a_q0_row, .ref a_q0_rows, .ref a_q0_factors, .ref a_q0_found, .ref a_q0_foundOtherwise, .int c_q0_acts_4, .int c_q0_refusals_4, .int c_q0_knocks])), (a_q0_forms, .inl (cyJ, 6, .inr (.inl f_q0_forms))), (a_q0_roll, .inr (3, [.ref a_q0_roll_held, .ref a_q0_roll_before, .int c_q0_roll_size_4])), (a_q0_roll_held, .inl (cyJ, 12, .inr (.inl f_q0_roll_held_4))), (a_q0_roll_before, .inl (cyJ, 12, .inr (.inl f_q0_roll_before_4))), (a_q0_factors, .inr (2, [.ref a_q0_factors_parts])), (a_q0_factors_parts, .inr (3, [.ref a_q0_factors_parts_held, .ref a_q0_factors_parts_before, .int c_q0_factors_parts_size_4])), (a_q0_factors_parts_held, .inl (cyJ, 12, .inr (.inl f_q0_factors_parts_held_4)))] H := hP
    have hD : va_D A [(a_q3, .inr (7, [.long c_q3_n, c_q3_s])), (a_q0, .inr (6, [.ref a_q0_forms, .ref a_q0_roll, .ref a_q0_row, .ref a_q0_rows, .ref a_q0_factors, .ref a_q0_found, .ref a_q0_foundOtherwise, .int c_q0_acts_4, .int c_q0_refusals_4, .int c_q0_knocks])), (a_q0_forms, .inl (cyJ, 6, .inr (.inl f_q0_forms))), (a_q0_roll, .inr (3, [.ref a_q0_roll_held, .ref a_q0_roll_before, .int c_q0_roll_size_4])), (a_q0_roll_held, .inl (cyJ, 12, .inr (.inl f_q0_roll_held_4))), (a_q0_roll_before, .inl (cyJ, 12, .inr (.inl f_q0_roll_before_4))), (a_q0_factors, .inr (2, [.ref a_q0_factors_parts])), (a_q0_factors_parts, .inr (3, [.ref a_q0_factors_parts_held, .ref a_q0_factors_parts_before, .int c_q0_factors_parts_size_4])), (a_q0_factors_parts_held, .inl (cyJ, 12, .inr (.inl f_q0_factors_parts_held_4)))] := hD
    by_cases cx0 : xc4 = 1
    · have h := it_ cx0 h
      have hE1 : E9 = "java/lang/IndexOutOfBoundsException" := by rw [hE9, cx0]; rfl
      subst hE1
      refine vx_catch (name := "java/lang/IndexOutOfBoundsException") hown (tableOf []) ⟨0, 11, 14, 19⟩ (tableOf [(0, 11, 18, 21)]) hxt (fun z hz => absurd hz List.not_mem_nil) (by decide) (by decide) (hts (.classLink RL 19 "java/lang/IndexOutOfBoundsException") (by decide +kernel)) (va_Nw.use rfl (hE.2.1 (.castable "java/lang/IndexOutOfBoundsException" "java/lang/IndexOutOfBoundsException") (by decide +kernel))) hce9 hcv9 hcl9 ?_
      refine lv_astore (lv' := [(4, .ref q9), (0, .ref a_q0), (1, .int p1), (2, .int p2), (3, .ref a_q3)]) hx hb dL_factor_14 hl (by decide) rfl (fun ls hl => ?_)
      refine lv_iconst (v := 1) hx hb dL_factor_16 (by decide) ?_
      obtain ⟨e0, e1, e2, e3, e4, e5, e6, e7, e8⟩ := tup9 h
      subst e0
      subst e1
      subst e2
      subst e3
      subst e4
      subst e5
      subst e6
      subst e7
      subst e8
      have hP9 : va_P D vwCl [(a_q0, .inr (6, [.ref a_q0_forms, .ref a_q0_roll, .ref a_q0_row, .ref a_q0_rows, .ref a_q0_factors, .ref a_q0_found, .ref a_q0_foundOtherwise, .int c_q0_acts_4, .int c_q0_refusals_4, .int c_q0_knocks])), (a_q0_forms, .inl (cyJ, 6, .inr (.inl f_q0_forms))), (a_q0_roll, .inr (3, [.ref a_q0_roll_held, .ref a_q0_roll_before, .int c_q0_roll_size_4])), (a_q0_roll_held, .inl (cyJ, 12, .inr (.inl f_q0_roll_held_4))), (a_q0_roll_before, .inl (cyJ, 12, .inr (.inl f_q0_roll_before_4))), (a_q0_factors, .inr (2, [.ref a_q0_factors_parts])), (a_q0_factors_parts, .inr (3, [.ref a_q0_factors_parts_held, .ref a_q0_factors_parts_before, .int c_q0_factors_parts_size_4])), (a_q0_factors_parts_held, .inl (cyJ, 12, .inr (.inl f_q0_factors_parts_held_4))), (a_q3, .inr (7, [.long c_q3_n, c_q3_s]))] H := hP.sub [1, 2, 3, 4, 5, 6, 7, 8, 0] rfl
      have hD9 : va_D A [(a_q0, .inr (6, [.ref a_q0_forms, .ref a_q0_roll, .ref a_q0_row, .ref a_q0_rows, .ref a_q0_factors, .ref a_q0_found, .ref a_q0_foundOtherwise, .int c_q0_acts_4, .int c_q0_refusals_4, .int c_q0_knocks])), (a_q0_forms, .inl (cyJ, 6, .inr (.inl f_q0_forms))), (a_q0_roll, .inr (3, [.ref a_q0_roll_held, .ref a_q0_roll_before, .int c_q0_roll_size_4])), (a_q0_roll_held, .inl (cyJ, 12, .inr (.inl f_q0_roll_held_4))), (a_q0_roll_before, .inl (cyJ, 12, .inr (.inl f_q0_roll_before_4))), (a_q0_factors, .inr (2, [.ref a_q0_factors_parts])), (a_q0_factors_parts, .inr (3, [.ref a_q0_factors_parts_held, .ref a_q0_factors_parts_before, .int c_q0_factors_parts_size_4])), (a_q0_factors_parts_held, .inl (cyJ, 12, .inr (.inl f_q0_factors_parts_held_4))), (a_q3, .inr (7, [.long c_q3_n, c_q3_s]))] := hD.sub [1, 2, 3, 4, 5, 6, 7, 8, 0] (by decide) rfl
      refine vx_ret ?_
      exact W.iret hx hb hr (fun t ht hW => ⟨⟨_, (), rfl, rfl, wQA_of ht hP9 hD9⟩, hS.F ht⟩) hS.2.2 dL_factor_17
    have h := if_ cx0 h
    by_cases cx1 : xc4 = 2
    · have h := it_ cx1 h
      have hE1 : E9 = "java/lang/IllegalArgumentException" := by rw [hE9, cx1]; rfl
      subst hE1
      refine vx_catch (name := "java/lang/IllegalArgumentException") hown (tableOf [(0, 11, 14, 19)]) ⟨0, 11, 18, 21⟩ (tableOf []) hxt (fun z hz => by obtain rfl := List.mem_singleton.mp hz; exact Or.inr ⟨by decide, "java/lang/IndexOutOfBoundsException", hts (.classLink RL 19 "java/lang/IndexOutOfBoundsException") (by decide +kernel), hNc⟩) (by decide) (by decide) (hts (.classLink RL 21 "java/lang/IllegalArgumentException") (by decide +kernel)) (va_Nw.use rfl (hE.2.1 (.castable "java/lang/IllegalArgumentException" "java/lang/IllegalArgumentException") (by decide +kernel))) hce9 hcv9 hcl9 ?_
      refine lv_astore (lv' := [(4, .ref q9), (0, .ref a_q0), (1, .int p1), (2, .int p2), (3, .ref a_q3)]) hx hb dL_factor_18 hl (by decide) rfl (fun ls hl => ?_)
      refine lv_iconst (v := 2) hx hb dL_factor_20 (by decide) ?_
      obtain ⟨e0, e1, e2, e3, e4, e5, e6, e7, e8⟩ := tup9 h
      subst e0
      subst e1
      subst e2
      subst e3
      subst e4
      subst e5
      subst e6
      subst e7
      subst e8
      have hP9 : va_P D vwCl [(a_q0, .inr (6, [.ref a_q0_forms, .ref a_q0_roll, .ref a_q0_row, .ref a_q0_rows, .ref a_q0_factors, .ref a_q0_found, .ref a_q0_foundOtherwise, .int c_q0_acts_4, .int c_q0_refusals_4, .int c_q0_knocks])), (a_q0_forms, .inl (cyJ, 6, .inr (.inl f_q0_forms))), (a_q0_roll, .inr (3, [.ref a_q0_roll_held, .ref a_q0_roll_before, .int c_q0_roll_size_4])), (a_q0_roll_held, .inl (cyJ, 12, .inr (.inl f_q0_roll_held_4))), (a_q0_roll_before, .inl (cyJ, 12, .inr (.inl f_q0_roll_before_4))), (a_q0_factors, .inr (2, [.ref a_q0_factors_parts])), (a_q0_factors_parts, .inr (3, [.ref a_q0_factors_parts_held, .ref a_q0_factors_parts_before, .int c_q0_factors_parts_size_4])), (a_q0_factors_parts_held, .inl (cyJ, 12, .inr (.inl f_q0_factors_parts_held_4))), (a_q3, .inr (7, [.long c_q3_n, c_q3_s]))] H := hP.sub [1, 2, 3, 4, 5, 6, 7, 8, 0] rfl
      have hD9 : va_D A [(a_q0, .inr (6, [.ref a_q0_forms, .ref a_q0_roll, .ref a_q0_row, .ref a_q0_rows, .ref a_q0_factors, .ref a_q0_found, .ref a_q0_foundOtherwise, .int c_q0_acts_4, .int c_q0_refusals_4, .int c_q0_knocks])), (a_q0_forms, .inl (cyJ, 6, .inr (.inl f_q0_forms))), (a_q0_roll, .inr (3, [.ref a_q0_roll_held, .ref a_q0_roll_before, .int c_q0_roll_size_4])), (a_q0_roll_held, .inl (cyJ, 12, .inr (.inl f_q0_roll_held_4))), (a_q0_roll_before, .inl (cyJ, 12, .inr (.inl f_q0_roll_before_4))), (a_q0_factors, .inr (2, [.ref a_q0_factors_parts])), (a_q0_factors_parts, .inr (3, [.ref a_q0_factors_parts_held, .ref a_q0_factors_parts_before, .int c_q0_factors_parts_size_4])), (a_q0_factors_parts_held, .inl (cyJ, 12, .inr (.inl f_q0_factors_parts_held_4))), (a_q3, .inr (7, [.long c_q3_n, c_q3_s]))] := hD.sub [1, 2, 3, 4, 5, 6, 7, 8, 0] (by decide) rfl
      refine vx_ret ?_
      exact W.iret hx hb hr (fun t ht hW => ⟨⟨_, (), rfl, rfl, wQA_of ht hP9 hD9⟩, hS.F ht⟩) hS.2.2 dL_factor_21
    have h := if_ cx1 h
    cases h
  · have h := it_ hx9 h
    have hP : va_P D vwCl [(a_q3, .inr (7, [.long c_q3_n, c_q3_s])), (a_q0, .inr (6, [.ref a_q0_forms, .ref a_q0_roll, .ref a_q0_row, .ref a_q0_rows, .ref a_q0_factors, .ref a_q0_found, .ref a_q0_foundOtherwise, .int c_q0_acts_4, .int c_q0_refusals_4, .int c_q0_knocks])), (a_q0_forms, .inl (cyJ, 6, .inr (.inl f_q0_forms))), (a_q0_roll, .inr (3, [.ref a_q0_roll_held, .ref a_q0_roll_before, .int c_q0_roll_size_4])), (a_q0_roll_held, .inl (cyJ, 12, .inr (.inl f_q0_roll_held_4))), (a_q0_roll_before, .inl (cyJ, 12, .inr (.inl f_q0_roll_before_4))), (a_q0_factors, .inr (2, [.ref a_q0_factors_parts])), (a_q0_factors_parts, .inr (3, [.ref a_q0_factors_parts_held, .ref a_q0_factors_parts_before, .int c_q0_factors_parts_size_4])), (a_q0_factors_parts_held, .inl (cyJ, 12, .inr (.inl f_q0_factors_parts_held_4)))] H := hP
    have hD : va_D A [(a_q3, .inr (7, [.long c_q3_n, c_q3_s])), (a_q0, .inr (6, [.ref a_q0_forms, .ref a_q0_roll, .ref a_q0_row, .ref a_q0_rows, .ref a_q0_factors, .ref a_q0_found, .ref a_q0_foundOtherwise, .int c_q0_acts_4, .int c_q0_refusals_4, .int c_q0_knocks])), (a_q0_forms, .inl (cyJ, 6, .inr (.inl f_q0_forms))), (a_q0_roll, .inr (3, [.ref a_q0_roll_held, .ref a_q0_roll_before, .int c_q0_roll_size_4])), (a_q0_roll_held, .inl (cyJ, 12, .inr (.inl f_q0_roll_held_4))), (a_q0_roll_before, .inl (cyJ, 12, .inr (.inl f_q0_roll_before_4))), (a_q0_factors, .inr (2, [.ref a_q0_factors_parts])), (a_q0_factors_parts, .inr (3, [.ref a_q0_factors_parts_held, .ref a_q0_factors_parts_before, .int c_q0_factors_parts_size_4])), (a_q0_factors_parts_held, .inl (cyJ, 12, .inr (.inl f_q0_factors_parts_held_4)))] := hD
    refine lv_i2l (v := r4.toInt64) hx hb dL_factor_7 rfl ?_
    refine lv_topl (fun c_q3_n_8 e_c_q3_n_8 => ?_)
    have h := bnd_h e_c_q3_n_8 h
    refine va_putN (D := D) (ci := 7) (v := .long c_q3_n_8) (ty := .long) (C := RX8) (T := TX8) (N := 2) hx hb hts hinX8 tyX8 tyX8_ok nmX8 hown hK hP hD hS 0 rfl rfl 0 (by decide) hfl13 (fun _ h9 => h9) rfl (by decide +kernel) rfl rfl (Nat.le_of_ble_eq_true rfl) dL_factor_8 (fun H locs hP hD hS => ?_)
    have hP : va_P D vwCl [(a_q3, .inr (7, [.long c_q3_n_8, c_q3_s])), (a_q0, .inr (6, [.ref a_q0_forms, .ref a_q0_roll, .ref a_q0_row, .ref a_q0_rows, .ref a_q0_factors, .ref a_q0_found, .ref a_q0_foundOtherwise, .int c_q0_acts_4, .int c_q0_refusals_4, .int c_q0_knocks])), (a_q0_forms, .inl (cyJ, 6, .inr (.inl f_q0_forms))), (a_q0_roll, .inr (3, [.ref a_q0_roll_held, .ref a_q0_roll_before, .int c_q0_roll_size_4])), (a_q0_roll_held, .inl (cyJ, 12, .inr (.inl f_q0_roll_held_4))), (a_q0_roll_before, .inl (cyJ, 12, .inr (.inl f_q0_roll_before_4))), (a_q0_factors, .inr (2, [.ref a_q0_factors_parts])), (a_q0_factors_parts, .inr (3, [.ref a_q0_factors_parts_held, .ref a_q0_factors_parts_before, .int c_q0_factors_parts_size_4])), (a_q0_factors_parts_held, .inl (cyJ, 12, .inr (.inl f_q0_factors_parts_held_4)))] H := hP
    have hD : va_D A [(a_q3, .inr (7, [.long c_q3_n_8, c_q3_s])), (a_q0, .inr (6, [.ref a_q0_forms, .ref a_q0_roll, .ref a_q0_row, .ref a_q0_rows, .ref a_q0_factors, .ref a_q0_found, .ref a_q0_foundOtherwise, .int c_q0_acts_4, .int c_q0_refusals_4, .int c_q0_knocks])), (a_q0_forms, .inl (cyJ, 6, .inr (.inl f_q0_forms))), (a_q0_roll, .inr (3, [.ref a_q0_roll_held, .ref a_q0_roll_before, .int c_q0_roll_size_4])), (a_q0_roll_held, .inl (cyJ, 12, .inr (.inl f_q0_roll_held_4))), (a_q0_roll_before, .inl (cyJ, 12, .inr (.inl f_q0_roll_before_4))), (a_q0_factors, .inr (2, [.ref a_q0_factors_parts])), (a_q0_factors_parts, .inr (3, [.ref a_q0_factors_parts_held, .ref a_q0_factors_parts_before, .int c_q0_factors_parts_size_4])), (a_q0_factors_parts_held, .inl (cyJ, 12, .inr (.inl f_q0_factors_parts_held_4)))] := hD
    refine lv_goto (tgt := 22) hx hb dL_factor_11 (by decide) ?_
    refine lv_iconst (v := 0) hx hb dL_factor_22 (by decide) ?_
    obtain ⟨e0, e1, e2, e3, e4, e5, e6, e7, e8⟩ := tup9 h
    subst e0
    subst e1
    subst e2
    subst e3
    subst e4
    subst e5
    subst e6
    subst e7
    subst e8
    have hP9 : va_P D vwCl [(a_q0, .inr (6, [.ref a_q0_forms, .ref a_q0_roll, .ref a_q0_row, .ref a_q0_rows, .ref a_q0_factors, .ref a_q0_found, .ref a_q0_foundOtherwise, .int c_q0_acts_4, .int c_q0_refusals_4, .int c_q0_knocks])), (a_q0_forms, .inl (cyJ, 6, .inr (.inl f_q0_forms))), (a_q0_roll, .inr (3, [.ref a_q0_roll_held, .ref a_q0_roll_before, .int c_q0_roll_size_4])), (a_q0_roll_held, .inl (cyJ, 12, .inr (.inl f_q0_roll_held_4))), (a_q0_roll_before, .inl (cyJ, 12, .inr (.inl f_q0_roll_before_4))), (a_q0_factors, .inr (2, [.ref a_q0_factors_parts])), (a_q0_factors_parts, .inr (3, [.ref a_q0_factors_parts_held, .ref a_q0_factors_parts_before, .int c_q0_factors_parts_size_4])), (a_q0_factors_parts_held, .inl (cyJ, 12, .inr (.inl f_q0_factors_parts_held_4))), (a_q3, .inr (7, [.long c_q3_n_8, c_q3_s]))] H := hP.sub [1, 2, 3, 4, 5, 6, 7, 8, 0] rfl
    have hD9 : va_D A [(a_q0, .inr (6, [.ref a_q0_forms, .ref a_q0_roll, .ref a_q0_row, .ref a_q0_rows, .ref a_q0_factors, .ref a_q0_found, .ref a_q0_foundOtherwise, .int c_q0_acts_4, .int c_q0_refusals_4, .int c_q0_knocks])), (a_q0_forms, .inl (cyJ, 6, .inr (.inl f_q0_forms))), (a_q0_roll, .inr (3, [.ref a_q0_roll_held, .ref a_q0_roll_before, .int c_q0_roll_size_4])), (a_q0_roll_held, .inl (cyJ, 12, .inr (.inl f_q0_roll_held_4))), (a_q0_roll_before, .inl (cyJ, 12, .inr (.inl f_q0_roll_before_4))), (a_q0_factors, .inr (2, [.ref a_q0_factors_parts])), (a_q0_factors_parts, .inr (3, [.ref a_q0_factors_parts_held, .ref a_q0_factors_parts_before, .int c_q0_factors_parts_size_4])), (a_q0_factors_parts_held, .inl (cyJ, 12, .inr (.inl f_q0_factors_parts_held_4))), (a_q3, .inr (7, [.long c_q3_n_8, c_q3_s]))] := hD.sub [1, 2, 3, 4, 5, 6, 7, 8, 0] (by decide) rfl
    refine vx_ret ?_
    exact W.iret hx hb hr (fun t ht hW => ⟨⟨_, (), rfl, rfl, wQA_of ht hP9 hD9⟩, hS.F ht⟩) hS.2.2 dL_factor_23
