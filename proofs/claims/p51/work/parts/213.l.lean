noncomputable abbrev rmL_ones : Room := { frames := 10, cells := 1, slots := 6, locals := 141 }
theorem ydL_ones : yL_ones.cls ≠ "java/lang/invoke/MethodHandle" ∧ yL_ones.cls ≠ "java/lang/invoke/VarHandle" ∧ (parseMethodDescriptor yL_ones.desc).map (fun d => d.parameters.length) = some 3 := by decide +kernel
noncomputable def F_L_ones (f_q0_forms : Nat → Int64) (c_q2_n : Int64) (p1 : Int32) : Option (Int32 × Int64) :=
 obn2 (F_X7_ones f_q0_forms p1) (fun xc3 r3 =>
 if xc3 = 0 then
 bnd r3.toInt64 (fun c_q2_n_7 =>
 some ((0 : Int32), c_q2_n_7))
else
 (if xc3 = 1 then
 some ((1 : Int32), c_q2_n)
else
 none))
set_option maxHeartbeats 4000000 in
set_option maxRecDepth 100000 in
theorem c_L_ones (l : Launch) (hfl : l.stackTraces = false) (D : va_G) (cyJ : ClassId) (sz : Nat) (a_q0 : Nat) (a_q2 : Nat) (a_q0_forms : Nat) (a_q0_roll : Nat) (a_q0_row : Nat) (a_q0_rows : Nat) (a_q0_factors : Nat) (a_q0_found : Nat) (a_q0_foundOtherwise : Nat) (c_q0_acts : Int32) (c_q0_refusals : Int32) (c_q0_knocks : Int32) (f_q0_forms : Nat → Int64) (c_q2_n : Int64) (c_q2_s : Value) (p1 : Int32) (r0 : Int32) (o_c_q2_n : Int64) (hF : F_L_ones f_q0_forms c_q2_n p1 = some (r0, o_c_q2_n)) : vx_Met l yL_ones wsL_ones rmL_ones (va_Pc [.ref a_q0, .int p1, .ref a_q2] (wPL D [(cyJ, .long)] [(a_q0, .inr (6, [.ref a_q0_forms, .ref a_q0_roll, .ref a_q0_row, .ref a_q0_rows, .ref a_q0_factors, .ref a_q0_found, .ref a_q0_foundOtherwise, .int c_q0_acts, .int c_q0_refusals, .int c_q0_knocks])), (a_q0_forms, .inl (cyJ, 6, .inr (.inl f_q0_forms))), (a_q2, .inr (7, [.long c_q2_n, c_q2_s]))] sz)) (va_Qi (fun (r : Int32) (_ : Unit) => r = r0) (fun _ t => wQA D [(a_q0, .inr (6, [.ref a_q0_forms, .ref a_q0_roll, .ref a_q0_row, .ref a_q0_rows, .ref a_q0_factors, .ref a_q0_found, .ref a_q0_foundOtherwise, .int c_q0_acts, .int c_q0_refusals, .int c_q0_knocks])), (a_q0_forms, .inl (cyJ, 6, .inr (.inl f_q0_forms))), (a_q2, .inr (7, [.long o_c_q2_n, c_q2_s]))] (va_A [(a_q0, .inr (6, [.ref a_q0_forms, .ref a_q0_roll, .ref a_q0_row, .ref a_q0_rows, .ref a_q0_factors, .ref a_q0_found, .ref a_q0_foundOtherwise, .int c_q0_acts, .int c_q0_refusals, .int c_q0_knocks])), (a_q0_forms, .inl (cyJ, 6, .inr (.inl f_q0_forms))), (a_q2, .inr (7, [.long c_q2_n, c_q2_s]))] sz) t) (va_A [(a_q0, .inr (6, [.ref a_q0_forms, .ref a_q0_roll, .ref a_q0_row, .ref a_q0_rows, .ref a_q0_factors, .ref a_q0_found, .ref a_q0_foundOtherwise, .int c_q0_acts, .int c_q0_refusals, .int c_q0_knocks])), (a_q0_forms, .inl (cyJ, 6, .inr (.inl f_q0_forms))), (a_q2, .inr (7, [.long c_q2_n, c_q2_s]))] sz)) (fun _ _ _ => False) 1 6 (va_A [(a_q0, .inr (6, [.ref a_q0_forms, .ref a_q0_roll, .ref a_q0_row, .ref a_q0_rows, .ref a_q0_factors, .ref a_q0_found, .ref a_q0_foundOtherwise, .int c_q0_acts, .int c_q0_refusals, .int c_q0_knocks])), (a_q0_forms, .inl (cyJ, 6, .inr (.inl f_q0_forms))), (a_q2, .inr (7, [.long c_q2_n, c_q2_s]))] sz) := by
  refine vx_ofWH (cc := cL_ones) (maxL := 4) (ret := (some .int)) (hh := [(0, 10, 13, 19)]) (by decide) rfl ?_
  intro p e s m args below meth c s₁ B hml hv
  obtain ⟨rfl, ⟨⟨hsz, hP, hK, hD0, hnw⟩, hE⟩, hNc⟩ := hv
  have hx := B.exec
  have hb := B.bytes
  have hr := B.returns
  have hts := atoms_spec (ws := wsL_ones) B.pre
  have hown : s.vm.findClass RL = some m.cls := findClass_of_methodNamed B.named
  have hlocks := B.notSynchronized
  have hcf : CallFix _ _ _ _ _ _ _ _ _ := ⟨hx, hb, hml, hown, hts⟩
  have hxt : c.exceptionTable.toList = tableOf [(0, 10, 13, 19)] := vx_table (x := yL_ones) B (hts _ List.mem_cons_self)
  have hinX8 : ∀ w ∈ u_ws RX8 TX8 2, w ∈ wsL_ones := by decide +kernel
  have hfl13 := hnw.use (A := ([.ref a_q0, .int p1, .ref a_q2] : List Value).toArray) (w := .fieldLinkNest RL 13 "FormwheelLaw$Out" "n" "J" "FormwheelLaw") (by decide +kernel)
  subst hsz
  have hD := hD0.self (sz := s.heap.size)
  generalize hAe : va_A [(a_q0, .inr (6, [.ref a_q0_forms, .ref a_q0_roll, .ref a_q0_row, .ref a_q0_rows, .ref a_q0_factors, .ref a_q0_found, .ref a_q0_foundOtherwise, .int c_q0_acts, .int c_q0_refusals, .int c_q0_knocks])), (a_q0_forms, .inl (cyJ, 6, .inr (.inl f_q0_forms))), (a_q2, .inr (7, [.long c_q2_n, c_q2_s]))] s.heap.size = A at hD hE ⊢
  have hA : ∀ q : Nat, s.heap.size ≤ q → A q := fun q h => by rw [← hAe]; exact Or.inr h
  have hS : va_S A s.heap s.heap [] := va_S.rf
  have hP : va_P D vwCl [(a_q0, .inr (6, [.ref a_q0_forms, .ref a_q0_roll, .ref a_q0_row, .ref a_q0_rows, .ref a_q0_factors, .ref a_q0_found, .ref a_q0_foundOtherwise, .int c_q0_acts, .int c_q0_refusals, .int c_q0_knocks])), (a_q0_forms, .inl (cyJ, 6, .inr (.inl f_q0_forms))), (a_q2, .inr (7, [.long c_q2_n, c_q2_s]))] s.heap := hP
  have hK0 := hK
  have hl := lv_entry ([.ref a_q0, .int p1, .ref a_q2]) (n := 4) (Nat.le_of_ble_eq_true rfl)
  rw [lg_entry_eq]
  generalize (lg_sl ([.ref a_q0, .int p1, .ref a_q2]) ++ List.replicate (4 - (lg_sl ([.ref a_q0, .int p1, .ref a_q2])).length) Slot.unset).toArray = ls at hl ⊢
  have hl : lv_has ls 4 [(0, .ref a_q0), (1, .int p1), (2, .ref a_q2)] := hl
  have h := hF
  clear hF
  unfold F_L_ones at h
  refine lv_aload_n hx hb dL_ones_0 rfl (lv_at hl 2 rfl) ?_
  refine lv_aload_n hx hb dL_ones_1 rfl (lv_at hl 0 rfl) ?_
  refine lv_iload_n hx hb dL_ones_2 rfl (lv_at hl 1 rfl) ?_
  obtain ⟨xc3, r3, hc3, h⟩ := obn2_h h
  have hPc := hP.sub (ws' := [(a_q0, .inr (6, [.ref a_q0_forms, .ref a_q0_roll, .ref a_q0_row, .ref a_q0_rows, .ref a_q0_factors, .ref a_q0_found, .ref a_q0_foundOtherwise, .int c_q0_acts, .int c_q0_refusals, .int c_q0_knocks])), (a_q0_forms, .inl (cyJ, 6, .inr (.inl f_q0_forms)))]) [0, 1] rfl
  have hDc := hD.sub (ws' := [(a_q0, .inr (6, [.ref a_q0_forms, .ref a_q0_roll, .ref a_q0_row, .ref a_q0_rows, .ref a_q0_factors, .ref a_q0_found, .ref a_q0_foundOtherwise, .int c_q0_acts, .int c_q0_refusals, .int c_q0_knocks])), (a_q0_forms, .inl (cyJ, 6, .inr (.inl f_q0_forms)))]) [0, 1] (by decide) rfl
  refine hx_i (w1 := [(a_q0, .inr (6, [.ref a_q0_forms, .ref a_q0_roll, .ref a_q0_row, .ref a_q0_rows, .ref a_q0_factors, .ref a_q0_found, .ref a_q0_foundOtherwise, .int c_q0_acts, .int c_q0_refusals, .int c_q0_knocks])), (a_q0_forms, .inl (cyJ, 6, .inr (.inl f_q0_forms)))]) (wr := [(a_q2, .inr (7, [.long c_q2_n, c_q2_s]))]) (vx_runV (As := [.int p1]) (rest := [.ref a_q2]) hcf (c_X7_ones l hfl D cyJ s.heap.size a_q0 a_q0_forms a_q0_roll a_q0_row a_q0_rows a_q0_factors a_q0_found a_q0_foundOtherwise c_q0_acts c_q0_refusals c_q0_knocks f_q0_forms p1 xc3 r3 hc3) (cwV 1 hts gL_ones_X7_ones rfl rfl rfl ydX7_ones ⟨Nat.le_of_ble_eq_true rfl, Nat.le_of_ble_eq_true rfl⟩) ⟨bl_PX, va_recv hK hP (ci := 6) (q0 := 0) rfl rfl, pr_PX hPc hK0 hDc hnw hE hS (va_free hD hS hA [0, 1] rfl)⟩ rfl rfl hl.1 rfl (lv_room (Nat.le_of_ble_eq_true rfl)) dL_ones_3 ⟨Nat.le_of_ble_eq_true rfl, Nat.le_of_ble_eq_true rfl⟩) hP hD hS hA [0, 1] [2] rfl rfl (by decide) (by decide) (fun E9 ce9 q9 H locs hx9 hE9 hP hD hS hce9 hcv9 hcl9 => ?_) (fun hx9 H locs hP hD hS => ?_)
  · have h := if_ hx9 h
    have hP : va_P D vwCl [(a_q2, .inr (7, [.long c_q2_n, c_q2_s])), (a_q0, .inr (6, [.ref a_q0_forms, .ref a_q0_roll, .ref a_q0_row, .ref a_q0_rows, .ref a_q0_factors, .ref a_q0_found, .ref a_q0_foundOtherwise, .int c_q0_acts, .int c_q0_refusals, .int c_q0_knocks])), (a_q0_forms, .inl (cyJ, 6, .inr (.inl f_q0_forms)))] H := hP
    have hD : va_D A [(a_q2, .inr (7, [.long c_q2_n, c_q2_s])), (a_q0, .inr (6, [.ref a_q0_forms, .ref a_q0_roll, .ref a_q0_row, .ref a_q0_rows, .ref a_q0_factors, .ref a_q0_found, .ref a_q0_foundOtherwise, .int c_q0_acts, .int c_q0_refusals, .int c_q0_knocks])), (a_q0_forms, .inl (cyJ, 6, .inr (.inl f_q0_forms)))] := hD
    by_cases cx0 : xc3 = 1
    · have h := it_ cx0 h
      have hE1 : E9 = "java/lang/IndexOutOfBoundsException" := by rw [hE9, cx0]; rfl
      subst hE1
      refine vx_catch (name := "java/lang/IndexOutOfBoundsException") hown (tableOf []) ⟨0, 10, 13, 19⟩ (tableOf []) hxt (fun z hz => absurd hz List.not_mem_nil) (by decide) (by decide) (hts (.classLink RL 19 "java/lang/IndexOutOfBoundsException") (by decide +kernel)) (va_Nw.use rfl (hE.2.1 (.castable "java/lang/IndexOutOfBoundsException" "java/lang/IndexOutOfBoundsException") (by decide +kernel))) hce9 hcv9 hcl9 ?_
      refine lv_astore_n (lv' := [(3, .ref q9), (0, .ref a_q0), (1, .int p1), (2, .ref a_q2)]) hx hb dL_ones_13 rfl hl (by decide) rfl (fun ls hl => ?_)
      refine lv_iconst (v := 1) hx hb dL_ones_14 (by decide) ?_
      obtain ⟨e0, e1⟩ := tup2 h
      subst e0
      subst e1
      have hP9 : va_P D vwCl [(a_q0, .inr (6, [.ref a_q0_forms, .ref a_q0_roll, .ref a_q0_row, .ref a_q0_rows, .ref a_q0_factors, .ref a_q0_found, .ref a_q0_foundOtherwise, .int c_q0_acts, .int c_q0_refusals, .int c_q0_knocks])), (a_q0_forms, .inl (cyJ, 6, .inr (.inl f_q0_forms))), (a_q2, .inr (7, [.long c_q2_n, c_q2_s]))] H := hP.sub [1, 2, 0] rfl
      have hD9 : va_D A [(a_q0, .inr (6, [.ref a_q0_forms, .ref a_q0_roll, .ref a_q0_row, .ref a_q0_rows, .ref a_q0_factors, .ref a_q0_found, .ref a_q0_foundOtherwise, .int c_q0_acts, .int c_q0_refusals, .int c_q0_knocks])), (a_q0_forms, .inl (cyJ, 6, .inr (.inl f_q0_forms))), (a_q2, .inr (7, [.long c_q2_n, c_q2_s]))] := hD.sub [1, 2, 0] (by decide) rfl
      refine vx_ret ?_
      exact W.iret hx hb hr (fun t ht hW => ⟨⟨_, (), rfl, rfl, wQA_of ht hP9 hD9⟩, hS.F ht⟩) hS.2.2 dL_ones_15
    have h := if_ cx0 h
    cases h
  · have h := it_ hx9 h
    have hP : va_P D vwCl [(a_q2, .inr (7, [.long c_q2_n, c_q2_s])), (a_q0, .inr (6, [.ref a_q0_forms, .ref a_q0_roll, .ref a_q0_row, .ref a_q0_rows, .ref a_q0_factors, .ref a_q0_found, .ref a_q0_foundOtherwise, .int c_q0_acts, .int c_q0_refusals, .int c_q0_knocks])), (a_q0_forms, .inl (cyJ, 6, .inr (.inl f_q0_forms)))] H := hP
    have hD : va_D A [(a_q2, .inr (7, [.long c_q2_n, c_q2_s])), (a_q0, .inr (6, [.ref a_q0_forms, .ref a_q0_roll, .ref a_q0_row, .ref a_q0_rows, .ref a_q0_factors, .ref a_q0_found, .ref a_q0_foundOtherwise, .int c_q0_acts, .int c_q0_refusals, .int c_q0_knocks])), (a_q0_forms, .inl (cyJ, 6, .inr (.inl f_q0_forms)))] := hD
    refine lv_i2l (v := r3.toInt64) hx hb dL_ones_6 rfl ?_
    refine lv_topl (fun c_q2_n_7 e_c_q2_n_7 => ?_)
    have h := bnd_h e_c_q2_n_7 h
    refine va_putN (D := D) (ci := 7) (v := .long c_q2_n_7) (ty := .long) (C := RX8) (T := TX8) (N := 2) hx hb hts hinX8 tyX8 tyX8_ok nmX8 hown hK hP hD hS 0 rfl rfl 0 (by decide) hfl13 (fun _ h9 => h9) rfl (by decide +kernel) rfl rfl (Nat.le_of_ble_eq_true rfl) dL_ones_7 (fun H locs hP hD hS => ?_)
    have hP : va_P D vwCl [(a_q2, .inr (7, [.long c_q2_n_7, c_q2_s])), (a_q0, .inr (6, [.ref a_q0_forms, .ref a_q0_roll, .ref a_q0_row, .ref a_q0_rows, .ref a_q0_factors, .ref a_q0_found, .ref a_q0_foundOtherwise, .int c_q0_acts, .int c_q0_refusals, .int c_q0_knocks])), (a_q0_forms, .inl (cyJ, 6, .inr (.inl f_q0_forms)))] H := hP
    have hD : va_D A [(a_q2, .inr (7, [.long c_q2_n_7, c_q2_s])), (a_q0, .inr (6, [.ref a_q0_forms, .ref a_q0_roll, .ref a_q0_row, .ref a_q0_rows, .ref a_q0_factors, .ref a_q0_found, .ref a_q0_foundOtherwise, .int c_q0_acts, .int c_q0_refusals, .int c_q0_knocks])), (a_q0_forms, .inl (cyJ, 6, .inr (.inl f_q0_forms)))] := hD
    refine lv_goto (tgt := 16) hx hb dL_ones_10 (by decide) ?_
    refine lv_iconst (v := 0) hx hb dL_ones_16 (by decide) ?_
    obtain ⟨e0, e1⟩ := tup2 h
    subst e0
    subst e1
    have hP9 : va_P D vwCl [(a_q0, .inr (6, [.ref a_q0_forms, .ref a_q0_roll, .ref a_q0_row, .ref a_q0_rows, .ref a_q0_factors, .ref a_q0_found, .ref a_q0_foundOtherwise, .int c_q0_acts, .int c_q0_refusals, .int c_q0_knocks])), (a_q0_forms, .inl (cyJ, 6, .inr (.inl f_q0_forms))), (a_q2, .inr (7, [.long c_q2_n_7, c_q2_s]))] H := hP.sub [1, 2, 0] rfl
    have hD9 : va_D A [(a_q0, .inr (6, [.ref a_q0_forms, .ref a_q0_roll, .ref a_q0_row, .ref a_q0_rows, .ref a_q0_factors, .ref a_q0_found, .ref a_q0_foundOtherwise, .int c_q0_acts, .int c_q0_refusals, .int c_q0_knocks])), (a_q0_forms, .inl (cyJ, 6, .inr (.inl f_q0_forms))), (a_q2, .inr (7, [.long c_q2_n_7, c_q2_s]))] := hD.sub [1, 2, 0] (by decide) rfl
    refine vx_ret ?_
    exact W.iret hx hb hr (fun t ht hW => ⟨⟨_, (), rfl, rfl, wQA_of ht hP9 hD9⟩, hS.F ht⟩) hS.2.2 dL_ones_17

noncomputable abbrev rmL_lowest : Room := { frames := 10, cells := 1, slots := 6, locals := 141 }
theorem ydL_lowest : yL_lowest.cls ≠ "java/lang/invoke/MethodHandle" ∧ yL_lowest.cls ≠ "java/lang/invoke/VarHandle" ∧ (parseMethodDescriptor yL_lowest.desc).map (fun d => d.parameters.length) = some 3 := by decide +kernel
noncomputable def F_L_lowest (f_q0_forms : Nat → Int64) (c_q2_n : Int64) (p1 : Int32) : Option (Int32 × Int64) :=
 obn2 (F_X7_lowest f_q0_forms p1) (fun xc3 r3 =>
 if xc3 = 0 then
 bnd r3.toInt64 (fun c_q2_n_7 =>
 some ((0 : Int32), c_q2_n_7))
else
 (if xc3 = 1 then
 some ((1 : Int32), c_q2_n)
else
 none))
set_option maxHeartbeats 4000000 in
set_option maxRecDepth 100000 in
theorem c_L_lowest (l : Launch) (hfl : l.stackTraces = false) (D : va_G) (cyJ : ClassId) (sz : Nat) (a_q0 : Nat) (a_q2 : Nat) (a_q0_forms : Nat) (a_q0_roll : Nat) (a_q0_row : Nat) (a_q0_rows : Nat) (a_q0_factors : Nat) (a_q0_found : Nat) (a_q0_foundOtherwise : Nat) (c_q0_acts : Int32) (c_q0_refusals : Int32) (c_q0_knocks : Int32) (f_q0_forms : Nat → Int64) (c_q2_n : Int64) (c_q2_s : Value) (p1 : Int32) (r0 : Int32) (o_c_q2_n : Int64) (hF : F_L_lowest f_q0_forms c_q2_n p1 = some (r0, o_c_q2_n)) : vx_Met l yL_lowest wsL_lowest rmL_lowest (va_Pc [.ref a_q0, .int p1, .ref a_q2] (wPL D [(cyJ, .long)] [(a_q0, .inr (6, [.ref a_q0_forms, .ref a_q0_roll, .ref a_q0_row, .ref a_q0_rows, .ref a_q0_factors, .ref a_q0_found, .ref a_q0_foundOtherwise, .int c_q0_acts, .int c_q0_refusals, .int c_q0_knocks])), (a_q0_forms, .inl (cyJ, 6, .inr (.inl f_q0_forms))), (a_q2, .inr (7, [.long c_q2_n, c_q2_s]))] sz)) (va_Qi (fun (r : Int32) (_ : Unit) => r = r0) (fun _ t => wQA D [(a_q0, .inr (6, [.ref a_q0_forms, .ref a_q0_roll, .ref a_q0_row, .ref a_q0_rows, .ref a_q0_factors, .ref a_q0_found, .ref a_q0_foundOtherwise, .int c_q0_acts, .int c_q0_refusals, .int c_q0_knocks])), (a_q0_forms, .inl (cyJ, 6, .inr (.inl f_q0_forms))), (a_q2, .inr (7, [.long o_c_q2_n, c_q2_s]))] (va_A [(a_q0, .inr (6, [.ref a_q0_forms, .ref a_q0_roll, .ref a_q0_row, .ref a_q0_rows, .ref a_q0_factors, .ref a_q0_found, .ref a_q0_foundOtherwise, .int c_q0_acts, .int c_q0_refusals, .int c_q0_knocks])), (a_q0_forms, .inl (cyJ, 6, .inr (.inl f_q0_forms))), (a_q2, .inr (7, [.long c_q2_n, c_q2_s]))] sz) t) (va_A [(a_q0, .inr (6, [.ref a_q0_forms, .ref a_q0_roll, .ref a_q0_row, .ref a_q0_rows, .ref a_q0_factors, .ref a_q0_found, .ref a_q0_foundOtherwise, .int c_q0_acts, .int c_q0_refusals, .int c_q0_knocks])), (a_q0_forms, .inl (cyJ, 6, .inr (.inl f_q0_forms))), (a_q2, .inr (7, [.long c_q2_n, c_q2_s]))] sz)) (fun _ _ _ => False) 1 6 (va_A [(a_q0, .inr (6, [.ref a_q0_forms, .ref a_q0_roll, .ref a_q0_row, .ref a_q0_rows, .ref a_q0_factors, .ref a_q0_found, .ref a_q0_foundOtherwise, .int c_q0_acts, .int c_q0_refusals, .int c_q0_knocks])), (a_q0_forms, .inl (cyJ, 6, .inr (.inl f_q0_forms))), (a_q2, .inr (7, [.long c_q2_n, c_q2_s]))] sz) := by
  refine vx_ofWH (cc := cL_lowest) (maxL := 4) (ret := (some .int)) (hh := [(0, 10, 13, 19)]) (by decide) rfl ?_
  intro p e s m args below meth c s₁ B hml hv
  obtain ⟨rfl, ⟨⟨hsz, hP, hK, hD0, hnw⟩, hE⟩, hNc⟩ := hv
  have hx := B.exec
  have hb := B.bytes
  have hr := B.returns
  have hts := atoms_spec (ws := wsL_lowest) B.pre
  have hown : s.vm.findClass RL = some m.cls := findClass_of_methodNamed B.named
  have hlocks := B.notSynchronized
  have hcf : CallFix _ _ _ _ _ _ _ _ _ := ⟨hx, hb, hml, hown, hts⟩
  have hxt : c.exceptionTable.toList = tableOf [(0, 10, 13, 19)] := vx_table (x := yL_lowest) B (hts _ List.mem_cons_self)
  have hinX8 : ∀ w ∈ u_ws RX8 TX8 2, w ∈ wsL_lowest := by decide +kernel
  have hfl13 := hnw.use (A := ([.ref a_q0, .int p1, .ref a_q2] : List Value).toArray) (w := .fieldLinkNest RL 13 "FormwheelLaw$Out" "n" "J" "FormwheelLaw") (by decide +kernel)
  subst hsz
  have hD := hD0.self (sz := s.heap.size)
  generalize hAe : va_A [(a_q0, .inr (6, [.ref a_q0_forms, .ref a_q0_roll, .ref a_q0_row, .ref a_q0_rows, .ref a_q0_factors, .ref a_q0_found, .ref a_q0_foundOtherwise, .int c_q0_acts, .int c_q0_refusals, .int c_q0_knocks])), (a_q0_forms, .inl (cyJ, 6, .inr (.inl f_q0_forms))), (a_q2, .inr (7, [.long c_q2_n, c_q2_s]))] s.heap.size = A at hD hE ⊢
  have hA : ∀ q : Nat, s.heap.size ≤ q → A q := fun q h => by rw [← hAe]; exact Or.inr h
  have hS : va_S A s.heap s.heap [] := va_S.rf
  have hP : va_P D vwCl [(a_q0, .inr (6, [.ref a_q0_forms, .ref a_q0_roll, .ref a_q0_row, .ref a_q0_rows, .ref a_q0_factors, .ref a_q0_found, .ref a_q0_foundOtherwise, .int c_q0_acts, .int c_q0_refusals, .int c_q0_knocks])), (a_q0_forms, .inl (cyJ, 6, .inr (.inl f_q0_forms))), (a_q2, .inr (7, [.long c_q2_n, c_q2_s]))] s.heap := hP
  have hK0 := hK
  have hl := lv_entry ([.ref a_q0, .int p1, .ref a_q2]) (n := 4) (Nat.le_of_ble_eq_true rfl)
  rw [lg_entry_eq]
  generalize (lg_sl ([.ref a_q0, .int p1, .ref a_q2]) ++ List.replicate (4 - (lg_sl ([.ref a_q0, .int p1, .ref a_q2])).length) Slot.unset).toArray = ls at hl ⊢
  have hl : lv_has ls 4 [(0, .ref a_q0), (1, .int p1), (2, .ref a_q2)] := hl
  have h := hF
  clear hF
  unfold F_L_lowest at h
  refine lv_aload_n hx hb dL_lowest_0 rfl (lv_at hl 2 rfl) ?_
  refine lv_aload_n hx hb dL_lowest_1 rfl (lv_at hl 0 rfl) ?_
  refine lv_iload_n hx hb dL_lowest_2 rfl (lv_at hl 1 rfl) ?_
  obtain ⟨xc3, r3, hc3, h⟩ := obn2_h h
  have hPc := hP.sub (ws' := [(a_q0, .inr (6, [.ref a_q0_forms, .ref a_q0_roll, .ref a_q0_row, .ref a_q0_rows, .ref a_q0_factors, .ref a_q0_found, .ref a_q0_foundOtherwise, .int c_q0_acts, .int c_q0_refusals, .int c_q0_knocks])), (a_q0_forms, .inl (cyJ, 6, .inr (.inl f_q0_forms)))]) [0, 1] rfl
  have hDc := hD.sub (ws' := [(a_q0, .inr (6, [.ref a_q0_forms, .ref a_q0_roll, .ref a_q0_row, .ref a_q0_rows, .ref a_q0_factors, .ref a_q0_found, .ref a_q0_foundOtherwise, .int c_q0_acts, .int c_q0_refusals, .int c_q0_knocks])), (a_q0_forms, .inl (cyJ, 6, .inr (.inl f_q0_forms)))]) [0, 1] (by decide) rfl
  refine hx_i (w1 := [(a_q0, .inr (6, [.ref a_q0_forms, .ref a_q0_roll, .ref a_q0_row, .ref a_q0_rows, .ref a_q0_factors, .ref a_q0_found, .ref a_q0_foundOtherwise, .int c_q0_acts, .int c_q0_refusals, .int c_q0_knocks])), (a_q0_forms, .inl (cyJ, 6, .inr (.inl f_q0_forms)))]) (wr := [(a_q2, .inr (7, [.long c_q2_n, c_q2_s]))]) (vx_runV (As := [.int p1]) (rest := [.ref a_q2]) hcf (c_X7_lowest l hfl D cyJ s.heap.size a_q0 a_q0_forms a_q0_roll a_q0_row a_q0_rows a_q0_factors a_q0_found a_q0_foundOtherwise c_q0_acts c_q0_refusals c_q0_knocks f_q0_forms p1 xc3 r3 hc3) (cwV 1 hts gL_lowest_X7_lowest rfl rfl rfl ydX7_lowest ⟨Nat.le_of_ble_eq_true rfl, Nat.le_of_ble_eq_true rfl⟩) ⟨bl_PX, va_recv hK hP (ci := 6) (q0 := 0) rfl rfl, pr_PX hPc hK0 hDc hnw hE hS (va_free hD hS hA [0, 1] rfl)⟩ rfl rfl hl.1 rfl (lv_room (Nat.le_of_ble_eq_true rfl)) dL_lowest_3 ⟨Nat.le_of_ble_eq_true rfl, Nat.le_of_ble_eq_true rfl⟩) hP hD hS hA [0, 1] [2] rfl rfl (by decide) (by decide) (fun E9 ce9 q9 H locs hx9 hE9 hP hD hS hce9 hcv9 hcl9 => ?_) (fun hx9 H locs hP hD hS => ?_)
  · have h := if_ hx9 h
    have hP : va_P D vwCl [(a_q2, .inr (7, [.long c_q2_n, c_q2_s])), (a_q0, .inr (6, [.ref a_q0_forms, .ref a_q0_roll, .ref a_q0_row, .ref a_q0_rows, .ref a_q0_factors, .ref a_q0_found, .ref a_q0_foundOtherwise, .int c_q0_acts, .int c_q0_refusals, .int c_q0_knocks])), (a_q0_forms, .inl (cyJ, 6, .inr (.inl f_q0_forms)))] H := hP
    have hD : va_D A [(a_q2, .inr (7, [.long c_q2_n, c_q2_s])), (a_q0, .inr (6, [.ref a_q0_forms, .ref a_q0_roll, .ref a_q0_row, .ref a_q0_rows, .ref a_q0_factors, .ref a_q0_found, .ref a_q0_foundOtherwise, .int c_q0_acts, .int c_q0_refusals, .int c_q0_knocks])), (a_q0_forms, .inl (cyJ, 6, .inr (.inl f_q0_forms)))] := hD
    by_cases cx0 : xc3 = 1
    · have h := it_ cx0 h
      have hE1 : E9 = "java/lang/IndexOutOfBoundsException" := by rw [hE9, cx0]; rfl
      subst hE1
      refine vx_catch (name := "java/lang/IndexOutOfBoundsException") hown (tableOf []) ⟨0, 10, 13, 19⟩ (tableOf []) hxt (fun z hz => absurd hz List.not_mem_nil) (by decide) (by decide) (hts (.classLink RL 19 "java/lang/IndexOutOfBoundsException") (by decide +kernel)) (va_Nw.use rfl (hE.2.1 (.castable "java/lang/IndexOutOfBoundsException" "java/lang/IndexOutOfBoundsException") (by decide +kernel))) hce9 hcv9 hcl9 ?_
      refine lv_astore_n (lv' := [(3, .ref q9), (0, .ref a_q0), (1, .int p1), (2, .ref a_q2)]) hx hb dL_lowest_13 rfl hl (by decide) rfl (fun ls hl => ?_)
      refine lv_iconst (v := 1) hx hb dL_lowest_14 (by decide) ?_
      obtain ⟨e0, e1⟩ := tup2 h
      subst e0
      subst e1
      have hP9 : va_P D vwCl [(a_q0, .inr (6, [.ref a_q0_forms, .ref a_q0_roll, .ref a_q0_row, .ref a_q0_rows, .ref a_q0_factors, .ref a_q0_found, .ref a_q0_foundOtherwise, .int c_q0_acts, .int c_q0_refusals, .int c_q0_knocks])), (a_q0_forms, .inl (cyJ, 6, .inr (.inl f_q0_forms))), (a_q2, .inr (7, [.long c_q2_n, c_q2_s]))] H := hP.sub [1, 2, 0] rfl
      have hD9 : va_D A [(a_q0, .inr (6, [.ref a_q0_forms, .ref a_q0_roll, .ref a_q0_row, .ref a_q0_rows, .ref a_q0_factors, .ref a_q0_found, .ref a_q0_foundOtherwise, .int c_q0_acts, .int c_q0_refusals, .int c_q0_knocks])), (a_q0_forms, .inl (cyJ, 6, .inr (.inl f_q0_forms))), (a_q2, .inr (7, [.long c_q2_n, c_q2_s]))] := hD.sub [1, 2, 0] (by decide) rfl
      refine vx_ret ?_
      exact W.iret hx hb hr (fun t ht hW => ⟨⟨_, (), rfl, rfl, wQA_of ht hP9 hD9⟩, hS.F ht⟩) hS.2.2 dL_lowest_15
    have h := if_ cx0 h
    cases h
  · have h := it_ hx9 h
    have hP : va_P D vwCl [(a_q2, .inr (7, [.long c_q2_n, c_q2_s])), (a_q0, .inr (6, [.ref a_q0_forms, .ref a_q0_roll, .ref a_q0_row, .ref a_q0_rows, .ref a_q0_factors, .ref a_q0_found, .ref a_q0_foundOtherwise, .int c_q0_acts, .int c_q0_refusals, .int c_q0_knocks])), (a_q0_forms, .inl (cyJ, 6, .inr (.inl f_q0_forms)))] H := hP
    have hD : va_D A [(a_q2, .inr (7, [.long c_q2_n, c_q2_s])), (a_q0, .inr (6, [.ref a_q0_forms, .ref a_q0_roll, .ref a_q0_row, .ref a_q0_rows, .ref a_q0_factors, .ref a_q0_found, .ref a_q0_foundOtherwise, .int c_q0_acts, .int c_q0_refusals, .int c_q0_knocks])), (a_q0_forms, .inl (cyJ, 6, .inr (.inl f_q0_forms)))] := hD
    refine lv_i2l (v := r3.toInt64) hx hb dL_lowest_6 rfl ?_
    refine lv_topl (fun c_q2_n_7 e_c_q2_n_7 => ?_)
    have h := bnd_h e_c_q2_n_7 h
    refine va_putN (D := D) (ci := 7) (v := .long c_q2_n_7) (ty := .long) (C := RX8) (T := TX8) (N := 2) hx hb hts hinX8 tyX8 tyX8_ok nmX8 hown hK hP hD hS 0 rfl rfl 0 (by decide) hfl13 (fun _ h9 => h9) rfl (by decide +kernel) rfl rfl (Nat.le_of_ble_eq_true rfl) dL_lowest_7 (fun H locs hP hD hS => ?_)
    have hP : va_P D vwCl [(a_q2, .inr (7, [.long c_q2_n_7, c_q2_s])), (a_q0, .inr (6, [.ref a_q0_forms, .ref a_q0_roll, .ref a_q0_row, .ref a_q0_rows, .ref a_q0_factors, .ref a_q0_found, .ref a_q0_foundOtherwise, .int c_q0_acts, .int c_q0_refusals, .int c_q0_knocks])), (a_q0_forms, .inl (cyJ, 6, .inr (.inl f_q0_forms)))] H := hP
    have hD : va_D A [(a_q2, .inr (7, [.long c_q2_n_7, c_q2_s])), (a_q0, .inr (6, [.ref a_q0_forms, .ref a_q0_roll, .ref a_q0_row, .ref a_q0_rows, .ref a_q0_factors, .ref a_q0_found, .ref a_q0_foundOtherwise, .int c_q0_acts, .int c_q0_refusals, .int c_q0_knocks])), (a_q0_forms, .inl (cyJ, 6, .inr (.inl f_q0_forms)))] := hD
    refine lv_goto (tgt := 16) hx hb dL_lowest_10 (by decide) ?_
    refine lv_iconst (v := 0) hx hb dL_lowest_16 (by decide) ?_
    obtain ⟨e0, e1⟩ := tup2 h
    subst e0
    subst e1
    have hP9 : va_P D vwCl [(a_q0, .inr (6, [.ref a_q0_forms, .ref a_q0_roll, .ref a_q0_row, .ref a_q0_rows, .ref a_q0_factors, .ref a_q0_found, .ref a_q0_foundOtherwise, .int c_q0_acts, .int c_q0_refusals, .int c_q0_knocks])), (a_q0_forms, .inl (cyJ, 6, .inr (.inl f_q0_forms))), (a_q2, .inr (7, [.long c_q2_n_7, c_q2_s]))] H := hP.sub [1, 2, 0] rfl
    have hD9 : va_D A [(a_q0, .inr (6, [.ref a_q0_forms, .ref a_q0_roll, .ref a_q0_row, .ref a_q0_rows, .ref a_q0_factors, .ref a_q0_found, .ref a_q0_foundOtherwise, .int c_q0_acts, .int c_q0_refusals, .int c_q0_knocks])), (a_q0_forms, .inl (cyJ, 6, .inr (.inl f_q0_forms))), (a_q2, .inr (7, [.long c_q2_n_7, c_q2_s]))] := hD.sub [1, 2, 0] (by decide) rfl
    refine vx_ret ?_
    exact W.iret hx hb hr (fun t ht hW => ⟨⟨_, (), rfl, rfl, wQA_of ht hP9 hD9⟩, hS.F ht⟩) hS.2.2 dL_lowest_17

noncomputable abbrev rmL_text : Room := { frames := 10, cells := 137, slots := 40214, locals := 235 }
theorem ydL_text : yL_text.cls ≠ "java/lang/invoke/MethodHandle" ∧ yL_text.cls ≠ "java/lang/invoke/VarHandle" ∧ (parseMethodDescriptor yL_text.desc).map (fun d => d.parameters.length) = some 3 := by decide +kernel
noncomputable def F_L_text (f_q0_forms : Nat → Int64) (p1 : Int32) : Option (Int32) :=
 obn (F_X7_text f_q0_forms p1) (fun xc3 =>
 if xc3 = 0 then
 some (0 : Int32)
else
 (if xc3 = 1 then
 some (1 : Int32)
else
 none))
set_option maxHeartbeats 4000000 in
set_option maxRecDepth 100000 in
theorem c_L_text (l : Launch) (hfl : l.stackTraces = false) (D : va_G) (cyJ cyB : ClassId) (adK adV : Nat → Nat) (sz : Nat) (a_q0 : Nat) (a_q2 : Nat) (a_q0_forms : Nat) (a_q0_roll : Nat) (a_q0_row : Nat) (a_q0_rows : Nat) (a_q0_factors : Nat) (a_q0_found : Nat) (a_q0_foundOtherwise : Nat) (c_q0_acts : Int32) (c_q0_refusals : Int32) (c_q0_knocks : Int32) (f_q0_forms : Nat → Int64) (c_q2_n : Int64) (c_q2_s : Value) (p1 : Int32) (r0 : Int32) (hF : F_L_text f_q0_forms p1 = some r0) : vx_Met l yL_text wsL_text rmL_text (va_Pc [.ref a_q0, .int p1, .ref a_q2] (wPLT D [(cyJ, .long), (cyB, .byte)] [(a_q0, .inr (6, [.ref a_q0_forms, .ref a_q0_roll, .ref a_q0_row, .ref a_q0_rows, .ref a_q0_factors, .ref a_q0_found, .ref a_q0_foundOtherwise, .int c_q0_acts, .int c_q0_refusals, .int c_q0_knocks])), (a_q0_forms, .inl (cyJ, 6, .inr (.inl f_q0_forms))), (a_q2, .inr (7, [.long c_q2_n, c_q2_s]))] adK adV sz)) (va_Qi (fun (r : Int32) (_ : Value) => r = r0) (fun u t => wQA D [(a_q0, .inr (6, [.ref a_q0_forms, .ref a_q0_roll, .ref a_q0_row, .ref a_q0_rows, .ref a_q0_factors, .ref a_q0_found, .ref a_q0_foundOtherwise, .int c_q0_acts, .int c_q0_refusals, .int c_q0_knocks])), (a_q0_forms, .inl (cyJ, 6, .inr (.inl f_q0_forms))), (a_q2, .inr (7, [.long c_q2_n, u]))] (va_A [(a_q0, .inr (6, [.ref a_q0_forms, .ref a_q0_roll, .ref a_q0_row, .ref a_q0_rows, .ref a_q0_factors, .ref a_q0_found, .ref a_q0_foundOtherwise, .int c_q0_acts, .int c_q0_refusals, .int c_q0_knocks])), (a_q0_forms, .inl (cyJ, 6, .inr (.inl f_q0_forms))), (a_q2, .inr (7, [.long c_q2_n, c_q2_s]))] sz) t) (va_A [(a_q0, .inr (6, [.ref a_q0_forms, .ref a_q0_roll, .ref a_q0_row, .ref a_q0_rows, .ref a_q0_factors, .ref a_q0_found, .ref a_q0_foundOtherwise, .int c_q0_acts, .int c_q0_refusals, .int c_q0_knocks])), (a_q0_forms, .inl (cyJ, 6, .inr (.inl f_q0_forms))), (a_q2, .inr (7, [.long c_q2_n, c_q2_s]))] sz)) (fun _ _ _ => False) 137 40214 (va_A [(a_q0, .inr (6, [.ref a_q0_forms, .ref a_q0_roll, .ref a_q0_row, .ref a_q0_rows, .ref a_q0_factors, .ref a_q0_found, .ref a_q0_foundOtherwise, .int c_q0_acts, .int c_q0_refusals, .int c_q0_knocks])), (a_q0_forms, .inl (cyJ, 6, .inr (.inl f_q0_forms))), (a_q2, .inr (7, [.long c_q2_n, c_q2_s]))] sz) := by
  refine vx_ofWH (cc := cL_text) (maxL := 4) (ret := (some .int)) (hh := [(0, 9, 12, 19)]) (by decide) rfl ?_
  intro p e s m args below meth c s₁ B hml hv
  obtain ⟨rfl, ⟨⟨hsz, hP, hK, hD0, hnw⟩, hE⟩, hT, hNc⟩ := hv
  have hx := B.exec
  have hb := B.bytes
  have hr := B.returns
  have hts := atoms_spec (ws := wsL_text) B.pre
  have hown : s.vm.findClass RL = some m.cls := findClass_of_methodNamed B.named
  have hlocks := B.notSynchronized
  have hcf : CallFix _ _ _ _ _ _ _ _ _ := ⟨hx, hb, hml, hown, hts⟩
  have hxt : c.exceptionTable.toList = tableOf [(0, 9, 12, 19)] := vx_table (x := yL_text) B (hts _ List.mem_cons_self)
  have hinX8 : ∀ w ∈ u_ws RX8 TX8 2, w ∈ wsL_text := by decide +kernel
  have hfl124 := hnw.use (A := ([.ref a_q0, .int p1, .ref a_q2] : List Value).toArray) (w := .fieldLinkNest RL 124 "FormwheelLaw$Out" "s" "Ljava/lang/String;" "FormwheelLaw") (by decide +kernel)
  subst hsz
  have hD := hD0.self (sz := s.heap.size)
  generalize hAe : va_A [(a_q0, .inr (6, [.ref a_q0_forms, .ref a_q0_roll, .ref a_q0_row, .ref a_q0_rows, .ref a_q0_factors, .ref a_q0_found, .ref a_q0_foundOtherwise, .int c_q0_acts, .int c_q0_refusals, .int c_q0_knocks])), (a_q0_forms, .inl (cyJ, 6, .inr (.inl f_q0_forms))), (a_q2, .inr (7, [.long c_q2_n, c_q2_s]))] s.heap.size = A at hD hE hT ⊢
  have hA : ∀ q : Nat, s.heap.size ≤ q → A q := fun q h => by rw [← hAe]; exact Or.inr h
  have hS : va_S A s.heap s.heap [] := va_S.rf
  have hP : va_P D vwCl [(a_q0, .inr (6, [.ref a_q0_forms, .ref a_q0_roll, .ref a_q0_row, .ref a_q0_rows, .ref a_q0_factors, .ref a_q0_found, .ref a_q0_foundOtherwise, .int c_q0_acts, .int c_q0_refusals, .int c_q0_knocks])), (a_q0_forms, .inl (cyJ, 6, .inr (.inl f_q0_forms))), (a_q2, .inr (7, [.long c_q2_n, c_q2_s]))] s.heap := hP
  have hK0 := hK
  have hl := lv_entry ([.ref a_q0, .int p1, .ref a_q2]) (n := 4) (Nat.le_of_ble_eq_true rfl)
  rw [lg_entry_eq]
  generalize (lg_sl ([.ref a_q0, .int p1, .ref a_q2]) ++ List.replicate (4 - (lg_sl ([.ref a_q0, .int p1, .ref a_q2])).length) Slot.unset).toArray = ls at hl ⊢
  have hl : lv_has ls 4 [(0, .ref a_q0), (1, .int p1), (2, .ref a_q2)] := hl
  have h := hF
  clear hF
  unfold F_L_text at h
  refine lv_aload_n hx hb dL_text_0 rfl (lv_at hl 2 rfl) ?_
  refine lv_aload_n hx hb dL_text_1 rfl (lv_at hl 0 rfl) ?_
  refine lv_iload_n hx hb dL_text_2 rfl (lv_at hl 1 rfl) ?_
  obtain ⟨xc3, hc3, h⟩ := obn_h h
  have hPc := hP.sub (ws' := [(a_q0, .inr (6, [.ref a_q0_forms, .ref a_q0_roll, .ref a_q0_row, .ref a_q0_rows, .ref a_q0_factors, .ref a_q0_found, .ref a_q0_foundOtherwise, .int c_q0_acts, .int c_q0_refusals, .int c_q0_knocks])), (a_q0_forms, .inl (cyJ, 6, .inr (.inl f_q0_forms)))]) [0, 1] rfl
  have hDc := hD.sub (ws' := [(a_q0, .inr (6, [.ref a_q0_forms, .ref a_q0_roll, .ref a_q0_row, .ref a_q0_rows, .ref a_q0_factors, .ref a_q0_found, .ref a_q0_foundOtherwise, .int c_q0_acts, .int c_q0_refusals, .int c_q0_knocks])), (a_q0_forms, .inl (cyJ, 6, .inr (.inl f_q0_forms)))]) [0, 1] (by decide) rfl
  refine hx_r (w1 := [(a_q0, .inr (6, [.ref a_q0_forms, .ref a_q0_roll, .ref a_q0_row, .ref a_q0_rows, .ref a_q0_factors, .ref a_q0_found, .ref a_q0_foundOtherwise, .int c_q0_acts, .int c_q0_refusals, .int c_q0_knocks])), (a_q0_forms, .inl (cyJ, 6, .inr (.inl f_q0_forms)))]) (wr := [(a_q2, .inr (7, [.long c_q2_n, c_q2_s]))]) (vx_runV (As := [.int p1]) (rest := [.ref a_q2]) hcf (c_X7_text l hfl D cyJ cyB adK adV s.heap.size a_q0 a_q0_forms a_q0_roll a_q0_row a_q0_rows a_q0_factors a_q0_found a_q0_foundOtherwise c_q0_acts c_q0_refusals c_q0_knocks f_q0_forms p1 xc3 hc3) (cwV 1 hts gL_text_X7_text rfl rfl rfl ydX7_text ⟨Nat.le_of_ble_eq_true rfl, Nat.le_of_ble_eq_true rfl⟩) ⟨bl_PXT, (va_recv hK hP (ci := 6) (q0 := 0) rfl rfl), pr_PXT hPc hK0 hDc hnw hE hT hS (va_free hD hS hA [0, 1] rfl)⟩ rfl rfl hl.1 rfl (lv_room (Nat.le_of_ble_eq_true rfl)) dL_text_3 ⟨Nat.le_of_ble_eq_true rfl, Nat.le_of_ble_eq_true rfl⟩) hP hD hS hA [0, 1] [2] rfl rfl (by decide) (by decide) (fun E9 ce9 q9 H locs hx9 hE9 hP hD hS hce9 hcv9 hcl9 => ?_) (fun hx9 b_ret3_3 H locs hP hD hS => ?_)
  · have h := if_ hx9 h
    have hP : va_P D vwCl [(a_q2, .inr (7, [.long c_q2_n, c_q2_s])), (a_q0, .inr (6, [.ref a_q0_forms, .ref a_q0_roll, .ref a_q0_row, .ref a_q0_rows, .ref a_q0_factors, .ref a_q0_found, .ref a_q0_foundOtherwise, .int c_q0_acts, .int c_q0_refusals, .int c_q0_knocks])), (a_q0_forms, .inl (cyJ, 6, .inr (.inl f_q0_forms)))] H := hP
    have hD : va_D A [(a_q2, .inr (7, [.long c_q2_n, c_q2_s])), (a_q0, .inr (6, [.ref a_q0_forms, .ref a_q0_roll, .ref a_q0_row, .ref a_q0_rows, .ref a_q0_factors, .ref a_q0_found, .ref a_q0_foundOtherwise, .int c_q0_acts, .int c_q0_refusals, .int c_q0_knocks])), (a_q0_forms, .inl (cyJ, 6, .inr (.inl f_q0_forms)))] := hD
    by_cases cx0 : xc3 = 1
    · have h := it_ cx0 h
      have hE1 : E9 = "java/lang/IndexOutOfBoundsException" := by rw [hE9, cx0]; rfl
      subst hE1
      refine vx_catch (name := "java/lang/IndexOutOfBoundsException") hown (tableOf []) ⟨0, 9, 12, 19⟩ (tableOf []) hxt (fun z hz => absurd hz List.not_mem_nil) (by decide) (by decide) (hts (.classLink RL 19 "java/lang/IndexOutOfBoundsException") (by decide +kernel)) (va_Nw.use rfl (hE.2.1 (.castable "java/lang/IndexOutOfBoundsException" "java/lang/IndexOutOfBoundsException") (by decide +kernel))) hce9 hcv9 hcl9 ?_
      refine lv_astore_n (lv' := [(3, .ref q9), (0, .ref a_q0), (1, .int p1), (2, .ref a_q2)]) hx hb dL_text_12 rfl hl (by decide) rfl (fun ls hl => ?_)
      refine lv_iconst (v := 1) hx hb dL_text_13 (by decide) ?_
      have e1 := Option.some.inj h
      subst e1
      have hP9 : va_P D vwCl [(a_q0, .inr (6, [.ref a_q0_forms, .ref a_q0_roll, .ref a_q0_row, .ref a_q0_rows, .ref a_q0_factors, .ref a_q0_found, .ref a_q0_foundOtherwise, .int c_q0_acts, .int c_q0_refusals, .int c_q0_knocks])), (a_q0_forms, .inl (cyJ, 6, .inr (.inl f_q0_forms))), (a_q2, .inr (7, [.long c_q2_n, c_q2_s]))] H := hP.sub [1, 2, 0] rfl
      have hD9 : va_D A [(a_q0, .inr (6, [.ref a_q0_forms, .ref a_q0_roll, .ref a_q0_row, .ref a_q0_rows, .ref a_q0_factors, .ref a_q0_found, .ref a_q0_foundOtherwise, .int c_q0_acts, .int c_q0_refusals, .int c_q0_knocks])), (a_q0_forms, .inl (cyJ, 6, .inr (.inl f_q0_forms))), (a_q2, .inr (7, [.long c_q2_n, c_q2_s]))] := hD.sub [1, 2, 0] (by decide) rfl
      refine vx_ret ?_
      exact W.iret hx hb hr (fun t ht hW => ⟨⟨_, c_q2_s, rfl, rfl, wQA_of ht hP9 hD9⟩, hS.F ht⟩) hS.2.2 dL_text_14
    have h := if_ cx0 h
    cases h
  · have h := it_ hx9 h
    have hP : va_P D vwCl [(a_q2, .inr (7, [.long c_q2_n, c_q2_s])), (a_q0, .inr (6, [.ref a_q0_forms, .ref a_q0_roll, .ref a_q0_row, .ref a_q0_rows, .ref a_q0_factors, .ref a_q0_found, .ref a_q0_foundOtherwise, .int c_q0_acts, .int c_q0_refusals, .int c_q0_knocks])), (a_q0_forms, .inl (cyJ, 6, .inr (.inl f_q0_forms)))] H := hP
    have hD : va_D A [(a_q2, .inr (7, [.long c_q2_n, c_q2_s])), (a_q0, .inr (6, [.ref a_q0_forms, .ref a_q0_roll, .ref a_q0_row, .ref a_q0_rows, .ref a_q0_factors, .ref a_q0_found, .ref a_q0_foundOtherwise, .int c_q0_acts, .int c_q0_refusals, .int c_q0_knocks])), (a_q0_forms, .inl (cyJ, 6, .inr (.inl f_q0_forms)))] := hD
    refine va_putN (D := D) (ci := 7) (v := .ref b_ret3_3) (ty := tyX8 1) (C := RX8) (T := TX8) (N := 2) hx hb hts hinX8 tyX8 tyX8_ok nmX8 hown hK hP hD hS 0 rfl rfl 1 (by decide) hfl124 (fun _ h9 => h9) rfl (by decide +kernel) rfl rfl (Nat.le_of_ble_eq_true rfl) dL_text_6 (fun H locs hP hD hS => ?_)
    have hP : va_P D vwCl [(a_q2, .inr (7, [.long c_q2_n, .ref b_ret3_3])), (a_q0, .inr (6, [.ref a_q0_forms, .ref a_q0_roll, .ref a_q0_row, .ref a_q0_rows, .ref a_q0_factors, .ref a_q0_found, .ref a_q0_foundOtherwise, .int c_q0_acts, .int c_q0_refusals, .int c_q0_knocks])), (a_q0_forms, .inl (cyJ, 6, .inr (.inl f_q0_forms)))] H := hP
    have hD : va_D A [(a_q2, .inr (7, [.long c_q2_n, .ref b_ret3_3])), (a_q0, .inr (6, [.ref a_q0_forms, .ref a_q0_roll, .ref a_q0_row, .ref a_q0_rows, .ref a_q0_factors, .ref a_q0_found, .ref a_q0_foundOtherwise, .int c_q0_acts, .int c_q0_refusals, .int c_q0_knocks])), (a_q0_forms, .inl (cyJ, 6, .inr (.inl f_q0_forms)))] := hD
    refine lv_goto (tgt := 15) hx hb dL_text_9 (by decide) ?_
    refine lv_iconst (v := 0) hx hb dL_text_15 (by decide) ?_
    have e1 := Option.some.inj h
    subst e1
    have hP9 : va_P D vwCl [(a_q0, .inr (6, [.ref a_q0_forms, .ref a_q0_roll, .ref a_q0_row, .ref a_q0_rows, .ref a_q0_factors, .ref a_q0_found, .ref a_q0_foundOtherwise, .int c_q0_acts, .int c_q0_refusals, .int c_q0_knocks])), (a_q0_forms, .inl (cyJ, 6, .inr (.inl f_q0_forms))), (a_q2, .inr (7, [.long c_q2_n, .ref b_ret3_3]))] H := hP.sub [1, 2, 0] rfl
    have hD9 : va_D A [(a_q0, .inr (6, [.ref a_q0_forms, .ref a_q0_roll, .ref a_q0_row, .ref a_q0_rows, .ref a_q0_factors, .ref a_q0_found, .ref a_q0_foundOtherwise, .int c_q0_acts, .int c_q0_refusals, .int c_q0_knocks])), (a_q0_forms, .inl (cyJ, 6, .inr (.inl f_q0_forms))), (a_q2, .inr (7, [.long c_q2_n, .ref b_ret3_3]))] := hD.sub [1, 2, 0] (by decide) rfl
    refine vx_ret ?_
    exact W.iret hx hb hr (fun t ht hW => ⟨⟨_, (.ref b_ret3_3), rfl, rfl, wQA_of ht hP9 hD9⟩, hS.F ht⟩) hS.2.2 dL_text_16

noncomputable abbrev rmL_order : Room := { frames := 10, cells := 2, slots := 12, locals := 142 }
theorem ydL_order : yL_order.cls ≠ "java/lang/invoke/MethodHandle" ∧ yL_order.cls ≠ "java/lang/invoke/VarHandle" ∧ (parseMethodDescriptor yL_order.desc).map (fun d => d.parameters.length) = some 4 := by decide +kernel
noncomputable def F_L_order (f_q0_forms : Nat → Int64) (c_q3_n : Int64) (p1 : Int32) (p2 : Int32) : Option (Int32 × Int64) :=
 obn2 (F_X7_order f_q0_forms p1 p2) (fun xc4 r4 =>
 if xc4 = 0 then
 bnd r4.toInt64 (fun c_q3_n_8 =>
 some ((0 : Int32), c_q3_n_8))
else
 (if xc4 = 1 then
 some ((1 : Int32), c_q3_n)
else
 none))
set_option maxHeartbeats 4000000 in
set_option maxRecDepth 100000 in
theorem c_L_order (l : Launch) (hfl : l.stackTraces = false) (D : va_G) (cyJ : ClassId) (sz : Nat) (a_q0 : Nat) (a_q3 : Nat) (a_q0_forms : Nat) (a_q0_roll : Nat) (a_q0_row : Nat) (a_q0_rows : Nat) (a_q0_factors : Nat) (a_q0_found : Nat) (a_q0_foundOtherwise : Nat) (c_q0_acts : Int32) (c_q0_refusals : Int32) (c_q0_knocks : Int32) (f_q0_forms : Nat → Int64) (c_q3_n : Int64) (c_q3_s : Value) (p1 : Int32) (p2 : Int32) (r0 : Int32) (o_c_q3_n : Int64) (hF : F_L_order f_q0_forms c_q3_n p1 p2 = some (r0, o_c_q3_n)) : vx_Met l yL_order wsL_order rmL_order (va_Pc [.ref a_q0, .int p1, .int p2, .ref a_q3] (wPL D [(cyJ, .long)] [(a_q0, .inr (6, [.ref a_q0_forms, .ref a_q0_roll, .ref a_q0_row, .ref a_q0_rows, .ref a_q0_factors, .ref a_q0_found, .ref a_q0_foundOtherwise, .int c_q0_acts, .int c_q0_refusals, .int c_q0_knocks])), (a_q0_forms, .inl (cyJ, 6, .inr (.inl f_q0_forms))), (a_q3, .inr (7, [.long c_q3_n, c_q3_s]))] sz)) (va_Qi (fun (r : Int32) (_ : Unit) => r = r0) (fun _ t => wQA D [(a_q0, .inr (6, [.ref a_q0_forms, .ref a_q0_roll, .ref a_q0_row, .ref a_q0_rows, .ref a_q0_factors, .ref a_q0_found, .ref a_q0_foundOtherwise, .int c_q0_acts, .int c_q0_refusals, .int c_q0_knocks])), (a_q0_forms, .inl (cyJ, 6, .inr (.inl f_q0_forms))), (a_q3, .inr (7, [.long o_c_q3_n, c_q3_s]))] (va_A [(a_q0, .inr (6, [.ref a_q0_forms, .ref a_q0_roll, .ref a_q0_row, .ref a_q0_rows, .ref a_q0_factors, .ref a_q0_found, .ref a_q0_foundOtherwise, .int c_q0_acts, .int c_q0_refusals, .int c_q0_knocks])), (a_q0_forms, .inl (cyJ, 6, .inr (.inl f_q0_forms))), (a_q3, .inr (7, [.long c_q3_n, c_q3_s]))] sz) t) (va_A [(a_q0, .inr (6, [.ref a_q0_forms, .ref a_q0_roll, .ref a_q0_row, .ref a_q0_rows, .ref a_q0_factors, .ref a_q0_found, .ref a_q0_foundOtherwise, .int c_q0_acts, .int c_q0_refusals, .int c_q0_knocks])), (a_q0_forms, .inl (cyJ, 6, .inr (.inl f_q0_forms))), (a_q3, .inr (7, [.long c_q3_n, c_q3_s]))] sz)) (fun _ _ _ => False) 2 12 (va_A [(a_q0, .inr (6, [.ref a_q0_forms, .ref a_q0_roll, .ref a_q0_row, .ref a_q0_rows, .ref a_q0_factors, .ref a_q0_found, .ref a_q0_foundOtherwise, .int c_q0_acts, .int c_q0_refusals, .int c_q0_knocks])), (a_q0_forms, .inl (cyJ, 6, .inr (.inl f_q0_forms))), (a_q3, .inr (7, [.long c_q3_n, c_q3_s]))] sz) := by
  refine vx_ofWH (cc := cL_order) (maxL := 5) (ret := (some .int)) (hh := [(0, 11, 14, 19)]) (by decide) rfl ?_
  intro p e s m args below meth c s₁ B hml hv
  obtain ⟨rfl, ⟨⟨hsz, hP, hK, hD0, hnw⟩, hE⟩, hNc⟩ := hv
  have hx := B.exec
  have hb := B.bytes
  have hr := B.returns
  have hts := atoms_spec (ws := wsL_order) B.pre
  have hown : s.vm.findClass RL = some m.cls := findClass_of_methodNamed B.named
  have hlocks := B.notSynchronized
  have hcf : CallFix _ _ _ _ _ _ _ _ _ := ⟨hx, hb, hml, hown, hts⟩
  have hxt : c.exceptionTable.toList = tableOf [(0, 11, 14, 19)] := vx_table (x := yL_order) B (hts _ List.mem_cons_self)
  have hinX8 : ∀ w ∈ u_ws RX8 TX8 2, w ∈ wsL_order := by decide +kernel
  have hfl13 := hnw.use (A := ([.ref a_q0, .int p1, .int p2, .ref a_q3] : List Value).toArray) (w := .fieldLinkNest RL 13 "FormwheelLaw$Out" "n" "J" "FormwheelLaw") (by decide +kernel)
  subst hsz
  have hD := hD0.self (sz := s.heap.size)
  generalize hAe : va_A [(a_q0, .inr (6, [.ref a_q0_forms, .ref a_q0_roll, .ref a_q0_row, .ref a_q0_rows, .ref a_q0_factors, .ref a_q0_found, .ref a_q0_foundOtherwise, .int c_q0_acts, .int c_q0_refusals, .int c_q0_knocks])), (a_q0_forms, .inl (cyJ, 6, .inr (.inl f_q0_forms))), (a_q3, .inr (7, [.long c_q3_n, c_q3_s]))] s.heap.size = A at hD hE ⊢
  have hA : ∀ q : Nat, s.heap.size ≤ q → A q := fun q h => by rw [← hAe]; exact Or.inr h
  have hS : va_S A s.heap s.heap [] := va_S.rf
  have hP : va_P D vwCl [(a_q0, .inr (6, [.ref a_q0_forms, .ref a_q0_roll, .ref a_q0_row, .ref a_q0_rows, .ref a_q0_factors, .ref a_q0_found, .ref a_q0_foundOtherwise, .int c_q0_acts, .int c_q0_refusals, .int c_q0_knocks])), (a_q0_forms, .inl (cyJ, 6, .inr (.inl f_q0_forms))), (a_q3, .inr (7, [.long c_q3_n, c_q3_s]))] s.heap := hP
  have hK0 := hK
  have hl := lv_entry ([.ref a_q0, .int p1, .int p2, .ref a_q3]) (n := 5) (Nat.le_of_ble_eq_true rfl)
  rw [lg_entry_eq]
  generalize (lg_sl ([.ref a_q0, .int p1, .int p2, .ref a_q3]) ++ List.replicate (5 - (lg_sl ([.ref a_q0, .int p1, .int p2, .ref a_q3])).length) Slot.unset).toArray = ls at hl ⊢
  have hl : lv_has ls 5 [(0, .ref a_q0), (1, .int p1), (2, .int p2), (3, .ref a_q3)] := hl
  have h := hF
  clear hF
  unfold F_L_order at h
  refine lv_aload_n hx hb dL_order_0 rfl (lv_at hl 3 rfl) ?_
  refine lv_aload_n hx hb dL_order_1 rfl (lv_at hl 0 rfl) ?_
  refine lv_iload_n hx hb dL_order_2 rfl (lv_at hl 1 rfl) ?_
  refine lv_iload_n hx hb dL_order_3 rfl (lv_at hl 2 rfl) ?_
  obtain ⟨xc4, r4, hc4, h⟩ := obn2_h h
  have hPc := hP.sub (ws' := [(a_q0, .inr (6, [.ref a_q0_forms, .ref a_q0_roll, .ref a_q0_row, .ref a_q0_rows, .ref a_q0_factors, .ref a_q0_found, .ref a_q0_foundOtherwise, .int c_q0_acts, .int c_q0_refusals, .int c_q0_knocks])), (a_q0_forms, .inl (cyJ, 6, .inr (.inl f_q0_forms)))]) [0, 1] rfl
  have hDc := hD.sub (ws' := [(a_q0, .inr (6, [.ref a_q0_forms, .ref a_q0_roll, .ref a_q0_row, .ref a_q0_rows, .ref a_q0_factors, .ref a_q0_found, .ref a_q0_foundOtherwise, .int c_q0_acts, .int c_q0_refusals, .int c_q0_knocks])), (a_q0_forms, .inl (cyJ, 6, .inr (.inl f_q0_forms)))]) [0, 1] (by decide) rfl
  refine hx_i (w1 := [(a_q0, .inr (6, [.ref a_q0_forms, .ref a_q0_roll, .ref a_q0_row, .ref a_q0_rows, .ref a_q0_factors, .ref a_q0_found, .ref a_q0_foundOtherwise, .int c_q0_acts, .int c_q0_refusals, .int c_q0_knocks])), (a_q0_forms, .inl (cyJ, 6, .inr (.inl f_q0_forms)))]) (wr := [(a_q3, .inr (7, [.long c_q3_n, c_q3_s]))]) (vx_runV (As := [.int p1, .int p2]) (rest := [.ref a_q3]) hcf (c_X7_order l hfl D cyJ s.heap.size a_q0 a_q0_forms a_q0_roll a_q0_row a_q0_rows a_q0_factors a_q0_found a_q0_foundOtherwise c_q0_acts c_q0_refusals c_q0_knocks f_q0_forms p1 p2 xc4 r4 hc4) (cwV 2 hts gL_order_X7_order rfl rfl rfl ydX7_order ⟨Nat.le_of_ble_eq_true rfl, Nat.le_of_ble_eq_true rfl⟩) ⟨bl_PX, va_recv hK hP (ci := 6) (q0 := 0) rfl rfl, pr_PX hPc hK0 hDc hnw hE hS (va_free hD hS hA [0, 1] rfl)⟩ rfl rfl hl.1 rfl (lv_room (Nat.le_of_ble_eq_true rfl)) dL_order_4 ⟨Nat.le_of_ble_eq_true rfl, Nat.le_of_ble_eq_true rfl⟩) hP hD hS hA [0, 1] [2] rfl rfl (by decide) (by decide) (fun E9 ce9 q9 H locs hx9 hE9 hP hD hS hce9 hcv9 hcl9 => ?_) (fun hx9 H locs hP hD hS => ?_)
  · have h := if_ hx9 h
    have hP : va_P D vwCl [(a_q3, .inr (7, [.long c_q3_n, c_q3_s])), (a_q0, .inr (6, [.ref a_q0_forms, .ref a_q0_roll, .ref a_q0_row, .ref a_q0_rows, .ref a_q0_factors, .ref a_q0_found, .ref a_q0_foundOtherwise, .int c_q0_acts, .int c_q0_refusals, .int c_q0_knocks])), (a_q0_forms, .inl (cyJ, 6, .inr (.inl f_q0_forms)))] H := hP
    have hD : va_D A [(a_q3, .inr (7, [.long c_q3_n, c_q3_s])), (a_q0, .inr (6, [.ref a_q0_forms, .ref a_q0_roll, .ref a_q0_row, .ref a_q0_rows, .ref a_q0_factors, .ref a_q0_found, .ref a_q0_foundOtherwise, .int c_q0_acts, .int c_q0_refusals, .int c_q0_knocks])), (a_q0_forms, .inl (cyJ, 6, .inr (.inl f_q0_forms)))] := hD
    by_cases cx0 : xc4 = 1
    · have h := it_ cx0 h
      have hE1 : E9 = "java/lang/IndexOutOfBoundsException" := by rw [hE9, cx0]; rfl
      subst hE1
      refine vx_catch (name := "java/lang/IndexOutOfBoundsException") hown (tableOf []) ⟨0, 11, 14, 19⟩ (tableOf []) hxt (fun z hz => absurd hz List.not_mem_nil) (by decide) (by decide) (hts (.classLink RL 19 "java/lang/IndexOutOfBoundsException") (by decide +kernel)) (va_Nw.use rfl (hE.2.1 (.castable "java/lang/IndexOutOfBoundsException" "java/lang/IndexOutOfBoundsException") (by decide +kernel))) hce9 hcv9 hcl9 ?_
      refine lv_astore (lv' := [(4, .ref q9), (0, .ref a_q0), (1, .int p1), (2, .int p2), (3, .ref a_q3)]) hx hb dL_order_14 hl (by decide) rfl (fun ls hl => ?_)
      refine lv_iconst (v := 1) hx hb dL_order_16 (by decide) ?_
      obtain ⟨e0, e1⟩ := tup2 h
      subst e0
      subst e1
      have hP9 : va_P D vwCl [(a_q0, .inr (6, [.ref a_q0_forms, .ref a_q0_roll, .ref a_q0_row, .ref a_q0_rows, .ref a_q0_factors, .ref a_q0_found, .ref a_q0_foundOtherwise, .int c_q0_acts, .int c_q0_refusals, .int c_q0_knocks])), (a_q0_forms, .inl (cyJ, 6, .inr (.inl f_q0_forms))), (a_q3, .inr (7, [.long c_q3_n, c_q3_s]))] H := hP.sub [1, 2, 0] rfl
      have hD9 : va_D A [(a_q0, .inr (6, [.ref a_q0_forms, .ref a_q0_roll, .ref a_q0_row, .ref a_q0_rows, .ref a_q0_factors, .ref a_q0_found, .ref a_q0_foundOtherwise, .int c_q0_acts, .int c_q0_refusals, .int c_q0_knocks])), (a_q0_forms, .inl (cyJ, 6, .inr (.inl f_q0_forms))), (a_q3, .inr (7, [.long c_q3_n, c_q3_s]))] := hD.sub [1, 2, 0] (by decide) rfl
      refine vx_ret ?_
      exact W.iret hx hb hr (fun t ht hW => ⟨⟨_, (), rfl, rfl, wQA_of ht hP9 hD9⟩, hS.F ht⟩) hS.2.2 dL_order_17
    have h := if_ cx0 h
    cases h
  · have h := it_ hx9 h
    have hP : va_P D vwCl [(a_q3, .inr (7, [.long c_q3_n, c_q3_s])), (a_q0, .inr (6, [.ref a_q0_forms, .ref a_q0_roll, .ref a_q0_row, .ref a_q0_rows, .ref a_q0_factors, .ref a_q0_found, .ref a_q0_foundOtherwise, .int c_q0_acts, .int c_q0_refusals, .int c_q0_knocks])), (a_q0_forms, .inl (cyJ, 6, .inr (.inl f_q0_forms)))] H := hP
    have hD : va_D A [(a_q3, .inr (7, [.long c_q3_n, c_q3_s])), (a_q0, .inr (6, [.ref a_q0_forms, .ref a_q0_roll, .ref a_q0_row, .ref a_q0_rows, .ref a_q0_factors, .ref a_q0_found, .ref a_q0_foundOtherwise, .int c_q0_acts, .int c_q0_refusals, .int c_q0_knocks])), (a_q0_forms, .inl (cyJ, 6, .inr (.inl f_q0_forms)))] := hD
    refine lv_i2l (v := r4.toInt64) hx hb dL_order_7 rfl ?_
    refine lv_topl (fun c_q3_n_8 e_c_q3_n_8 => ?_)
    have h := bnd_h e_c_q3_n_8 h
    refine va_putN (D := D) (ci := 7) (v := .long c_q3_n_8) (ty := .long) (C := RX8) (T := TX8) (N := 2) hx hb hts hinX8 tyX8 tyX8_ok nmX8 hown hK hP hD hS 0 rfl rfl 0 (by decide) hfl13 (fun _ h9 => h9) rfl (by decide +kernel) rfl rfl (Nat.le_of_ble_eq_true rfl) dL_order_8 (fun H locs hP hD hS => ?_)
    have hP : va_P D vwCl [(a_q3, .inr (7, [.long c_q3_n_8, c_q3_s])), (a_q0, .inr (6, [.ref a_q0_forms, .ref a_q0_roll, .ref a_q0_row, .ref a_q0_rows, .ref a_q0_factors, .ref a_q0_found, .ref a_q0_foundOtherwise, .int c_q0_acts, .int c_q0_refusals, .int c_q0_knocks])), (a_q0_forms, .inl (cyJ, 6, .inr (.inl f_q0_forms)))] H := hP
    have hD : va_D A [(a_q3, .inr (7, [.long c_q3_n_8, c_q3_s])), (a_q0, .inr (6, [.ref a_q0_forms, .ref a_q0_roll, .ref a_q0_row, .ref a_q0_rows, .ref a_q0_factors, .ref a_q0_found, .ref a_q0_foundOtherwise, .int c_q0_acts, .int c_q0_refusals, .int c_q0_knocks])), (a_q0_forms, .inl (cyJ, 6, .inr (.inl f_q0_forms)))] := hD
    refine lv_goto (tgt := 18) hx hb dL_order_11 (by decide) ?_
    refine lv_iconst (v := 0) hx hb dL_order_18 (by decide) ?_
    obtain ⟨e0, e1⟩ := tup2 h
    subst e0
    subst e1
    have hP9 : va_P D vwCl [(a_q0, .inr (6, [.ref a_q0_forms, .ref a_q0_roll, .ref a_q0_row, .ref a_q0_rows, .ref a_q0_factors, .ref a_q0_found, .ref a_q0_foundOtherwise, .int c_q0_acts, .int c_q0_refusals, .int c_q0_knocks])), (a_q0_forms, .inl (cyJ, 6, .inr (.inl f_q0_forms))), (a_q3, .inr (7, [.long c_q3_n_8, c_q3_s]))] H := hP.sub [1, 2, 0] rfl
    have hD9 : va_D A [(a_q0, .inr (6, [.ref a_q0_forms, .ref a_q0_roll, .ref a_q0_row, .ref a_q0_rows, .ref a_q0_factors, .ref a_q0_found, .ref a_q0_foundOtherwise, .int c_q0_acts, .int c_q0_refusals, .int c_q0_knocks])), (a_q0_forms, .inl (cyJ, 6, .inr (.inl f_q0_forms))), (a_q3, .inr (7, [.long c_q3_n_8, c_q3_s]))] := hD.sub [1, 2, 0] (by decide) rfl
    refine vx_ret ?_
    exact W.iret hx hb hr (fun t ht hW => ⟨⟨_, (), rfl, rfl, wQA_of ht hP9 hD9⟩, hS.F ht⟩) hS.2.2 dL_order_19

noncomputable abbrev rmL_divides : Room := { frames := 10, cells := 2, slots := 12, locals := 142 }
theorem ydL_divides : yL_divides.cls ≠ "java/lang/invoke/MethodHandle" ∧ yL_divides.cls ≠ "java/lang/invoke/VarHandle" ∧ (parseMethodDescriptor yL_divides.desc).map (fun d => d.parameters.length) = some 4 := by decide +kernel
noncomputable def F_L_divides (f_q0_forms : Nat → Int64) (c_q3_n : Int64) (p1 : Int32) (p2 : Int32) : Option (Int32 × Int64) :=
 obn2 (F_X7_divides f_q0_forms p1 p2) (fun xc4 r4 =>
 if xc4 = 0 then
 (if r4 = 0 then
 some ((0 : Int32), (0 : Int64))
else
 some ((0 : Int32), (1 : Int64)))
else
 (if xc4 = 1 then
 some ((1 : Int32), c_q3_n)
else
 none))
set_option maxHeartbeats 4000000 in
set_option maxRecDepth 100000 in
theorem c_L_divides (l : Launch) (hfl : l.stackTraces = false) (D : va_G) (cyJ : ClassId) (sz : Nat) (a_q0 : Nat) (a_q3 : Nat) (a_q0_forms : Nat) (a_q0_roll : Nat) (a_q0_row : Nat) (a_q0_rows : Nat) (a_q0_factors : Nat) (a_q0_found : Nat) (a_q0_foundOtherwise : Nat) (c_q0_acts : Int32) (c_q0_refusals : Int32) (c_q0_knocks : Int32) (f_q0_forms : Nat → Int64) (c_q3_n : Int64) (c_q3_s : Value) (p1 : Int32) (p2 : Int32) (r0 : Int32) (o_c_q3_n : Int64) (hF : F_L_divides f_q0_forms c_q3_n p1 p2 = some (r0, o_c_q3_n)) : vx_Met l yL_divides wsL_divides rmL_divides (va_Pc [.ref a_q0, .int p1, .int p2, .ref a_q3] (wPL D [(cyJ, .long)] [(a_q0, .inr (6, [.ref a_q0_forms, .ref a_q0_roll, .ref a_q0_row, .ref a_q0_rows, .ref a_q0_factors, .ref a_q0_found, .ref a_q0_foundOtherwise, .int c_q0_acts, .int c_q0_refusals, .int c_q0_knocks])), (a_q0_forms, .inl (cyJ, 6, .inr (.inl f_q0_forms))), (a_q3, .inr (7, [.long c_q3_n, c_q3_s]))] sz)) (va_Qi (fun (r : Int32) (_ : Unit) => r = r0) (fun _ t => wQA D [(a_q0, .inr (6, [.ref a_q0_forms, .ref a_q0_roll, .ref a_q0_row, .ref a_q0_rows, .ref a_q0_factors, .ref a_q0_found, .ref a_q0_foundOtherwise, .int c_q0_acts, .int c_q0_refusals, .int c_q0_knocks])), (a_q0_forms, .inl (cyJ, 6, .inr (.inl f_q0_forms))), (a_q3, .inr (7, [.long o_c_q3_n, c_q3_s]))] (va_A [(a_q0, .inr (6, [.ref a_q0_forms, .ref a_q0_roll, .ref a_q0_row, .ref a_q0_rows, .ref a_q0_factors, .ref a_q0_found, .ref a_q0_foundOtherwise, .int c_q0_acts, .int c_q0_refusals, .int c_q0_knocks])), (a_q0_forms, .inl (cyJ, 6, .inr (.inl f_q0_forms))), (a_q3, .inr (7, [.long c_q3_n, c_q3_s]))] sz) t) (va_A [(a_q0, .inr (6, [.ref a_q0_forms, .ref a_q0_roll, .ref a_q0_row, .ref a_q0_rows, .ref a_q0_factors, .ref a_q0_found, .ref a_q0_foundOtherwise, .int c_q0_acts, .int c_q0_refusals, .int c_q0_knocks])), (a_q0_forms, .inl (cyJ, 6, .inr (.inl f_q0_forms))), (a_q3, .inr (7, [.long c_q3_n, c_q3_s]))] sz)) (fun _ _ _ => False) 2 12 (va_A [(a_q0, .inr (6, [.ref a_q0_forms, .ref a_q0_roll, .ref a_q0_row, .ref a_q0_rows, .ref a_q0_factors, .ref a_q0_found, .ref a_q0_foundOtherwise, .int c_q0_acts, .int c_q0_refusals, .int c_q0_knocks])), (a_q0_forms, .inl (cyJ, 6, .inr (.inl f_q0_forms))), (a_q3, .inr (7, [.long c_q3_n, c_q3_s]))] sz) := by
  refine vx_ofWH (cc := cL_divides) (maxL := 5) (ret := (some .int)) (hh := [(0, 18, 21, 19)]) (by decide) rfl ?_
  intro p e s m args below meth c s₁ B hml hv
  obtain ⟨rfl, ⟨⟨hsz, hP, hK, hD0, hnw⟩, hE⟩, hNc⟩ := hv
  have hx := B.exec
  have hb := B.bytes
  have hr := B.returns
  have hts := atoms_spec (ws := wsL_divides) B.pre
  have hown : s.vm.findClass RL = some m.cls := findClass_of_methodNamed B.named
  have hlocks := B.notSynchronized
  have hcf : CallFix _ _ _ _ _ _ _ _ _ := ⟨hx, hb, hml, hown, hts⟩
  have hxt : c.exceptionTable.toList = tableOf [(0, 18, 21, 19)] := vx_table (x := yL_divides) B (hts _ List.mem_cons_self)
  have hinX8 : ∀ w ∈ u_ws RX8 TX8 2, w ∈ wsL_divides := by decide +kernel
  have hfl13 := hnw.use (A := ([.ref a_q0, .int p1, .int p2, .ref a_q3] : List Value).toArray) (w := .fieldLinkNest RL 13 "FormwheelLaw$Out" "n" "J" "FormwheelLaw") (by decide +kernel)
  subst hsz
  have hD := hD0.self (sz := s.heap.size)
  generalize hAe : va_A [(a_q0, .inr (6, [.ref a_q0_forms, .ref a_q0_roll, .ref a_q0_row, .ref a_q0_rows, .ref a_q0_factors, .ref a_q0_found, .ref a_q0_foundOtherwise, .int c_q0_acts, .int c_q0_refusals, .int c_q0_knocks])), (a_q0_forms, .inl (cyJ, 6, .inr (.inl f_q0_forms))), (a_q3, .inr (7, [.long c_q3_n, c_q3_s]))] s.heap.size = A at hD hE ⊢
  have hA : ∀ q : Nat, s.heap.size ≤ q → A q := fun q h => by rw [← hAe]; exact Or.inr h
  have hS : va_S A s.heap s.heap [] := va_S.rf
  have hP : va_P D vwCl [(a_q0, .inr (6, [.ref a_q0_forms, .ref a_q0_roll, .ref a_q0_row, .ref a_q0_rows, .ref a_q0_factors, .ref a_q0_found, .ref a_q0_foundOtherwise, .int c_q0_acts, .int c_q0_refusals, .int c_q0_knocks])), (a_q0_forms, .inl (cyJ, 6, .inr (.inl f_q0_forms))), (a_q3, .inr (7, [.long c_q3_n, c_q3_s]))] s.heap := hP
  have hK0 := hK
  have hl := lv_entry ([.ref a_q0, .int p1, .int p2, .ref a_q3]) (n := 5) (Nat.le_of_ble_eq_true rfl)
  rw [lg_entry_eq]
  generalize (lg_sl ([.ref a_q0, .int p1, .int p2, .ref a_q3]) ++ List.replicate (5 - (lg_sl ([.ref a_q0, .int p1, .int p2, .ref a_q3])).length) Slot.unset).toArray = ls at hl ⊢
  have hl : lv_has ls 5 [(0, .ref a_q0), (1, .int p1), (2, .int p2), (3, .ref a_q3)] := hl
  have h := hF
  clear hF
  unfold F_L_divides at h
  refine lv_aload_n hx hb dL_divides_0 rfl (lv_at hl 3 rfl) ?_
  refine lv_aload_n hx hb dL_divides_1 rfl (lv_at hl 0 rfl) ?_
  refine lv_iload_n hx hb dL_divides_2 rfl (lv_at hl 1 rfl) ?_
  refine lv_iload_n hx hb dL_divides_3 rfl (lv_at hl 2 rfl) ?_
  obtain ⟨xc4, r4, hc4, h⟩ := obn2_h h
  have hPc := hP.sub (ws' := [(a_q0, .inr (6, [.ref a_q0_forms, .ref a_q0_roll, .ref a_q0_row, .ref a_q0_rows, .ref a_q0_factors, .ref a_q0_found, .ref a_q0_foundOtherwise, .int c_q0_acts, .int c_q0_refusals, .int c_q0_knocks])), (a_q0_forms, .inl (cyJ, 6, .inr (.inl f_q0_forms)))]) [0, 1] rfl
  have hDc := hD.sub (ws' := [(a_q0, .inr (6, [.ref a_q0_forms, .ref a_q0_roll, .ref a_q0_row, .ref a_q0_rows, .ref a_q0_factors, .ref a_q0_found, .ref a_q0_foundOtherwise, .int c_q0_acts, .int c_q0_refusals, .int c_q0_knocks])), (a_q0_forms, .inl (cyJ, 6, .inr (.inl f_q0_forms)))]) [0, 1] (by decide) rfl
  refine hx_i (w1 := [(a_q0, .inr (6, [.ref a_q0_forms, .ref a_q0_roll, .ref a_q0_row, .ref a_q0_rows, .ref a_q0_factors, .ref a_q0_found, .ref a_q0_foundOtherwise, .int c_q0_acts, .int c_q0_refusals, .int c_q0_knocks])), (a_q0_forms, .inl (cyJ, 6, .inr (.inl f_q0_forms)))]) (wr := [(a_q3, .inr (7, [.long c_q3_n, c_q3_s]))]) (vx_runV (As := [.int p1, .int p2]) (rest := [.ref a_q3]) hcf (c_X7_divides l hfl D cyJ s.heap.size a_q0 a_q0_forms a_q0_roll a_q0_row a_q0_rows a_q0_factors a_q0_found a_q0_foundOtherwise c_q0_acts c_q0_refusals c_q0_knocks f_q0_forms p1 p2 xc4 r4 hc4) (cwV 2 hts gL_divides_X7_divides rfl rfl rfl ydX7_divides ⟨Nat.le_of_ble_eq_true rfl, Nat.le_of_ble_eq_true rfl⟩) ⟨bl_PX, va_recv hK hP (ci := 6) (q0 := 0) rfl rfl, pr_PX hPc hK0 hDc hnw hE hS (va_free hD hS hA [0, 1] rfl)⟩ rfl rfl hl.1 rfl (lv_room (Nat.le_of_ble_eq_true rfl)) dL_divides_4 ⟨Nat.le_of_ble_eq_true rfl, Nat.le_of_ble_eq_true rfl⟩) hP hD hS hA [0, 1] [2] rfl rfl (by decide) (by decide) (fun E9 ce9 q9 H locs hx9 hE9 hP hD hS hce9 hcv9 hcl9 => ?_) (fun hx9 H locs hP hD hS => ?_)
  · have h := if_ hx9 h
    have hP : va_P D vwCl [(a_q3, .inr (7, [.long c_q3_n, c_q3_s])), (a_q0, .inr (6, [.ref a_q0_forms, .ref a_q0_roll, .ref a_q0_row, .ref a_q0_rows, .ref a_q0_factors, .ref a_q0_found, .ref a_q0_foundOtherwise, .int c_q0_acts, .int c_q0_refusals, .int c_q0_knocks])), (a_q0_forms, .inl (cyJ, 6, .inr (.inl f_q0_forms)))] H := hP
    have hD : va_D A [(a_q3, .inr (7, [.long c_q3_n, c_q3_s])), (a_q0, .inr (6, [.ref a_q0_forms, .ref a_q0_roll, .ref a_q0_row, .ref a_q0_rows, .ref a_q0_factors, .ref a_q0_found, .ref a_q0_foundOtherwise, .int c_q0_acts, .int c_q0_refusals, .int c_q0_knocks])), (a_q0_forms, .inl (cyJ, 6, .inr (.inl f_q0_forms)))] := hD
    by_cases cx0 : xc4 = 1
    · have h := it_ cx0 h
      have hE1 : E9 = "java/lang/IndexOutOfBoundsException" := by rw [hE9, cx0]; rfl
      subst hE1
      refine vx_catch (name := "java/lang/IndexOutOfBoundsException") hown (tableOf []) ⟨0, 18, 21, 19⟩ (tableOf []) hxt (fun z hz => absurd hz List.not_mem_nil) (by decide) (by decide) (hts (.classLink RL 19 "java/lang/IndexOutOfBoundsException") (by decide +kernel)) (va_Nw.use rfl (hE.2.1 (.castable "java/lang/IndexOutOfBoundsException" "java/lang/IndexOutOfBoundsException") (by decide +kernel))) hce9 hcv9 hcl9 ?_
      refine lv_astore (lv' := [(4, .ref q9), (0, .ref a_q0), (1, .int p1), (2, .int p2), (3, .ref a_q3)]) hx hb dL_divides_21 hl (by decide) rfl (fun ls hl => ?_)
      refine lv_iconst (v := 1) hx hb dL_divides_23 (by decide) ?_
      obtain ⟨e0, e1⟩ := tup2 h
      subst e0
      subst e1
      have hP9 : va_P D vwCl [(a_q0, .inr (6, [.ref a_q0_forms, .ref a_q0_roll, .ref a_q0_row, .ref a_q0_rows, .ref a_q0_factors, .ref a_q0_found, .ref a_q0_foundOtherwise, .int c_q0_acts, .int c_q0_refusals, .int c_q0_knocks])), (a_q0_forms, .inl (cyJ, 6, .inr (.inl f_q0_forms))), (a_q3, .inr (7, [.long c_q3_n, c_q3_s]))] H := hP.sub [1, 2, 0] rfl
      have hD9 : va_D A [(a_q0, .inr (6, [.ref a_q0_forms, .ref a_q0_roll, .ref a_q0_row, .ref a_q0_rows, .ref a_q0_factors, .ref a_q0_found, .ref a_q0_foundOtherwise, .int c_q0_acts, .int c_q0_refusals, .int c_q0_knocks])), (a_q0_forms, .inl (cyJ, 6, .inr (.inl f_q0_forms))), (a_q3, .inr (7, [.long c_q3_n, c_q3_s]))] := hD.sub [1, 2, 0] (by decide) rfl
      refine vx_ret ?_
      exact W.iret hx hb hr (fun t ht hW => ⟨⟨_, (), rfl, rfl, wQA_of ht hP9 hD9⟩, hS.F ht⟩) hS.2.2 dL_divides_24
    have h := if_ cx0 h
    cases h
  · have h := it_ hx9 h
    have hP : va_P D vwCl [(a_q3, .inr (7, [.long c_q3_n, c_q3_s])), (a_q0, .inr (6, [.ref a_q0_forms, .ref a_q0_roll, .ref a_q0_row, .ref a_q0_rows, .ref a_q0_factors, .ref a_q0_found, .ref a_q0_foundOtherwise, .int c_q0_acts, .int c_q0_refusals, .int c_q0_knocks])), (a_q0_forms, .inl (cyJ, 6, .inr (.inl f_q0_forms)))] H := hP
    have hD : va_D A [(a_q3, .inr (7, [.long c_q3_n, c_q3_s])), (a_q0, .inr (6, [.ref a_q0_forms, .ref a_q0_roll, .ref a_q0_row, .ref a_q0_rows, .ref a_q0_factors, .ref a_q0_found, .ref a_q0_foundOtherwise, .int c_q0_acts, .int c_q0_refusals, .int c_q0_knocks])), (a_q0_forms, .inl (cyJ, 6, .inr (.inl f_q0_forms)))] := hD
    refine lv_if_eq (tgt := 14) hx hb dL_divides_7 (by decide) (fun c7 => ?_) (fun c7 => ?_)
    · have h := it_ c7 h
      refine lv_lconst (v := 0) hx hb dL_divides_14 (by decide) ?_
      refine va_putN (D := D) (ci := 7) (v := .long (0 : Int64)) (ty := .long) (C := RX8) (T := TX8) (N := 2) hx hb hts hinX8 tyX8 tyX8_ok nmX8 hown hK hP hD hS 0 rfl rfl 0 (by decide) hfl13 (fun _ h9 => h9) rfl (by decide +kernel) rfl rfl (Nat.le_of_ble_eq_true rfl) dL_divides_15 (fun H locs hP hD hS => ?_)
      have hP : va_P D vwCl [(a_q3, .inr (7, [.long (0 : Int64), c_q3_s])), (a_q0, .inr (6, [.ref a_q0_forms, .ref a_q0_roll, .ref a_q0_row, .ref a_q0_rows, .ref a_q0_factors, .ref a_q0_found, .ref a_q0_foundOtherwise, .int c_q0_acts, .int c_q0_refusals, .int c_q0_knocks])), (a_q0_forms, .inl (cyJ, 6, .inr (.inl f_q0_forms)))] H := hP
      have hD : va_D A [(a_q3, .inr (7, [.long (0 : Int64), c_q3_s])), (a_q0, .inr (6, [.ref a_q0_forms, .ref a_q0_roll, .ref a_q0_row, .ref a_q0_rows, .ref a_q0_factors, .ref a_q0_found, .ref a_q0_foundOtherwise, .int c_q0_acts, .int c_q0_refusals, .int c_q0_knocks])), (a_q0_forms, .inl (cyJ, 6, .inr (.inl f_q0_forms)))] := hD
      refine lv_goto (tgt := 25) hx hb dL_divides_18 (by decide) ?_
      refine lv_iconst (v := 0) hx hb dL_divides_25 (by decide) ?_
      obtain ⟨e0, e1⟩ := tup2 h
      subst e0
      subst e1
      have hP9 : va_P D vwCl [(a_q0, .inr (6, [.ref a_q0_forms, .ref a_q0_roll, .ref a_q0_row, .ref a_q0_rows, .ref a_q0_factors, .ref a_q0_found, .ref a_q0_foundOtherwise, .int c_q0_acts, .int c_q0_refusals, .int c_q0_knocks])), (a_q0_forms, .inl (cyJ, 6, .inr (.inl f_q0_forms))), (a_q3, .inr (7, [.long (0 : Int64), c_q3_s]))] H := hP.sub [1, 2, 0] rfl
      have hD9 : va_D A [(a_q0, .inr (6, [.ref a_q0_forms, .ref a_q0_roll, .ref a_q0_row, .ref a_q0_rows, .ref a_q0_factors, .ref a_q0_found, .ref a_q0_foundOtherwise, .int c_q0_acts, .int c_q0_refusals, .int c_q0_knocks])), (a_q0_forms, .inl (cyJ, 6, .inr (.inl f_q0_forms))), (a_q3, .inr (7, [.long (0 : Int64), c_q3_s]))] := hD.sub [1, 2, 0] (by decide) rfl
      refine vx_ret ?_
      exact W.iret hx hb hr (fun t ht hW => ⟨⟨_, (), rfl, rfl, wQA_of ht hP9 hD9⟩, hS.F ht⟩) hS.2.2 dL_divides_26
    · have h := if_ c7 h
      refine lv_lconst (v := 1) hx hb dL_divides_10 (by decide) ?_
      refine lv_goto (tgt := 15) hx hb dL_divides_11 (by decide) ?_
      refine va_putN (D := D) (ci := 7) (v := .long (1 : Int64)) (ty := .long) (C := RX8) (T := TX8) (N := 2) hx hb hts hinX8 tyX8 tyX8_ok nmX8 hown hK hP hD hS 0 rfl rfl 0 (by decide) hfl13 (fun _ h9 => h9) rfl (by decide +kernel) rfl rfl (Nat.le_of_ble_eq_true rfl) dL_divides_15 (fun H locs hP hD hS => ?_)
      have hP : va_P D vwCl [(a_q3, .inr (7, [.long (1 : Int64), c_q3_s])), (a_q0, .inr (6, [.ref a_q0_forms, .ref a_q0_roll, .ref a_q0_row, .ref a_q0_rows, .ref a_q0_factors, .ref a_q0_found, .ref a_q0_foundOtherwise, .int c_q0_acts, .int c_q0_refusals, .int c_q0_knocks])), (a_q0_forms, .inl (cyJ, 6, .inr (.inl f_q0_forms)))] H := hP
      have hD : va_D A [(a_q3, .inr (7, [.long (1 : Int64), c_q3_s])), (a_q0, .inr (6, [.ref a_q0_forms, .ref a_q0_roll, .ref a_q0_row, .ref a_q0_rows, .ref a_q0_factors, .ref a_q0_found, .ref a_q0_foundOtherwise, .int c_q0_acts, .int c_q0_refusals, .int c_q0_knocks])), (a_q0_forms, .inl (cyJ, 6, .inr (.inl f_q0_forms)))] := hD
      refine lv_goto (tgt := 25) hx hb dL_divides_18 (by decide) ?_
      refine lv_iconst (v := 0) hx hb dL_divides_25 (by decide) ?_
      obtain ⟨e0, e1⟩ := tup2 h
      subst e0
      subst e1
      have hP9 : va_P D vwCl [(a_q0, .inr (6, [.ref a_q0_forms, .ref a_q0_roll, .ref a_q0_row, .ref a_q0_rows, .ref a_q0_factors, .ref a_q0_found, .ref a_q0_foundOtherwise, .int c_q0_acts, .int c_q0_refusals, .int c_q0_knocks])), (a_q0_forms, .inl (cyJ, 6, .inr (.inl f_q0_forms))), (a_q3, .inr (7, [.long (1 : Int64), c_q3_s]))] H := hP.sub [1, 2, 0] rfl
      have hD9 : va_D A [(a_q0, .inr (6, [.ref a_q0_forms, .ref a_q0_roll, .ref a_q0_row, .ref a_q0_rows, .ref a_q0_factors, .ref a_q0_found, .ref a_q0_foundOtherwise, .int c_q0_acts, .int c_q0_refusals, .int c_q0_knocks])), (a_q0_forms, .inl (cyJ, 6, .inr (.inl f_q0_forms))), (a_q3, .inr (7, [.long (1 : Int64), c_q3_s]))] := hD.sub [1, 2, 0] (by decide) rfl
      refine vx_ret ?_
      exact W.iret hx hb hr (fun t ht hW => ⟨⟨_, (), rfl, rfl, wQA_of ht hP9 hD9⟩, hS.F ht⟩) hS.2.2 dL_divides_26

noncomputable abbrev rmL_check : Room := { frames := 10, cells := 2, slots := 12, locals := 142 }
theorem ydL_check : yL_check.cls ≠ "java/lang/invoke/MethodHandle" ∧ yL_check.cls ≠ "java/lang/invoke/VarHandle" ∧ (parseMethodDescriptor yL_check.desc).map (fun d => d.parameters.length) = some 4 := by decide +kernel
noncomputable def F_L_check (f_q0_forms : Nat → Int64) (c_q3_n : Int64) (p1 : Int32) (p2 : Int32) : Option (Int32 × Int64) :=
 obn2 (F_X7_check f_q0_forms p1 p2) (fun xc4 r4 =>
 if xc4 = 0 then
 bnd r4.toInt64 (fun c_q3_n_8 =>
 some ((0 : Int32), c_q3_n_8))
else
 (if xc4 = 1 then
 some ((1 : Int32), c_q3_n)
else
 none))
set_option maxHeartbeats 4000000 in
set_option maxRecDepth 100000 in
theorem c_L_check (l : Launch) (hfl : l.stackTraces = false) (D : va_G) (cyJ : ClassId) (sz : Nat) (a_q0 : Nat) (a_q3 : Nat) (a_q0_forms : Nat) (a_q0_roll : Nat) (a_q0_row : Nat) (a_q0_rows : Nat) (a_q0_factors : Nat) (a_q0_found : Nat) (a_q0_foundOtherwise : Nat) (c_q0_acts : Int32) (c_q0_refusals : Int32) (c_q0_knocks : Int32) (f_q0_forms : Nat → Int64) (c_q3_n : Int64) (c_q3_s : Value) (p1 : Int32) (p2 : Int32) (r0 : Int32) (o_c_q3_n : Int64) (hF : F_L_check f_q0_forms c_q3_n p1 p2 = some (r0, o_c_q3_n)) : vx_Met l yL_check wsL_check rmL_check (va_Pc [.ref a_q0, .int p1, .int p2, .ref a_q3] (wPL D [(cyJ, .long)] [(a_q0, .inr (6, [.ref a_q0_forms, .ref a_q0_roll, .ref a_q0_row, .ref a_q0_rows, .ref a_q0_factors, .ref a_q0_found, .ref a_q0_foundOtherwise, .int c_q0_acts, .int c_q0_refusals, .int c_q0_knocks])), (a_q0_forms, .inl (cyJ, 6, .inr (.inl f_q0_forms))), (a_q3, .inr (7, [.long c_q3_n, c_q3_s]))] sz)) (va_Qi (fun (r : Int32) (_ : Unit) => r = r0) (fun _ t => wQA D [(a_q0, .inr (6, [.ref a_q0_forms, .ref a_q0_roll, .ref a_q0_row, .ref a_q0_rows, .ref a_q0_factors, .ref a_q0_found, .ref a_q0_foundOtherwise, .int c_q0_acts, .int c_q0_refusals, .int c_q0_knocks])), (a_q0_forms, .inl (cyJ, 6, .inr (.inl f_q0_forms))), (a_q3, .inr (7, [.long o_c_q3_n, c_q3_s]))] (va_A [(a_q0, .inr (6, [.ref a_q0_forms, .ref a_q0_roll, .ref a_q0_row, .ref a_q0_rows, .ref a_q0_factors, .ref a_q0_found, .ref a_q0_foundOtherwise, .int c_q0_acts, .int c_q0_refusals, .int c_q0_knocks])), (a_q0_forms, .inl (cyJ, 6, .inr (.inl f_q0_forms))), (a_q3, .inr (7, [.long c_q3_n, c_q3_s]))] sz) t) (va_A [(a_q0, .inr (6, [.ref a_q0_forms, .ref a_q0_roll, .ref a_q0_row, .ref a_q0_rows, .ref a_q0_factors, .ref a_q0_found, .ref a_q0_foundOtherwise, .int c_q0_acts, .int c_q0_refusals, .int c_q0_knocks])), (a_q0_forms, .inl (cyJ, 6, .inr (.inl f_q0_forms))), (a_q3, .inr (7, [.long c_q3_n, c_q3_s]))] sz)) (fun _ _ _ => False) 2 12 (va_A [(a_q0, .inr (6, [.ref a_q0_forms, .ref a_q0_roll, .ref a_q0_row, .ref a_q0_rows, .ref a_q0_factors, .ref a_q0_found, .ref a_q0_foundOtherwise, .int c_q0_acts, .int c_q0_refusals, .int c_q0_knocks])), (a_q0_forms, .inl (cyJ, 6, .inr (.inl f_q0_forms))), (a_q3, .inr (7, [.long c_q3_n, c_q3_s]))] sz) := by
  refine vx_ofWH (cc := cL_check) (maxL := 5) (ret := (some .int)) (hh := [(0, 11, 14, 19)]) (by decide) rfl ?_
  intro p e s m args below meth c s₁ B hml hv
  obtain ⟨rfl, ⟨⟨hsz, hP, hK, hD0, hnw⟩, hE⟩, hNc⟩ := hv
  have hx := B.exec
  have hb := B.bytes
  have hr := B.returns
  have hts := atoms_spec (ws := wsL_check) B.pre
  have hown : s.vm.findClass RL = some m.cls := findClass_of_methodNamed B.named
  have hlocks := B.notSynchronized
  have hcf : CallFix _ _ _ _ _ _ _ _ _ := ⟨hx, hb, hml, hown, hts⟩
  have hxt : c.exceptionTable.toList = tableOf [(0, 11, 14, 19)] := vx_table (x := yL_check) B (hts _ List.mem_cons_self)
  have hinX8 : ∀ w ∈ u_ws RX8 TX8 2, w ∈ wsL_check := by decide +kernel
  have hfl13 := hnw.use (A := ([.ref a_q0, .int p1, .int p2, .ref a_q3] : List Value).toArray) (w := .fieldLinkNest RL 13 "FormwheelLaw$Out" "n" "J" "FormwheelLaw") (by decide +kernel)
  subst hsz
  have hD := hD0.self (sz := s.heap.size)
  generalize hAe : va_A [(a_q0, .inr (6, [.ref a_q0_forms, .ref a_q0_roll, .ref a_q0_row, .ref a_q0_rows, .ref a_q0_factors, .ref a_q0_found, .ref a_q0_foundOtherwise, .int c_q0_acts, .int c_q0_refusals, .int c_q0_knocks])), (a_q0_forms, .inl (cyJ, 6, .inr (.inl f_q0_forms))), (a_q3, .inr (7, [.long c_q3_n, c_q3_s]))] s.heap.size = A at hD hE ⊢
  have hA : ∀ q : Nat, s.heap.size ≤ q → A q := fun q h => by rw [← hAe]; exact Or.inr h
  have hS : va_S A s.heap s.heap [] := va_S.rf
  have hP : va_P D vwCl [(a_q0, .inr (6, [.ref a_q0_forms, .ref a_q0_roll, .ref a_q0_row, .ref a_q0_rows, .ref a_q0_factors, .ref a_q0_found, .ref a_q0_foundOtherwise, .int c_q0_acts, .int c_q0_refusals, .int c_q0_knocks])), (a_q0_forms, .inl (cyJ, 6, .inr (.inl f_q0_forms))), (a_q3, .inr (7, [.long c_q3_n, c_q3_s]))] s.heap := hP
  have hK0 := hK
  have hl := lv_entry ([.ref a_q0, .int p1, .int p2, .ref a_q3]) (n := 5) (Nat.le_of_ble_eq_true rfl)
  rw [lg_entry_eq]
  generalize (lg_sl ([.ref a_q0, .int p1, .int p2, .ref a_q3]) ++ List.replicate (5 - (lg_sl ([.ref a_q0, .int p1, .int p2, .ref a_q3])).length) Slot.unset).toArray = ls at hl ⊢
  have hl : lv_has ls 5 [(0, .ref a_q0), (1, .int p1), (2, .int p2), (3, .ref a_q3)] := hl
  have h := hF
  clear hF
  unfold F_L_check at h
  refine lv_aload_n hx hb dL_check_0 rfl (lv_at hl 3 rfl) ?_
  refine lv_aload_n hx hb dL_check_1 rfl (lv_at hl 0 rfl) ?_
  refine lv_iload_n hx hb dL_check_2 rfl (lv_at hl 1 rfl) ?_
  refine lv_iload_n hx hb dL_check_3 rfl (lv_at hl 2 rfl) ?_
  obtain ⟨xc4, r4, hc4, h⟩ := obn2_h h
  have hPc := hP.sub (ws' := [(a_q0, .inr (6, [.ref a_q0_forms, .ref a_q0_roll, .ref a_q0_row, .ref a_q0_rows, .ref a_q0_factors, .ref a_q0_found, .ref a_q0_foundOtherwise, .int c_q0_acts, .int c_q0_refusals, .int c_q0_knocks])), (a_q0_forms, .inl (cyJ, 6, .inr (.inl f_q0_forms)))]) [0, 1] rfl
  have hDc := hD.sub (ws' := [(a_q0, .inr (6, [.ref a_q0_forms, .ref a_q0_roll, .ref a_q0_row, .ref a_q0_rows, .ref a_q0_factors, .ref a_q0_found, .ref a_q0_foundOtherwise, .int c_q0_acts, .int c_q0_refusals, .int c_q0_knocks])), (a_q0_forms, .inl (cyJ, 6, .inr (.inl f_q0_forms)))]) [0, 1] (by decide) rfl
  refine hx_i (w1 := [(a_q0, .inr (6, [.ref a_q0_forms, .ref a_q0_roll, .ref a_q0_row, .ref a_q0_rows, .ref a_q0_factors, .ref a_q0_found, .ref a_q0_foundOtherwise, .int c_q0_acts, .int c_q0_refusals, .int c_q0_knocks])), (a_q0_forms, .inl (cyJ, 6, .inr (.inl f_q0_forms)))]) (wr := [(a_q3, .inr (7, [.long c_q3_n, c_q3_s]))]) (vx_runV (As := [.int p1, .int p2]) (rest := [.ref a_q3]) hcf (c_X7_check l hfl D cyJ s.heap.size a_q0 a_q0_forms a_q0_roll a_q0_row a_q0_rows a_q0_factors a_q0_found a_q0_foundOtherwise c_q0_acts c_q0_refusals c_q0_knocks f_q0_forms p1 p2 xc4 r4 hc4) (cwV 2 hts gL_check_X7_check rfl rfl rfl ydX7_check ⟨Nat.le_of_ble_eq_true rfl, Nat.le_of_ble_eq_true rfl⟩) ⟨bl_PX, va_recv hK hP (ci := 6) (q0 := 0) rfl rfl, pr_PX hPc hK0 hDc hnw hE hS (va_free hD hS hA [0, 1] rfl)⟩ rfl rfl hl.1 rfl (lv_room (Nat.le_of_ble_eq_true rfl)) dL_check_4 ⟨Nat.le_of_ble_eq_true rfl, Nat.le_of_ble_eq_true rfl⟩) hP hD hS hA [0, 1] [2] rfl rfl (by decide) (by decide) (fun E9 ce9 q9 H locs hx9 hE9 hP hD hS hce9 hcv9 hcl9 => ?_) (fun hx9 H locs hP hD hS => ?_)
  · have h := if_ hx9 h
    have hP : va_P D vwCl [(a_q3, .inr (7, [.long c_q3_n, c_q3_s])), (a_q0, .inr (6, [.ref a_q0_forms, .ref a_q0_roll, .ref a_q0_row, .ref a_q0_rows, .ref a_q0_factors, .ref a_q0_found, .ref a_q0_foundOtherwise, .int c_q0_acts, .int c_q0_refusals, .int c_q0_knocks])), (a_q0_forms, .inl (cyJ, 6, .inr (.inl f_q0_forms)))] H := hP
    have hD : va_D A [(a_q3, .inr (7, [.long c_q3_n, c_q3_s])), (a_q0, .inr (6, [.ref a_q0_forms, .ref a_q0_roll, .ref a_q0_row, .ref a_q0_rows, .ref a_q0_factors, .ref a_q0_found, .ref a_q0_foundOtherwise, .int c_q0_acts, .int c_q0_refusals, .int c_q0_knocks])), (a_q0_forms, .inl (cyJ, 6, .inr (.inl f_q0_forms)))] := hD
    by_cases cx0 : xc4 = 1
    · have h := it_ cx0 h
      have hE1 : E9 = "java/lang/IndexOutOfBoundsException" := by rw [hE9, cx0]; rfl
      subst hE1
      refine vx_catch (name := "java/lang/IndexOutOfBoundsException") hown (tableOf []) ⟨0, 11, 14, 19⟩ (tableOf []) hxt (fun z hz => absurd hz List.not_mem_nil) (by decide) (by decide) (hts (.classLink RL 19 "java/lang/IndexOutOfBoundsException") (by decide +kernel)) (va_Nw.use rfl (hE.2.1 (.castable "java/lang/IndexOutOfBoundsException" "java/lang/IndexOutOfBoundsException") (by decide +kernel))) hce9 hcv9 hcl9 ?_
      refine lv_astore (lv' := [(4, .ref q9), (0, .ref a_q0), (1, .int p1), (2, .int p2), (3, .ref a_q3)]) hx hb dL_check_14 hl (by decide) rfl (fun ls hl => ?_)
      refine lv_iconst (v := 1) hx hb dL_check_16 (by decide) ?_
      obtain ⟨e0, e1⟩ := tup2 h
      subst e0
      subst e1
      have hP9 : va_P D vwCl [(a_q0, .inr (6, [.ref a_q0_forms, .ref a_q0_roll, .ref a_q0_row, .ref a_q0_rows, .ref a_q0_factors, .ref a_q0_found, .ref a_q0_foundOtherwise, .int c_q0_acts, .int c_q0_refusals, .int c_q0_knocks])), (a_q0_forms, .inl (cyJ, 6, .inr (.inl f_q0_forms))), (a_q3, .inr (7, [.long c_q3_n, c_q3_s]))] H := hP.sub [1, 2, 0] rfl
      have hD9 : va_D A [(a_q0, .inr (6, [.ref a_q0_forms, .ref a_q0_roll, .ref a_q0_row, .ref a_q0_rows, .ref a_q0_factors, .ref a_q0_found, .ref a_q0_foundOtherwise, .int c_q0_acts, .int c_q0_refusals, .int c_q0_knocks])), (a_q0_forms, .inl (cyJ, 6, .inr (.inl f_q0_forms))), (a_q3, .inr (7, [.long c_q3_n, c_q3_s]))] := hD.sub [1, 2, 0] (by decide) rfl
      refine vx_ret ?_
      exact W.iret hx hb hr (fun t ht hW => ⟨⟨_, (), rfl, rfl, wQA_of ht hP9 hD9⟩, hS.F ht⟩) hS.2.2 dL_check_17
    have h := if_ cx0 h
    cases h
  · have h := it_ hx9 h
    have hP : va_P D vwCl [(a_q3, .inr (7, [.long c_q3_n, c_q3_s])), (a_q0, .inr (6, [.ref a_q0_forms, .ref a_q0_roll, .ref a_q0_row, .ref a_q0_rows, .ref a_q0_factors, .ref a_q0_found, .ref a_q0_foundOtherwise, .int c_q0_acts, .int c_q0_refusals, .int c_q0_knocks])), (a_q0_forms, .inl (cyJ, 6, .inr (.inl f_q0_forms)))] H := hP
    have hD : va_D A [(a_q3, .inr (7, [.long c_q3_n, c_q3_s])), (a_q0, .inr (6, [.ref a_q0_forms, .ref a_q0_roll, .ref a_q0_row, .ref a_q0_rows, .ref a_q0_factors, .ref a_q0_found, .ref a_q0_foundOtherwise, .int c_q0_acts, .int c_q0_refusals, .int c_q0_knocks])), (a_q0_forms, .inl (cyJ, 6, .inr (.inl f_q0_forms)))] := hD
    refine lv_i2l (v := r4.toInt64) hx hb dL_check_7 rfl ?_
    refine lv_topl (fun c_q3_n_8 e_c_q3_n_8 => ?_)
    have h := bnd_h e_c_q3_n_8 h
    refine va_putN (D := D) (ci := 7) (v := .long c_q3_n_8) (ty := .long) (C := RX8) (T := TX8) (N := 2) hx hb hts hinX8 tyX8 tyX8_ok nmX8 hown hK hP hD hS 0 rfl rfl 0 (by decide) hfl13 (fun _ h9 => h9) rfl (by decide +kernel) rfl rfl (Nat.le_of_ble_eq_true rfl) dL_check_8 (fun H locs hP hD hS => ?_)
    have hP : va_P D vwCl [(a_q3, .inr (7, [.long c_q3_n_8, c_q3_s])), (a_q0, .inr (6, [.ref a_q0_forms, .ref a_q0_roll, .ref a_q0_row, .ref a_q0_rows, .ref a_q0_factors, .ref a_q0_found, .ref a_q0_foundOtherwise, .int c_q0_acts, .int c_q0_refusals, .int c_q0_knocks])), (a_q0_forms, .inl (cyJ, 6, .inr (.inl f_q0_forms)))] H := hP
    have hD : va_D A [(a_q3, .inr (7, [.long c_q3_n_8, c_q3_s])), (a_q0, .inr (6, [.ref a_q0_forms, .ref a_q0_roll, .ref a_q0_row, .ref a_q0_rows, .ref a_q0_factors, .ref a_q0_found, .ref a_q0_foundOtherwise, .int c_q0_acts, .int c_q0_refusals, .int c_q0_knocks])), (a_q0_forms, .inl (cyJ, 6, .inr (.inl f_q0_forms)))] := hD
    refine lv_goto (tgt := 18) hx hb dL_check_11 (by decide) ?_
    refine lv_iconst (v := 0) hx hb dL_check_18 (by decide) ?_
    obtain ⟨e0, e1⟩ := tup2 h
    subst e0
    subst e1
    have hP9 : va_P D vwCl [(a_q0, .inr (6, [.ref a_q0_forms, .ref a_q0_roll, .ref a_q0_row, .ref a_q0_rows, .ref a_q0_factors, .ref a_q0_found, .ref a_q0_foundOtherwise, .int c_q0_acts, .int c_q0_refusals, .int c_q0_knocks])), (a_q0_forms, .inl (cyJ, 6, .inr (.inl f_q0_forms))), (a_q3, .inr (7, [.long c_q3_n_8, c_q3_s]))] H := hP.sub [1, 2, 0] rfl
    have hD9 : va_D A [(a_q0, .inr (6, [.ref a_q0_forms, .ref a_q0_roll, .ref a_q0_row, .ref a_q0_rows, .ref a_q0_factors, .ref a_q0_found, .ref a_q0_foundOtherwise, .int c_q0_acts, .int c_q0_refusals, .int c_q0_knocks])), (a_q0_forms, .inl (cyJ, 6, .inr (.inl f_q0_forms))), (a_q3, .inr (7, [.long c_q3_n_8, c_q3_s]))] := hD.sub [1, 2, 0] (by decide) rfl
    refine vx_ret ?_
    exact W.iret hx hb hr (fun t ht hW => ⟨⟨_, (), rfl, rfl, wQA_of ht hP9 hD9⟩, hS.F ht⟩) hS.2.2 dL_check_19

noncomputable abbrev rmL_isPrime : Room := { frames := 10, cells := 2, slots := 12, locals := 147 }
theorem ydL_isPrime : yL_isPrime.cls ≠ "java/lang/invoke/MethodHandle" ∧ yL_isPrime.cls ≠ "java/lang/invoke/VarHandle" ∧ (parseMethodDescriptor yL_isPrime.desc).map (fun d => d.parameters.length) = some 4 := by decide +kernel
noncomputable def F_L_isPrime (f_q0_forms : Nat → Int64) (c_q3_n : Int64) (p1 : Int32) (p2 : Int32) : Option (Int32 × Int64) :=
 obn2 (F_X7_isPrime f_q0_forms p1 p2) (fun xc4 r4 =>
 if xc4 = 0 then
 bnd r4.toInt64 (fun c_q3_n_8 =>
 some ((0 : Int32), c_q3_n_8))
else
 (if xc4 = 1 then
 some ((1 : Int32), c_q3_n)
else
 (if xc4 = 2 then
 some ((2 : Int32), c_q3_n)
else
 none)))
set_option maxHeartbeats 4000000 in
set_option maxRecDepth 100000 in
theorem c_L_isPrime (l : Launch) (hfl : l.stackTraces = false) (D : va_G) (cyJ : ClassId) (sz : Nat) (a_q0 : Nat) (a_q3 : Nat) (a_q0_forms : Nat) (a_q0_roll : Nat) (a_q0_row : Nat) (a_q0_rows : Nat) (a_q0_factors : Nat) (a_q0_found : Nat) (a_q0_foundOtherwise : Nat) (c_q0_acts : Int32) (c_q0_refusals : Int32) (c_q0_knocks : Int32) (f_q0_forms : Nat → Int64) (c_q3_n : Int64) (c_q3_s : Value) (p1 : Int32) (p2 : Int32) (r0 : Int32) (o_c_q3_n : Int64) (hF : F_L_isPrime f_q0_forms c_q3_n p1 p2 = some (r0, o_c_q3_n)) : vx_Met l yL_isPrime wsL_isPrime rmL_isPrime (va_Pc [.ref a_q0, .int p1, .int p2, .ref a_q3] (wPL D [(cyJ, .long)] [(a_q0, .inr (6, [.ref a_q0_forms, .ref a_q0_roll, .ref a_q0_row, .ref a_q0_rows, .ref a_q0_factors, .ref a_q0_found, .ref a_q0_foundOtherwise, .int c_q0_acts, .int c_q0_refusals, .int c_q0_knocks])), (a_q0_forms, .inl (cyJ, 6, .inr (.inl f_q0_forms))), (a_q3, .inr (7, [.long c_q3_n, c_q3_s]))] sz)) (va_Qi (fun (r : Int32) (_ : Unit) => r = r0) (fun _ t => wQA D [(a_q0, .inr (6, [.ref a_q0_forms, .ref a_q0_roll, .ref a_q0_row, .ref a_q0_rows, .ref a_q0_factors, .ref a_q0_found, .ref a_q0_foundOtherwise, .int c_q0_acts, .int c_q0_refusals, .int c_q0_knocks])), (a_q0_forms, .inl (cyJ, 6, .inr (.inl f_q0_forms))), (a_q3, .inr (7, [.long o_c_q3_n, c_q3_s]))] (va_A [(a_q0, .inr (6, [.ref a_q0_forms, .ref a_q0_roll, .ref a_q0_row, .ref a_q0_rows, .ref a_q0_factors, .ref a_q0_found, .ref a_q0_foundOtherwise, .int c_q0_acts, .int c_q0_refusals, .int c_q0_knocks])), (a_q0_forms, .inl (cyJ, 6, .inr (.inl f_q0_forms))), (a_q3, .inr (7, [.long c_q3_n, c_q3_s]))] sz) t) (va_A [(a_q0, .inr (6, [.ref a_q0_forms, .ref a_q0_roll, .ref a_q0_row, .ref a_q0_rows, .ref a_q0_factors, .ref a_q0_found, .ref a_q0_foundOtherwise, .int c_q0_acts, .int c_q0_refusals, .int c_q0_knocks])), (a_q0_forms, .inl (cyJ, 6, .inr (.inl f_q0_forms))), (a_q3, .inr (7, [.long c_q3_n, c_q3_s]))] sz)) (fun _ _ _ => False) 2 12 (va_A [(a_q0, .inr (6, [.ref a_q0_forms, .ref a_q0_roll, .ref a_q0_row, .ref a_q0_rows, .ref a_q0_factors, .ref a_q0_found, .ref a_q0_foundOtherwise, .int c_q0_acts, .int c_q0_refusals, .int c_q0_knocks])), (a_q0_forms, .inl (cyJ, 6, .inr (.inl f_q0_forms))), (a_q3, .inr (7, [.long c_q3_n, c_q3_s]))] sz) := by
  refine vx_ofWH (cc := cL_isPrime) (maxL := 5) (ret := (some .int)) (hh := [(0, 11, 14, 19), (0, 11, 18, 21)]) (by decide) rfl ?_
  intro p e s m args below meth c s₁ B hml hv
  obtain ⟨rfl, ⟨⟨hsz, hP, hK, hD0, hnw⟩, hE⟩, hNc⟩ := hv
  have hx := B.exec
  have hb := B.bytes
  have hr := B.returns
  have hts := atoms_spec (ws := wsL_isPrime) B.pre
  have hown : s.vm.findClass RL = some m.cls := findClass_of_methodNamed B.named
  have hlocks := B.notSynchronized
  have hcf : CallFix _ _ _ _ _ _ _ _ _ := ⟨hx, hb, hml, hown, hts⟩
  have hxt : c.exceptionTable.toList = tableOf [(0, 11, 14, 19), (0, 11, 18, 21)] := vx_table (x := yL_isPrime) B (hts _ List.mem_cons_self)
  have hinX8 : ∀ w ∈ u_ws RX8 TX8 2, w ∈ wsL_isPrime := by decide +kernel
  have hfl13 := hnw.use (A := ([.ref a_q0, .int p1, .int p2, .ref a_q3] : List Value).toArray) (w := .fieldLinkNest RL 13 "FormwheelLaw$Out" "n" "J" "FormwheelLaw") (by decide +kernel)
  subst hsz
  have hD := hD0.self (sz := s.heap.size)
  generalize hAe : va_A [(a_q0, .inr (6, [.ref a_q0_forms, .ref a_q0_roll, .ref a_q0_row, .ref a_q0_rows, .ref a_q0_factors, .ref a_q0_found, .ref a_q0_foundOtherwise, .int c_q0_acts, .int c_q0_refusals, .int c_q0_knocks])), (a_q0_forms, .inl (cyJ, 6, .inr (.inl f_q0_forms))), (a_q3, .inr (7, [.long c_q3_n, c_q3_s]))] s.heap.size = A at hD hE ⊢
  have hA : ∀ q : Nat, s.heap.size ≤ q → A q := fun q h => by rw [← hAe]; exact Or.inr h
  have hS : va_S A s.heap s.heap [] := va_S.rf
  have hP : va_P D vwCl [(a_q0, .inr (6, [.ref a_q0_forms, .ref a_q0_roll, .ref a_q0_row, .ref a_q0_rows, .ref a_q0_factors, .ref a_q0_found, .ref a_q0_foundOtherwise, .int c_q0_acts, .int c_q0_refusals, .int c_q0_knocks])), (a_q0_forms, .inl (cyJ, 6, .inr (.inl f_q0_forms))), (a_q3, .inr (7, [.long c_q3_n, c_q3_s]))] s.heap := hP
  have hK0 := hK
  have hl := lv_entry ([.ref a_q0, .int p1, .int p2, .ref a_q3]) (n := 5) (Nat.le_of_ble_eq_true rfl)
  rw [lg_entry_eq]
  generalize (lg_sl ([.ref a_q0, .int p1, .int p2, .ref a_q3]) ++ List.replicate (5 - (lg_sl ([.ref a_q0, .int p1, .int p2, .ref a_q3])).length) Slot.unset).toArray = ls at hl ⊢
  have hl : lv_has ls 5 [(0, .ref a_q0), (1, .int p1), (2, .int p2), (3, .ref a_q3)] := hl
  have h := hF
  clear hF
  unfold F_L_isPrime at h
  refine lv_aload_n hx hb dL_isPrime_0 rfl (lv_at hl 3 rfl) ?_
  refine lv_aload_n hx hb dL_isPrime_1 rfl (lv_at hl 0 rfl) ?_
  refine lv_iload_n hx hb dL_isPrime_2 rfl (lv_at hl 1 rfl) ?_
  refine lv_iload_n hx hb dL_isPrime_3 rfl (lv_at hl 2 rfl) ?_
  obtain ⟨xc4, r4, hc4, h⟩ := obn2_h h
  have hPc := hP.sub (ws' := [(a_q0, .inr (6, [.ref a_q0_forms, .ref a_q0_roll, .ref a_q0_row, .ref a_q0_rows, .ref a_q0_factors, .ref a_q0_found, .ref a_q0_foundOtherwise, .int c_q0_acts, .int c_q0_refusals, .int c_q0_knocks])), (a_q0_forms, .inl (cyJ, 6, .inr (.inl f_q0_forms)))]) [0, 1] rfl
  have hDc := hD.sub (ws' := [(a_q0, .inr (6, [.ref a_q0_forms, .ref a_q0_roll, .ref a_q0_row, .ref a_q0_rows, .ref a_q0_factors, .ref a_q0_found, .ref a_q0_foundOtherwise, .int c_q0_acts, .int c_q0_refusals, .int c_q0_knocks])), (a_q0_forms, .inl (cyJ, 6, .inr (.inl f_q0_forms)))]) [0, 1] (by decide) rfl
  refine hx_i (w1 := [(a_q0, .inr (6, [.ref a_q0_forms, .ref a_q0_roll, .ref a_q0_row, .ref a_q0_rows, .ref a_q0_factors, .ref a_q0_found, .ref a_q0_foundOtherwise, .int c_q0_acts, .int c_q0_refusals, .int c_q0_knocks])), (a_q0_forms, .inl (cyJ, 6, .inr (.inl f_q0_forms)))]) (wr := [(a_q3, .inr (7, [.long c_q3_n, c_q3_s]))]) (vx_runV (As := [.int p1, .int p2]) (rest := [.ref a_q3]) hcf (c_X7_isPrime l hfl D cyJ s.heap.size a_q0 a_q0_forms a_q0_roll a_q0_row a_q0_rows a_q0_factors a_q0_found a_q0_foundOtherwise c_q0_acts c_q0_refusals c_q0_knocks f_q0_forms p1 p2 xc4 r4 hc4) (cwV 2 hts gL_isPrime_X7_isPrime rfl rfl rfl ydX7_isPrime ⟨Nat.le_of_ble_eq_true rfl, Nat.le_of_ble_eq_true rfl⟩) ⟨bl_PX, va_recv hK hP (ci := 6) (q0 := 0) rfl rfl, pr_PX hPc hK0 hDc hnw hE hS (va_free hD hS hA [0, 1] rfl)⟩ rfl rfl hl.1 rfl (lv_room (Nat.le_of_ble_eq_true rfl)) dL_isPrime_4 ⟨Nat.le_of_ble_eq_true rfl, Nat.le_of_ble_eq_true rfl⟩) hP hD hS hA [0, 1] [2] rfl rfl (by decide) (by decide) (fun E9 ce9 q9 H locs hx9 hE9 hP hD hS hce9 hcv9 hcl9 => ?_) (fun hx9 H locs hP hD hS => ?_)
  · have h := if_ hx9 h
    have hP : va_P D vwCl [(a_q3, .inr (7, [.long c_q3_n, c_q3_s])), (a_q0, .inr (6, [.ref a_q0_forms, .ref a_q0_roll, .ref a_q0_row, .ref a_q0_rows, .ref a_q0_factors, .ref a_q0_found, .ref a_q0_foundOtherwise, .int c_q0_acts, .int c_q0_refusals, .int c_q0_knocks])), (a_q0_forms, .inl (cyJ, 6, .inr (.inl f_q0_forms)))] H := hP
    have hD : va_D A [(a_q3, .inr (7, [.long c_q3_n, c_q3_s])), (a_q0, .inr (6, [.ref a_q0_forms, .ref a_q0_roll, .ref a_q0_row, .ref a_q0_rows, .ref a_q0_factors, .ref a_q0_found, .ref a_q0_foundOtherwise, .int c_q0_acts, .int c_q0_refusals, .int c_q0_knocks])), (a_q0_forms, .inl (cyJ, 6, .inr (.inl f_q0_forms)))] := hD
    by_cases cx0 : xc4 = 1
    · have h := it_ cx0 h
      have hE1 : E9 = "java/lang/IndexOutOfBoundsException" := by rw [hE9, cx0]; rfl
      subst hE1
      refine vx_catch (name := "java/lang/IndexOutOfBoundsException") hown (tableOf []) ⟨0, 11, 14, 19⟩ (tableOf [(0, 11, 18, 21)]) hxt (fun z hz => absurd hz List.not_mem_nil) (by decide) (by decide) (hts (.classLink RL 19 "java/lang/IndexOutOfBoundsException") (by decide +kernel)) (va_Nw.use rfl (hE.2.1 (.castable "java/lang/IndexOutOfBoundsException" "java/lang/IndexOutOfBoundsException") (by decide +kernel))) hce9 hcv9 hcl9 ?_
      refine lv_astore (lv' := [(4, .ref q9), (0, .ref a_q0), (1, .int p1), (2, .int p2), (3, .ref a_q3)]) hx hb dL_isPrime_14 hl (by decide) rfl (fun ls hl => ?_)
      refine lv_iconst (v := 1) hx hb dL_isPrime_16 (by decide) ?_
      obtain ⟨e0, e1⟩ := tup2 h
      subst e0
      subst e1
      have hP9 : va_P D vwCl [(a_q0, .inr (6, [.ref a_q0_forms, .ref a_q0_roll, .ref a_q0_row, .ref a_q0_rows, .ref a_q0_factors, .ref a_q0_found, .ref a_q0_foundOtherwise, .int c_q0_acts, .int c_q0_refusals, .int c_q0_knocks])), (a_q0_forms, .inl (cyJ, 6, .inr (.inl f_q0_forms))), (a_q3, .inr (7, [.long c_q3_n, c_q3_s]))] H := hP.sub [1, 2, 0] rfl
      have hD9 : va_D A [(a_q0, .inr (6, [.ref a_q0_forms, .ref a_q0_roll, .ref a_q0_row, .ref a_q0_rows, .ref a_q0_factors, .ref a_q0_found, .ref a_q0_foundOtherwise, .int c_q0_acts, .int c_q0_refusals, .int c_q0_knocks])), (a_q0_forms, .inl (cyJ, 6, .inr (.inl f_q0_forms))), (a_q3, .inr (7, [.long c_q3_n, c_q3_s]))] := hD.sub [1, 2, 0] (by decide) rfl
      refine vx_ret ?_
      exact W.iret hx hb hr (fun t ht hW => ⟨⟨_, (), rfl, rfl, wQA_of ht hP9 hD9⟩, hS.F ht⟩) hS.2.2 dL_isPrime_17
    have h := if_ cx0 h
    by_cases cx1 : xc4 = 2
    · have h := it_ cx1 h
      have hE1 : E9 = "java/lang/IllegalArgumentException" := by rw [hE9, cx1]; rfl
      subst hE1
      refine vx_catch (name := "java/lang/IllegalArgumentException") hown (tableOf [(0, 11, 14, 19)]) ⟨0, 11, 18, 21⟩ (tableOf []) hxt (fun z hz => by obtain rfl := List.mem_singleton.mp hz; exact Or.inr ⟨by decide, "java/lang/IndexOutOfBoundsException", hts (.classLink RL 19 "java/lang/IndexOutOfBoundsException") (by decide +kernel), hNc⟩) (by decide) (by decide) (hts (.classLink RL 21 "java/lang/IllegalArgumentException") (by decide +kernel)) (va_Nw.use rfl (hE.2.1 (.castable "java/lang/IllegalArgumentException" "java/lang/IllegalArgumentException") (by decide +kernel))) hce9 hcv9 hcl9 ?_
      refine lv_astore (lv' := [(4, .ref q9), (0, .ref a_q0), (1, .int p1), (2, .int p2), (3, .ref a_q3)]) hx hb dL_isPrime_18 hl (by decide) rfl (fun ls hl => ?_)
      refine lv_iconst (v := 2) hx hb dL_isPrime_20 (by decide) ?_
      obtain ⟨e0, e1⟩ := tup2 h
      subst e0
      subst e1
      have hP9 : va_P D vwCl [(a_q0, .inr (6, [.ref a_q0_forms, .ref a_q0_roll, .ref a_q0_row, .ref a_q0_rows, .ref a_q0_factors, .ref a_q0_found, .ref a_q0_foundOtherwise, .int c_q0_acts, .int c_q0_refusals, .int c_q0_knocks])), (a_q0_forms, .inl (cyJ, 6, .inr (.inl f_q0_forms))), (a_q3, .inr (7, [.long c_q3_n, c_q3_s]))] H := hP.sub [1, 2, 0] rfl
      have hD9 : va_D A [(a_q0, .inr (6, [.ref a_q0_forms, .ref a_q0_roll, .ref a_q0_row, .ref a_q0_rows, .ref a_q0_factors, .ref a_q0_found, .ref a_q0_foundOtherwise, .int c_q0_acts, .int c_q0_refusals, .int c_q0_knocks])), (a_q0_forms, .inl (cyJ, 6, .inr (.inl f_q0_forms))), (a_q3, .inr (7, [.long c_q3_n, c_q3_s]))] := hD.sub [1, 2, 0] (by decide) rfl
      refine vx_ret ?_
      exact W.iret hx hb hr (fun t ht hW => ⟨⟨_, (), rfl, rfl, wQA_of ht hP9 hD9⟩, hS.F ht⟩) hS.2.2 dL_isPrime_21
    have h := if_ cx1 h
    cases h
  · have h := it_ hx9 h
    have hP : va_P D vwCl [(a_q3, .inr (7, [.long c_q3_n, c_q3_s])), (a_q0, .inr (6, [.ref a_q0_forms, .ref a_q0_roll, .ref a_q0_row, .ref a_q0_rows, .ref a_q0_factors, .ref a_q0_found, .ref a_q0_foundOtherwise, .int c_q0_acts, .int c_q0_refusals, .int c_q0_knocks])), (a_q0_forms, .inl (cyJ, 6, .inr (.inl f_q0_forms)))] H := hP
    have hD : va_D A [(a_q3, .inr (7, [.long c_q3_n, c_q3_s])), (a_q0, .inr (6, [.ref a_q0_forms, .ref a_q0_roll, .ref a_q0_row, .ref a_q0_rows, .ref a_q0_factors, .ref a_q0_found, .ref a_q0_foundOtherwise, .int c_q0_acts, .int c_q0_refusals, .int c_q0_knocks])), (a_q0_forms, .inl (cyJ, 6, .inr (.inl f_q0_forms)))] := hD
    refine lv_i2l (v := r4.toInt64) hx hb dL_isPrime_7 rfl ?_
    refine lv_topl (fun c_q3_n_8 e_c_q3_n_8 => ?_)
    have h := bnd_h e_c_q3_n_8 h
    refine va_putN (D := D) (ci := 7) (v := .long c_q3_n_8) (ty := .long) (C := RX8) (T := TX8) (N := 2) hx hb hts hinX8 tyX8 tyX8_ok nmX8 hown hK hP hD hS 0 rfl rfl 0 (by decide) hfl13 (fun _ h9 => h9) rfl (by decide +kernel) rfl rfl (Nat.le_of_ble_eq_true rfl) dL_isPrime_8 (fun H locs hP hD hS => ?_)
    have hP : va_P D vwCl [(a_q3, .inr (7, [.long c_q3_n_8, c_q3_s])), (a_q0, .inr (6, [.ref a_q0_forms, .ref a_q0_roll, .ref a_q0_row, .ref a_q0_rows, .ref a_q0_factors, .ref a_q0_found, .ref a_q0_foundOtherwise, .int c_q0_acts, .int c_q0_refusals, .int c_q0_knocks])), (a_q0_forms, .inl (cyJ, 6, .inr (.inl f_q0_forms)))] H := hP
    have hD : va_D A [(a_q3, .inr (7, [.long c_q3_n_8, c_q3_s])), (a_q0, .inr (6, [.ref a_q0_forms, .ref a_q0_roll, .ref a_q0_row, .ref a_q0_rows, .ref a_q0_factors, .ref a_q0_found, .ref a_q0_foundOtherwise, .int c_q0_acts, .int c_q0_refusals, .int c_q0_knocks])), (a_q0_forms, .inl (cyJ, 6, .inr (.inl f_q0_forms)))] := hD
    refine lv_goto (tgt := 22) hx hb dL_isPrime_11 (by decide) ?_
    refine lv_iconst (v := 0) hx hb dL_isPrime_22 (by decide) ?_
    obtain ⟨e0, e1⟩ := tup2 h
    subst e0
    subst e1
    have hP9 : va_P D vwCl [(a_q0, .inr (6, [.ref a_q0_forms, .ref a_q0_roll, .ref a_q0_row, .ref a_q0_rows, .ref a_q0_factors, .ref a_q0_found, .ref a_q0_foundOtherwise, .int c_q0_acts, .int c_q0_refusals, .int c_q0_knocks])), (a_q0_forms, .inl (cyJ, 6, .inr (.inl f_q0_forms))), (a_q3, .inr (7, [.long c_q3_n_8, c_q3_s]))] H := hP.sub [1, 2, 0] rfl
    have hD9 : va_D A [(a_q0, .inr (6, [.ref a_q0_forms, .ref a_q0_roll, .ref a_q0_row, .ref a_q0_rows, .ref a_q0_factors, .ref a_q0_found, .ref a_q0_foundOtherwise, .int c_q0_acts, .int c_q0_refusals, .int c_q0_knocks])), (a_q0_forms, .inl (cyJ, 6, .inr (.inl f_q0_forms))), (a_q3, .inr (7, [.long c_q3_n_8, c_q3_s]))] := hD.sub [1, 2, 0] (by decide) rfl
    refine vx_ret ?_
    exact W.iret hx hb hr (fun t ht hW => ⟨⟨_, (), rfl, rfl, wQA_of ht hP9 hD9⟩, hS.F ht⟩) hS.2.2 dL_isPrime_23

noncomputable abbrev rmL_primes : Room := { frames := 10, cells := 2, slots := 12, locals := 165 }
theorem ydL_primes : yL_primes.cls ≠ "java/lang/invoke/MethodHandle" ∧ yL_primes.cls ≠ "java/lang/invoke/VarHandle" ∧ (parseMethodDescriptor yL_primes.desc).map (fun d => d.parameters.length) = some 4 := by decide +kernel
noncomputable def F_L_primes (c_q3_n : Int64) (p1 : Int32) (p2 : Int32) : Option (Int32 × Int64) :=
 obn2 (F_X7_primes p1 p2) (fun xc4 r4 =>
 if xc4 = 0 then
 bnd r4.toInt64 (fun c_q3_n_8 =>
 some ((0 : Int32), c_q3_n_8))
else
 (if xc4 = 2 then
 some ((1 : Int32), c_q3_n)
else
 none))
set_option maxHeartbeats 4000000 in
set_option maxRecDepth 100000 in
theorem c_L_primes (l : Launch) (hfl : l.stackTraces = false) (D : va_G) (cyJ : ClassId) (sz : Nat) (a_q0 : Nat) (a_q3 : Nat) (a_q0_forms : Nat) (a_q0_roll : Nat) (a_q0_row : Nat) (a_q0_rows : Nat) (a_q0_factors : Nat) (a_q0_found : Nat) (a_q0_foundOtherwise : Nat) (c_q0_acts : Int32) (c_q0_refusals : Int32) (c_q0_knocks : Int32) (c_q3_n : Int64) (c_q3_s : Value) (p1 : Int32) (p2 : Int32) (r0 : Int32) (o_c_q3_n : Int64) (hF : F_L_primes c_q3_n p1 p2 = some (r0, o_c_q3_n)) : vx_Met l yL_primes wsL_primes rmL_primes (va_Pc [.ref a_q0, .int p1, .int p2, .ref a_q3] (wPL D [(cyJ, .long)] [(a_q0, .inr (6, [.ref a_q0_forms, .ref a_q0_roll, .ref a_q0_row, .ref a_q0_rows, .ref a_q0_factors, .ref a_q0_found, .ref a_q0_foundOtherwise, .int c_q0_acts, .int c_q0_refusals, .int c_q0_knocks])), (a_q3, .inr (7, [.long c_q3_n, c_q3_s]))] sz)) (va_Qi (fun (r : Int32) (_ : Unit) => r = r0) (fun _ t => wQA D [(a_q0, .inr (6, [.ref a_q0_forms, .ref a_q0_roll, .ref a_q0_row, .ref a_q0_rows, .ref a_q0_factors, .ref a_q0_found, .ref a_q0_foundOtherwise, .int c_q0_acts, .int c_q0_refusals, .int c_q0_knocks])), (a_q3, .inr (7, [.long o_c_q3_n, c_q3_s]))] (va_A [(a_q0, .inr (6, [.ref a_q0_forms, .ref a_q0_roll, .ref a_q0_row, .ref a_q0_rows, .ref a_q0_factors, .ref a_q0_found, .ref a_q0_foundOtherwise, .int c_q0_acts, .int c_q0_refusals, .int c_q0_knocks])), (a_q3, .inr (7, [.long c_q3_n, c_q3_s]))] sz) t) (va_A [(a_q0, .inr (6, [.ref a_q0_forms, .ref a_q0_roll, .ref a_q0_row, .ref a_q0_rows, .ref a_q0_factors, .ref a_q0_found, .ref a_q0_foundOtherwise, .int c_q0_acts, .int c_q0_refusals, .int c_q0_knocks])), (a_q3, .inr (7, [.long c_q3_n, c_q3_s]))] sz)) (fun _ _ _ => False) 2 12 (va_A [(a_q0, .inr (6, [.ref a_q0_forms, .ref a_q0_roll, .ref a_q0_row, .ref a_q0_rows, .ref a_q0_factors, .ref a_q0_found, .ref a_q0_foundOtherwise, .int c_q0_acts, .int c_q0_refusals, .int c_q0_knocks])), (a_q3, .inr (7, [.long c_q3_n, c_q3_s]))] sz) := by
  refine vx_ofWH (cc := cL_primes) (maxL := 5) (ret := (some .int)) (hh := [(0, 11, 14, 21)]) (by decide) rfl ?_
  intro p e s m args below meth c s₁ B hml hv
  obtain ⟨rfl, ⟨⟨hsz, hP, hK, hD0, hnw⟩, hE⟩, hNc⟩ := hv
  have hx := B.exec
  have hb := B.bytes
  have hr := B.returns
  have hts := atoms_spec (ws := wsL_primes) B.pre
  have hown : s.vm.findClass RL = some m.cls := findClass_of_methodNamed B.named
  have hlocks := B.notSynchronized
  have hcf : CallFix _ _ _ _ _ _ _ _ _ := ⟨hx, hb, hml, hown, hts⟩
  have hxt : c.exceptionTable.toList = tableOf [(0, 11, 14, 21)] := vx_table (x := yL_primes) B (hts _ List.mem_cons_self)
  have hinX8 : ∀ w ∈ u_ws RX8 TX8 2, w ∈ wsL_primes := by decide +kernel
  have hfl13 := hnw.use (A := ([.ref a_q0, .int p1, .int p2, .ref a_q3] : List Value).toArray) (w := .fieldLinkNest RL 13 "FormwheelLaw$Out" "n" "J" "FormwheelLaw") (by decide +kernel)
  subst hsz
  have hD := hD0.self (sz := s.heap.size)
  generalize hAe : va_A [(a_q0, .inr (6, [.ref a_q0_forms, .ref a_q0_roll, .ref a_q0_row, .ref a_q0_rows, .ref a_q0_factors, .ref a_q0_found, .ref a_q0_foundOtherwise, .int c_q0_acts, .int c_q0_refusals, .int c_q0_knocks])), (a_q3, .inr (7, [.long c_q3_n, c_q3_s]))] s.heap.size = A at hD hE ⊢
  have hA : ∀ q : Nat, s.heap.size ≤ q → A q := fun q h => by rw [← hAe]; exact Or.inr h
  have hS : va_S A s.heap s.heap [] := va_S.rf
  have hP : va_P D vwCl [(a_q0, .inr (6, [.ref a_q0_forms, .ref a_q0_roll, .ref a_q0_row, .ref a_q0_rows, .ref a_q0_factors, .ref a_q0_found, .ref a_q0_foundOtherwise, .int c_q0_acts, .int c_q0_refusals, .int c_q0_knocks])), (a_q3, .inr (7, [.long c_q3_n, c_q3_s]))] s.heap := hP
  have hK0 := hK
  have hl := lv_entry ([.ref a_q0, .int p1, .int p2, .ref a_q3]) (n := 5) (Nat.le_of_ble_eq_true rfl)
  rw [lg_entry_eq]
  generalize (lg_sl ([.ref a_q0, .int p1, .int p2, .ref a_q3]) ++ List.replicate (5 - (lg_sl ([.ref a_q0, .int p1, .int p2, .ref a_q3])).length) Slot.unset).toArray = ls at hl ⊢
  have hl : lv_has ls 5 [(0, .ref a_q0), (1, .int p1), (2, .int p2), (3, .ref a_q3)] := hl
  have h := hF
  clear hF
  unfold F_L_primes at h
  refine lv_aload_n hx hb dL_primes_0 rfl (lv_at hl 3 rfl) ?_
  refine lv_aload_n hx hb dL_primes_1 rfl (lv_at hl 0 rfl) ?_
  refine lv_iload_n hx hb dL_primes_2 rfl (lv_at hl 1 rfl) ?_
  refine lv_iload_n hx hb dL_primes_3 rfl (lv_at hl 2 rfl) ?_
  obtain ⟨xc4, r4, hc4, h⟩ := obn2_h h
  have hPc := hP.sub (ws' := []) [] rfl
  have hDc := hD.sub (ws' := []) [] (by decide) rfl
  refine hx_i (w1 := []) (wr := [(a_q0, .inr (6, [.ref a_q0_forms, .ref a_q0_roll, .ref a_q0_row, .ref a_q0_rows, .ref a_q0_factors, .ref a_q0_found, .ref a_q0_foundOtherwise, .int c_q0_acts, .int c_q0_refusals, .int c_q0_knocks])), (a_q3, .inr (7, [.long c_q3_n, c_q3_s]))]) (vx_runV (As := [.int p1, .int p2]) (rest := [.ref a_q3]) hcf (c_X7_primes l hfl D cyJ s.heap.size a_q0 p1 p2 xc4 r4 hc4) (cwV 2 hts gL_primes_X7_primes rfl rfl rfl ydX7_primes ⟨Nat.le_of_ble_eq_true rfl, Nat.le_of_ble_eq_true rfl⟩) ⟨bl_PX, va_recv hK hP (ci := 6) (q0 := 0) rfl rfl, pr_PX hPc hK0 hDc hnw hE hS (va_free hD hS hA [] rfl)⟩ rfl rfl hl.1 rfl (lv_room (Nat.le_of_ble_eq_true rfl)) dL_primes_4 ⟨Nat.le_of_ble_eq_true rfl, Nat.le_of_ble_eq_true rfl⟩) hP hD hS hA [] [0, 1] rfl rfl (by decide) (by decide) (fun E9 ce9 q9 H locs hx9 hE9 hP hD hS hce9 hcv9 hcl9 => ?_) (fun hx9 H locs hP hD hS => ?_)
  · have h := if_ hx9 h
    have hP : va_P D vwCl [(a_q0, .inr (6, [.ref a_q0_forms, .ref a_q0_roll, .ref a_q0_row, .ref a_q0_rows, .ref a_q0_factors, .ref a_q0_found, .ref a_q0_foundOtherwise, .int c_q0_acts, .int c_q0_refusals, .int c_q0_knocks])), (a_q3, .inr (7, [.long c_q3_n, c_q3_s]))] H := hP
    have hD : va_D A [(a_q0, .inr (6, [.ref a_q0_forms, .ref a_q0_roll, .ref a_q0_row, .ref a_q0_rows, .ref a_q0_factors, .ref a_q0_found, .ref a_q0_foundOtherwise, .int c_q0_acts, .int c_q0_refusals, .int c_q0_knocks])), (a_q3, .inr (7, [.long c_q3_n, c_q3_s]))] := hD
    by_cases cx0 : xc4 = 2
    · have h := it_ cx0 h
      have hE1 : E9 = "java/lang/IllegalArgumentException" := by rw [hE9, cx0]; rfl
      subst hE1
      refine vx_catch (name := "java/lang/IllegalArgumentException") hown (tableOf []) ⟨0, 11, 14, 21⟩ (tableOf []) hxt (fun z hz => absurd hz List.not_mem_nil) (by decide) (by decide) (hts (.classLink RL 21 "java/lang/IllegalArgumentException") (by decide +kernel)) (va_Nw.use rfl (hE.2.1 (.castable "java/lang/IllegalArgumentException" "java/lang/IllegalArgumentException") (by decide +kernel))) hce9 hcv9 hcl9 ?_
      refine lv_astore (lv' := [(4, .ref q9), (0, .ref a_q0), (1, .int p1), (2, .int p2), (3, .ref a_q3)]) hx hb dL_primes_14 hl (by decide) rfl (fun ls hl => ?_)
      refine lv_iconst (v := 1) hx hb dL_primes_16 (by decide) ?_
      obtain ⟨e0, e1⟩ := tup2 h
      subst e0
      subst e1
      have hP9 : va_P D vwCl [(a_q0, .inr (6, [.ref a_q0_forms, .ref a_q0_roll, .ref a_q0_row, .ref a_q0_rows, .ref a_q0_factors, .ref a_q0_found, .ref a_q0_foundOtherwise, .int c_q0_acts, .int c_q0_refusals, .int c_q0_knocks])), (a_q3, .inr (7, [.long c_q3_n, c_q3_s]))] H := hP.sub [0, 1] rfl
      have hD9 : va_D A [(a_q0, .inr (6, [.ref a_q0_forms, .ref a_q0_roll, .ref a_q0_row, .ref a_q0_rows, .ref a_q0_factors, .ref a_q0_found, .ref a_q0_foundOtherwise, .int c_q0_acts, .int c_q0_refusals, .int c_q0_knocks])), (a_q3, .inr (7, [.long c_q3_n, c_q3_s]))] := hD.sub [0, 1] (by decide) rfl
      refine vx_ret ?_
      exact W.iret hx hb hr (fun t ht hW => ⟨⟨_, (), rfl, rfl, wQA_of ht hP9 hD9⟩, hS.F ht⟩) hS.2.2 dL_primes_17
    have h := if_ cx0 h
    cases h
  · have h := it_ hx9 h
    have hP : va_P D vwCl [(a_q0, .inr (6, [.ref a_q0_forms, .ref a_q0_roll, .ref a_q0_row, .ref a_q0_rows, .ref a_q0_factors, .ref a_q0_found, .ref a_q0_foundOtherwise, .int c_q0_acts, .int c_q0_refusals, .int c_q0_knocks])), (a_q3, .inr (7, [.long c_q3_n, c_q3_s]))] H := hP
    have hD : va_D A [(a_q0, .inr (6, [.ref a_q0_forms, .ref a_q0_roll, .ref a_q0_row, .ref a_q0_rows, .ref a_q0_factors, .ref a_q0_found, .ref a_q0_foundOtherwise, .int c_q0_acts, .int c_q0_refusals, .int c_q0_knocks])), (a_q3, .inr (7, [.long c_q3_n, c_q3_s]))] := hD
    refine lv_i2l (v := r4.toInt64) hx hb dL_primes_7 rfl ?_
    refine lv_topl (fun c_q3_n_8 e_c_q3_n_8 => ?_)
    have h := bnd_h e_c_q3_n_8 h
    refine va_putN (D := D) (ci := 7) (v := .long c_q3_n_8) (ty := .long) (C := RX8) (T := TX8) (N := 2) hx hb hts hinX8 tyX8 tyX8_ok nmX8 hown hK hP hD hS 1 rfl rfl 0 (by decide) hfl13 (fun _ h9 => h9) rfl (by decide +kernel) rfl rfl (Nat.le_of_ble_eq_true rfl) dL_primes_8 (fun H locs hP hD hS => ?_)
    have hP : va_P D vwCl [(a_q0, .inr (6, [.ref a_q0_forms, .ref a_q0_roll, .ref a_q0_row, .ref a_q0_rows, .ref a_q0_factors, .ref a_q0_found, .ref a_q0_foundOtherwise, .int c_q0_acts, .int c_q0_refusals, .int c_q0_knocks])), (a_q3, .inr (7, [.long c_q3_n_8, c_q3_s]))] H := hP
    have hD : va_D A [(a_q0, .inr (6, [.ref a_q0_forms, .ref a_q0_roll, .ref a_q0_row, .ref a_q0_rows, .ref a_q0_factors, .ref a_q0_found, .ref a_q0_foundOtherwise, .int c_q0_acts, .int c_q0_refusals, .int c_q0_knocks])), (a_q3, .inr (7, [.long c_q3_n_8, c_q3_s]))] := hD
    refine lv_goto (tgt := 18) hx hb dL_primes_11 (by decide) ?_
    refine lv_iconst (v := 0) hx hb dL_primes_18 (by decide) ?_
    obtain ⟨e0, e1⟩ := tup2 h
    subst e0
    subst e1
    have hP9 : va_P D vwCl [(a_q0, .inr (6, [.ref a_q0_forms, .ref a_q0_roll, .ref a_q0_row, .ref a_q0_rows, .ref a_q0_factors, .ref a_q0_found, .ref a_q0_foundOtherwise, .int c_q0_acts, .int c_q0_refusals, .int c_q0_knocks])), (a_q3, .inr (7, [.long c_q3_n_8, c_q3_s]))] H := hP.sub [0, 1] rfl
    have hD9 : va_D A [(a_q0, .inr (6, [.ref a_q0_forms, .ref a_q0_roll, .ref a_q0_row, .ref a_q0_rows, .ref a_q0_factors, .ref a_q0_found, .ref a_q0_foundOtherwise, .int c_q0_acts, .int c_q0_refusals, .int c_q0_knocks])), (a_q3, .inr (7, [.long c_q3_n_8, c_q3_s]))] := hD.sub [0, 1] (by decide) rfl
    refine vx_ret ?_
    exact W.iret hx hb hr (fun t ht hW => ⟨⟨_, (), rfl, rfl, wQA_of ht hP9 hD9⟩, hS.F ht⟩) hS.2.2 dL_primes_19

noncomputable abbrev rmL_prime : Room := { frames := 10, cells := 2, slots := 12, locals := 165 }
theorem ydL_prime : yL_prime.cls ≠ "java/lang/invoke/MethodHandle" ∧ yL_prime.cls ≠ "java/lang/invoke/VarHandle" ∧ (parseMethodDescriptor yL_prime.desc).map (fun d => d.parameters.length) = some 4 := by decide +kernel
noncomputable def F_L_prime (c_q3_n : Int64) (p1 : Int32) (p2 : Int32) : Option (Int32 × Int64) :=
 obn2 (F_X7_prime p1 p2) (fun xc4 r4 =>
 if xc4 = 0 then
 bnd r4.toInt64 (fun c_q3_n_8 =>
 some ((0 : Int32), c_q3_n_8))
else
 (if xc4 = 2 then
 some ((1 : Int32), c_q3_n)
else
 none))
set_option maxHeartbeats 4000000 in
set_option maxRecDepth 100000 in
theorem c_L_prime (l : Launch) (hfl : l.stackTraces = false) (D : va_G) (cyJ : ClassId) (sz : Nat) (a_q0 : Nat) (a_q3 : Nat) (a_q0_forms : Nat) (a_q0_roll : Nat) (a_q0_row : Nat) (a_q0_rows : Nat) (a_q0_factors : Nat) (a_q0_found : Nat) (a_q0_foundOtherwise : Nat) (c_q0_acts : Int32) (c_q0_refusals : Int32) (c_q0_knocks : Int32) (c_q3_n : Int64) (c_q3_s : Value) (p1 : Int32) (p2 : Int32) (r0 : Int32) (o_c_q3_n : Int64) (hF : F_L_prime c_q3_n p1 p2 = some (r0, o_c_q3_n)) : vx_Met l yL_prime wsL_prime rmL_prime (va_Pc [.ref a_q0, .int p1, .int p2, .ref a_q3] (wPL D [(cyJ, .long)] [(a_q0, .inr (6, [.ref a_q0_forms, .ref a_q0_roll, .ref a_q0_row, .ref a_q0_rows, .ref a_q0_factors, .ref a_q0_found, .ref a_q0_foundOtherwise, .int c_q0_acts, .int c_q0_refusals, .int c_q0_knocks])), (a_q3, .inr (7, [.long c_q3_n, c_q3_s]))] sz)) (va_Qi (fun (r : Int32) (_ : Unit) => r = r0) (fun _ t => wQA D [(a_q0, .inr (6, [.ref a_q0_forms, .ref a_q0_roll, .ref a_q0_row, .ref a_q0_rows, .ref a_q0_factors, .ref a_q0_found, .ref a_q0_foundOtherwise, .int c_q0_acts, .int c_q0_refusals, .int c_q0_knocks])), (a_q3, .inr (7, [.long o_c_q3_n, c_q3_s]))] (va_A [(a_q0, .inr (6, [.ref a_q0_forms, .ref a_q0_roll, .ref a_q0_row, .ref a_q0_rows, .ref a_q0_factors, .ref a_q0_found, .ref a_q0_foundOtherwise, .int c_q0_acts, .int c_q0_refusals, .int c_q0_knocks])), (a_q3, .inr (7, [.long c_q3_n, c_q3_s]))] sz) t) (va_A [(a_q0, .inr (6, [.ref a_q0_forms, .ref a_q0_roll, .ref a_q0_row, .ref a_q0_rows, .ref a_q0_factors, .ref a_q0_found, .ref a_q0_foundOtherwise, .int c_q0_acts, .int c_q0_refusals, .int c_q0_knocks])), (a_q3, .inr (7, [.long c_q3_n, c_q3_s]))] sz)) (fun _ _ _ => False) 2 12 (va_A [(a_q0, .inr (6, [.ref a_q0_forms, .ref a_q0_roll, .ref a_q0_row, .ref a_q0_rows, .ref a_q0_factors, .ref a_q0_found, .ref a_q0_foundOtherwise, .int c_q0_acts, .int c_q0_refusals, .int c_q0_knocks])), (a_q3, .inr (7, [.long c_q3_n, c_q3_s]))] sz) := by
  refine vx_ofWH (cc := cL_prime) (maxL := 5) (ret := (some .int)) (hh := [(0, 11, 14, 21)]) (by decide) rfl ?_
  intro p e s m args below meth c s₁ B hml hv
  obtain ⟨rfl, ⟨⟨hsz, hP, hK, hD0, hnw⟩, hE⟩, hNc⟩ := hv
  have hx := B.exec
  have hb := B.bytes
  have hr := B.returns
  have hts := atoms_spec (ws := wsL_prime) B.pre
  have hown : s.vm.findClass RL = some m.cls := findClass_of_methodNamed B.named
  have hlocks := B.notSynchronized
  have hcf : CallFix _ _ _ _ _ _ _ _ _ := ⟨hx, hb, hml, hown, hts⟩
  have hxt : c.exceptionTable.toList = tableOf [(0, 11, 14, 21)] := vx_table (x := yL_prime) B (hts _ List.mem_cons_self)
  have hinX8 : ∀ w ∈ u_ws RX8 TX8 2, w ∈ wsL_prime := by decide +kernel
  have hfl13 := hnw.use (A := ([.ref a_q0, .int p1, .int p2, .ref a_q3] : List Value).toArray) (w := .fieldLinkNest RL 13 "FormwheelLaw$Out" "n" "J" "FormwheelLaw") (by decide +kernel)
  subst hsz
  have hD := hD0.self (sz := s.heap.size)
  generalize hAe : va_A [(a_q0, .inr (6, [.ref a_q0_forms, .ref a_q0_roll, .ref a_q0_row, .ref a_q0_rows, .ref a_q0_factors, .ref a_q0_found, .ref a_q0_foundOtherwise, .int c_q0_acts, .int c_q0_refusals, .int c_q0_knocks])), (a_q3, .inr (7, [.long c_q3_n, c_q3_s]))] s.heap.size = A at hD hE ⊢
  have hA : ∀ q : Nat, s.heap.size ≤ q → A q := fun q h => by rw [← hAe]; exact Or.inr h
  have hS : va_S A s.heap s.heap [] := va_S.rf
  have hP : va_P D vwCl [(a_q0, .inr (6, [.ref a_q0_forms, .ref a_q0_roll, .ref a_q0_row, .ref a_q0_rows, .ref a_q0_factors, .ref a_q0_found, .ref a_q0_foundOtherwise, .int c_q0_acts, .int c_q0_refusals, .int c_q0_knocks])), (a_q3, .inr (7, [.long c_q3_n, c_q3_s]))] s.heap := hP
  have hK0 := hK
  have hl := lv_entry ([.ref a_q0, .int p1, .int p2, .ref a_q3]) (n := 5) (Nat.le_of_ble_eq_true rfl)
  rw [lg_entry_eq]
  generalize (lg_sl ([.ref a_q0, .int p1, .int p2, .ref a_q3]) ++ List.replicate (5 - (lg_sl ([.ref a_q0, .int p1, .int p2, .ref a_q3])).length) Slot.unset).toArray = ls at hl ⊢
  have hl : lv_has ls 5 [(0, .ref a_q0), (1, .int p1), (2, .int p2), (3, .ref a_q3)] := hl
  have h := hF
  clear hF
  unfold F_L_prime at h
  refine lv_aload_n hx hb dL_prime_0 rfl (lv_at hl 3 rfl) ?_
  refine lv_aload_n hx hb dL_prime_1 rfl (lv_at hl 0 rfl) ?_
  refine lv_iload_n hx hb dL_prime_2 rfl (lv_at hl 1 rfl) ?_
  refine lv_iload_n hx hb dL_prime_3 rfl (lv_at hl 2 rfl) ?_
  obtain ⟨xc4, r4, hc4, h⟩ := obn2_h h
  have hPc := hP.sub (ws' := []) [] rfl
  have hDc := hD.sub (ws' := []) [] (by decide) rfl
  refine hx_i (w1 := []) (wr := [(a_q0, .inr (6, [.ref a_q0_forms, .ref a_q0_roll, .ref a_q0_row, .ref a_q0_rows, .ref a_q0_factors, .ref a_q0_found, .ref a_q0_foundOtherwise, .int c_q0_acts, .int c_q0_refusals, .int c_q0_knocks])), (a_q3, .inr (7, [.long c_q3_n, c_q3_s]))]) (vx_runV (As := [.int p1, .int p2]) (rest := [.ref a_q3]) hcf (c_X7_prime l hfl D cyJ s.heap.size a_q0 p1 p2 xc4 r4 hc4) (cwV 2 hts gL_prime_X7_prime rfl rfl rfl ydX7_prime ⟨Nat.le_of_ble_eq_true rfl, Nat.le_of_ble_eq_true rfl⟩) ⟨bl_PX, va_recv hK hP (ci := 6) (q0 := 0) rfl rfl, pr_PX hPc hK0 hDc hnw hE hS (va_free hD hS hA [] rfl)⟩ rfl rfl hl.1 rfl (lv_room (Nat.le_of_ble_eq_true rfl)) dL_prime_4 ⟨Nat.le_of_ble_eq_true rfl, Nat.le_of_ble_eq_true rfl⟩) hP hD hS hA [] [0, 1] rfl rfl (by decide) (by decide) (fun E9 ce9 q9 H locs hx9 hE9 hP hD hS hce9 hcv9 hcl9 => ?_) (fun hx9 H locs hP hD hS => ?_)
  · have h := if_ hx9 h
    have hP : va_P D vwCl [(a_q0, .inr (6, [.ref a_q0_forms, .ref a_q0_roll, .ref a_q0_row, .ref a_q0_rows, .ref a_q0_factors, .ref a_q0_found, .ref a_q0_foundOtherwise, .int c_q0_acts, .int c_q0_refusals, .int c_q0_knocks])), (a_q3, .inr (7, [.long c_q3_n, c_q3_s]))] H := hP
    have hD : va_D A [(a_q0, .inr (6, [.ref a_q0_forms, .ref a_q0_roll, .ref a_q0_row, .ref a_q0_rows, .ref a_q0_factors, .ref a_q0_found, .ref a_q0_foundOtherwise, .int c_q0_acts, .int c_q0_refusals, .int c_q0_knocks])), (a_q3, .inr (7, [.long c_q3_n, c_q3_s]))] := hD
    by_cases cx0 : xc4 = 2
    · have h := it_ cx0 h
      have hE1 : E9 = "java/lang/IllegalArgumentException" := by rw [hE9, cx0]; rfl
      subst hE1
      refine vx_catch (name := "java/lang/IllegalArgumentException") hown (tableOf []) ⟨0, 11, 14, 21⟩ (tableOf []) hxt (fun z hz => absurd hz List.not_mem_nil) (by decide) (by decide) (hts (.classLink RL 21 "java/lang/IllegalArgumentException") (by decide +kernel)) (va_Nw.use rfl (hE.2.1 (.castable "java/lang/IllegalArgumentException" "java/lang/IllegalArgumentException") (by decide +kernel))) hce9 hcv9 hcl9 ?_
      refine lv_astore (lv' := [(4, .ref q9), (0, .ref a_q0), (1, .int p1), (2, .int p2), (3, .ref a_q3)]) hx hb dL_prime_14 hl (by decide) rfl (fun ls hl => ?_)
      refine lv_iconst (v := 1) hx hb dL_prime_16 (by decide) ?_
      obtain ⟨e0, e1⟩ := tup2 h
      subst e0
      subst e1
      have hP9 : va_P D vwCl [(a_q0, .inr (6, [.ref a_q0_forms, .ref a_q0_roll, .ref a_q0_row, .ref a_q0_rows, .ref a_q0_factors, .ref a_q0_found, .ref a_q0_foundOtherwise, .int c_q0_acts, .int c_q0_refusals, .int c_q0_knocks])), (a_q3, .inr (7, [.long c_q3_n, c_q3_s]))] H := hP.sub [0, 1] rfl
      have hD9 : va_D A [(a_q0, .inr (6, [.ref a_q0_forms, .ref a_q0_roll, .ref a_q0_row, .ref a_q0_rows, .ref a_q0_factors, .ref a_q0_found, .ref a_q0_foundOtherwise, .int c_q0_acts, .int c_q0_refusals, .int c_q0_knocks])), (a_q3, .inr (7, [.long c_q3_n, c_q3_s]))] := hD.sub [0, 1] (by decide) rfl
      refine vx_ret ?_
      exact W.iret hx hb hr (fun t ht hW => ⟨⟨_, (), rfl, rfl, wQA_of ht hP9 hD9⟩, hS.F ht⟩) hS.2.2 dL_prime_17
    have h := if_ cx0 h
    cases h
  · have h := it_ hx9 h
    have hP : va_P D vwCl [(a_q0, .inr (6, [.ref a_q0_forms, .ref a_q0_roll, .ref a_q0_row, .ref a_q0_rows, .ref a_q0_factors, .ref a_q0_found, .ref a_q0_foundOtherwise, .int c_q0_acts, .int c_q0_refusals, .int c_q0_knocks])), (a_q3, .inr (7, [.long c_q3_n, c_q3_s]))] H := hP
    have hD : va_D A [(a_q0, .inr (6, [.ref a_q0_forms, .ref a_q0_roll, .ref a_q0_row, .ref a_q0_rows, .ref a_q0_factors, .ref a_q0_found, .ref a_q0_foundOtherwise, .int c_q0_acts, .int c_q0_refusals, .int c_q0_knocks])), (a_q3, .inr (7, [.long c_q3_n, c_q3_s]))] := hD
    refine lv_i2l (v := r4.toInt64) hx hb dL_prime_7 rfl ?_
    refine lv_topl (fun c_q3_n_8 e_c_q3_n_8 => ?_)
    have h := bnd_h e_c_q3_n_8 h
    refine va_putN (D := D) (ci := 7) (v := .long c_q3_n_8) (ty := .long) (C := RX8) (T := TX8) (N := 2) hx hb hts hinX8 tyX8 tyX8_ok nmX8 hown hK hP hD hS 1 rfl rfl 0 (by decide) hfl13 (fun _ h9 => h9) rfl (by decide +kernel) rfl rfl (Nat.le_of_ble_eq_true rfl) dL_prime_8 (fun H locs hP hD hS => ?_)
    have hP : va_P D vwCl [(a_q0, .inr (6, [.ref a_q0_forms, .ref a_q0_roll, .ref a_q0_row, .ref a_q0_rows, .ref a_q0_factors, .ref a_q0_found, .ref a_q0_foundOtherwise, .int c_q0_acts, .int c_q0_refusals, .int c_q0_knocks])), (a_q3, .inr (7, [.long c_q3_n_8, c_q3_s]))] H := hP
    have hD : va_D A [(a_q0, .inr (6, [.ref a_q0_forms, .ref a_q0_roll, .ref a_q0_row, .ref a_q0_rows, .ref a_q0_factors, .ref a_q0_found, .ref a_q0_foundOtherwise, .int c_q0_acts, .int c_q0_refusals, .int c_q0_knocks])), (a_q3, .inr (7, [.long c_q3_n_8, c_q3_s]))] := hD
    refine lv_goto (tgt := 18) hx hb dL_prime_11 (by decide) ?_
    refine lv_iconst (v := 0) hx hb dL_prime_18 (by decide) ?_
    obtain ⟨e0, e1⟩ := tup2 h
    subst e0
    subst e1
    have hP9 : va_P D vwCl [(a_q0, .inr (6, [.ref a_q0_forms, .ref a_q0_roll, .ref a_q0_row, .ref a_q0_rows, .ref a_q0_factors, .ref a_q0_found, .ref a_q0_foundOtherwise, .int c_q0_acts, .int c_q0_refusals, .int c_q0_knocks])), (a_q3, .inr (7, [.long c_q3_n_8, c_q3_s]))] H := hP.sub [0, 1] rfl
    have hD9 : va_D A [(a_q0, .inr (6, [.ref a_q0_forms, .ref a_q0_roll, .ref a_q0_row, .ref a_q0_rows, .ref a_q0_factors, .ref a_q0_found, .ref a_q0_foundOtherwise, .int c_q0_acts, .int c_q0_refusals, .int c_q0_knocks])), (a_q3, .inr (7, [.long c_q3_n_8, c_q3_s]))] := hD.sub [0, 1] (by decide) rfl
    refine vx_ret ?_
    exact W.iret hx hb hr (fun t ht hW => ⟨⟨_, (), rfl, rfl, wQA_of ht hP9 hD9⟩, hS.F ht⟩) hS.2.2 dL_prime_19

noncomputable abbrev rmL_period : Room := { frames := 10, cells := 2, slots := 12, locals := 166 }
theorem ydL_period : yL_period.cls ≠ "java/lang/invoke/MethodHandle" ∧ yL_period.cls ≠ "java/lang/invoke/VarHandle" ∧ (parseMethodDescriptor yL_period.desc).map (fun d => d.parameters.length) = some 4 := by decide +kernel
noncomputable def F_L_period (f_q0_forms : Nat → Int64) (c_q0_found_size : Int32) (f_q0_found_held : Nat → Int64) (c_q3_n : Int64) (p1 : Int32) (p2 : Int32) : Option (Int32 × Int32 × (Nat → Int64) × Int64) :=
 obn4 (F_X7_period f_q0_forms c_q0_found_size f_q0_found_held p1 p2) (fun xc4 r4 c_q0_found_size_4 f_q0_found_held_4 =>
 if xc4 = 0 then
 bnd r4.toInt64 (fun c_q3_n_8 =>
 some ((0 : Int32), c_q0_found_size_4, f_q0_found_held_4, c_q3_n_8))
else
 (if xc4 = 1 then
 some ((1 : Int32), c_q0_found_size_4, f_q0_found_held_4, c_q3_n)
else
 (if xc4 = 2 then
 some ((2 : Int32), c_q0_found_size_4, f_q0_found_held_4, c_q3_n)
else
 none)))
set_option maxHeartbeats 4000000 in
set_option maxRecDepth 100000 in
theorem c_L_period (l : Launch) (hfl : l.stackTraces = false) (D : va_G) (cyJ : ClassId) (sz : Nat) (a_q0 : Nat) (a_q3 : Nat) (a_q0_forms : Nat) (a_q0_roll : Nat) (a_q0_row : Nat) (a_q0_rows : Nat) (a_q0_factors : Nat) (a_q0_found : Nat) (a_q0_foundOtherwise : Nat) (a_q0_factors_parts : Nat) (a_q0_found_held : Nat) (a_q0_found_before : Nat) (c_q0_acts : Int32) (c_q0_refusals : Int32) (c_q0_knocks : Int32) (f_q0_forms : Nat → Int64) (c_q0_found_size : Int32) (f_q0_found_held : Nat → Int64) (c_q3_n : Int64) (c_q3_s : Value) (p1 : Int32) (p2 : Int32) (r0 : Int32) (o_c_q0_found_size : Int32) (o_f_q0_found_held : Nat → Int64) (o_c_q3_n : Int64) (hF : F_L_period f_q0_forms c_q0_found_size f_q0_found_held c_q3_n p1 p2 = some (r0, o_c_q0_found_size, o_f_q0_found_held, o_c_q3_n)) : vx_Met l yL_period wsL_period rmL_period (va_Pc [.ref a_q0, .int p1, .int p2, .ref a_q3] (wPL D [(cyJ, .long)] [(a_q0, .inr (6, [.ref a_q0_forms, .ref a_q0_roll, .ref a_q0_row, .ref a_q0_rows, .ref a_q0_factors, .ref a_q0_found, .ref a_q0_foundOtherwise, .int c_q0_acts, .int c_q0_refusals, .int c_q0_knocks])), (a_q0_forms, .inl (cyJ, 6, .inr (.inl f_q0_forms))), (a_q0_factors, .inr (2, [.ref a_q0_factors_parts])), (a_q0_found, .inr (3, [.ref a_q0_found_held, .ref a_q0_found_before, .int c_q0_found_size])), (a_q0_found_held, .inl (cyJ, 12, .inr (.inl f_q0_found_held))), (a_q3, .inr (7, [.long c_q3_n, c_q3_s]))] sz)) (va_Qi (fun (r : Int32) (_ : Unit) => r = r0) (fun _ t => wQA D [(a_q0, .inr (6, [.ref a_q0_forms, .ref a_q0_roll, .ref a_q0_row, .ref a_q0_rows, .ref a_q0_factors, .ref a_q0_found, .ref a_q0_foundOtherwise, .int c_q0_acts, .int c_q0_refusals, .int c_q0_knocks])), (a_q0_forms, .inl (cyJ, 6, .inr (.inl f_q0_forms))), (a_q0_factors, .inr (2, [.ref a_q0_factors_parts])), (a_q0_found, .inr (3, [.ref a_q0_found_held, .ref a_q0_found_before, .int o_c_q0_found_size])), (a_q0_found_held, .inl (cyJ, 12, .inr (.inl o_f_q0_found_held))), (a_q3, .inr (7, [.long o_c_q3_n, c_q3_s]))] (va_A [(a_q0, .inr (6, [.ref a_q0_forms, .ref a_q0_roll, .ref a_q0_row, .ref a_q0_rows, .ref a_q0_factors, .ref a_q0_found, .ref a_q0_foundOtherwise, .int c_q0_acts, .int c_q0_refusals, .int c_q0_knocks])), (a_q0_forms, .inl (cyJ, 6, .inr (.inl f_q0_forms))), (a_q0_factors, .inr (2, [.ref a_q0_factors_parts])), (a_q0_found, .inr (3, [.ref a_q0_found_held, .ref a_q0_found_before, .int c_q0_found_size])), (a_q0_found_held, .inl (cyJ, 12, .inr (.inl f_q0_found_held))), (a_q3, .inr (7, [.long c_q3_n, c_q3_s]))] sz) t) (va_A [(a_q0, .inr (6, [.ref a_q0_forms, .ref a_q0_roll, .ref a_q0_row, .ref a_q0_rows, .ref a_q0_factors, .ref a_q0_found, .ref a_q0_foundOtherwise, .int c_q0_acts, .int c_q0_refusals, .int c_q0_knocks])), (a_q0_forms, .inl (cyJ, 6, .inr (.inl f_q0_forms))), (a_q0_factors, .inr (2, [.ref a_q0_factors_parts])), (a_q0_found, .inr (3, [.ref a_q0_found_held, .ref a_q0_found_before, .int c_q0_found_size])), (a_q0_found_held, .inl (cyJ, 12, .inr (.inl f_q0_found_held))), (a_q3, .inr (7, [.long c_q3_n, c_q3_s]))] sz)) (fun _ _ _ => False) 2 12 (va_A [(a_q0, .inr (6, [.ref a_q0_forms, .ref a_q0_roll, .ref a_q0_row, .ref a_q0_rows, .ref a_q0_factors, .ref a_q0_found, .ref a_q0_foundOtherwise, .int c_q0_acts, .int c_q0_refusals, .int c_q0_knocks])), (a_q0_forms, .inl (cyJ, 6, .inr (.inl f_q0_forms))), (a_q0_factors, .inr (2, [.ref a_q0_factors_parts])), (a_q0_found, .inr (3, [.ref a_q0_found_held, .ref a_q0_found_before, .int c_q0_found_size])), (a_q0_found_held, .inl (cyJ, 12, .inr (.inl f_q0_found_held))), (a_q3, .inr (7, [.long c_q3_n, c_q3_s]))] sz) := by
  refine vx_ofWH (cc := cL_period) (maxL := 5) (ret := (some .int)) (hh := [(0, 11, 14, 19), (0, 11, 18, 21)]) (by decide) rfl ?_
  intro p e s m args below meth c s₁ B hml hv
  obtain ⟨rfl, ⟨⟨hsz, hP, hK, hD0, hnw⟩, hE⟩, hNc⟩ := hv
  have hx := B.exec
  have hb := B.bytes
  have hr := B.returns
  have hts := atoms_spec (ws := wsL_period) B.pre
  have hown : s.vm.findClass RL = some m.cls := findClass_of_methodNamed B.named
  have hlocks := B.notSynchronized
  have hcf : CallFix _ _ _ _ _ _ _ _ _ := ⟨hx, hb, hml, hown, hts⟩
  have hxt : c.exceptionTable.toList = tableOf [(0, 11, 14, 19), (0, 11, 18, 21)] := vx_table (x := yL_period) B (hts _ List.mem_cons_self)
  have hinX8 : ∀ w ∈ u_ws RX8 TX8 2, w ∈ wsL_period := by decide +kernel
  have hfl13 := hnw.use (A := ([.ref a_q0, .int p1, .int p2, .ref a_q3] : List Value).toArray) (w := .fieldLinkNest RL 13 "FormwheelLaw$Out" "n" "J" "FormwheelLaw") (by decide +kernel)
  subst hsz
  have hD := hD0.self (sz := s.heap.size)
  generalize hAe : va_A [(a_q0, .inr (6, [.ref a_q0_forms, .ref a_q0_roll, .ref a_q0_row, .ref a_q0_rows, .ref a_q0_factors, .ref a_q0_found, .ref a_q0_foundOtherwise, .int c_q0_acts, .int c_q0_refusals, .int c_q0_knocks])), (a_q0_forms, .inl (cyJ, 6, .inr (.inl f_q0_forms))), (a_q0_factors, .inr (2, [.ref a_q0_factors_parts])), (a_q0_found, .inr (3, [.ref a_q0_found_held, .ref a_q0_found_before, .int c_q0_found_size])), (a_q0_found_held, .inl (cyJ, 12, .inr (.inl f_q0_found_held))), (a_q3, .inr (7, [.long c_q3_n, c_q3_s]))] s.heap.size = A at hD hE ⊢
  have hA : ∀ q : Nat, s.heap.size ≤ q → A q := fun q h => by rw [← hAe]; exact Or.inr h
  have hS : va_S A s.heap s.heap [] := va_S.rf
  have hP : va_P D vwCl [(a_q0, .inr (6, [.ref a_q0_forms, .ref a_q0_roll, .ref a_q0_row, .ref a_q0_rows, .ref a_q0_factors, .ref a_q0_found, .ref a_q0_foundOtherwise, .int c_q0_acts, .int c_q0_refusals, .int c_q0_knocks])), (a_q0_forms, .inl (cyJ, 6, .inr (.inl f_q0_forms))), (a_q0_factors, .inr (2, [.ref a_q0_factors_parts])), (a_q0_found, .inr (3, [.ref a_q0_found_held, .ref a_q0_found_before, .int c_q0_found_size])), (a_q0_found_held, .inl (cyJ, 12, .inr (.inl f_q0_found_held))), (a_q3, .inr (7, [.long c_q3_n, c_q3_s]))] s.heap := hP
  have hK0 := hK
  have hl := lv_entry ([.ref a_q0, .int p1, .int p2, .ref a_q3]) (n := 5) (Nat.le_of_ble_eq_true rfl)
  rw [lg_entry_eq]
  generalize (lg_sl ([.ref a_q0, .int p1, .int p2, .ref a_q3]) ++ List.replicate (5 - (lg_sl ([.ref a_q0, .int p1, .int p2, .ref a_q3])).length) Slot.unset).toArray = ls at hl ⊢
  have hl : lv_has ls 5 [(0, .ref a_q0), (1, .int p1), (2, .int p2), (3, .ref a_q3)] := hl
  have h := hF
  clear hF
  unfold F_L_period at h
  refine lv_aload_n hx hb dL_period_0 rfl (lv_at hl 3 rfl) ?_
  refine lv_aload_n hx hb dL_period_1 rfl (lv_at hl 0 rfl) ?_
  refine lv_iload_n hx hb dL_period_2 rfl (lv_at hl 1 rfl) ?_
  refine lv_iload_n hx hb dL_period_3 rfl (lv_at hl 2 rfl) ?_
  obtain ⟨xc4, r4, c_q0_found_size_4, f_q0_found_held_4, hc4, h⟩ := obn4_h h
  have hPc := hP.sub (ws' := [(a_q0, .inr (6, [.ref a_q0_forms, .ref a_q0_roll, .ref a_q0_row, .ref a_q0_rows, .ref a_q0_factors, .ref a_q0_found, .ref a_q0_foundOtherwise, .int c_q0_acts, .int c_q0_refusals, .int c_q0_knocks])), (a_q0_forms, .inl (cyJ, 6, .inr (.inl f_q0_forms))), (a_q0_factors, .inr (2, [.ref a_q0_factors_parts])), (a_q0_found, .inr (3, [.ref a_q0_found_held, .ref a_q0_found_before, .int c_q0_found_size])), (a_q0_found_held, .inl (cyJ, 12, .inr (.inl f_q0_found_held)))]) [0, 1, 2, 3, 4] rfl
  have hDc := hD.sub (ws' := [(a_q0, .inr (6, [.ref a_q0_forms, .ref a_q0_roll, .ref a_q0_row, .ref a_q0_rows, .ref a_q0_factors, .ref a_q0_found, .ref a_q0_foundOtherwise, .int c_q0_acts, .int c_q0_refusals, .int c_q0_knocks])), (a_q0_forms, .inl (cyJ, 6, .inr (.inl f_q0_forms))), (a_q0_factors, .inr (2, [.ref a_q0_factors_parts])), (a_q0_found, .inr (3, [.ref a_q0_found_held, .ref a_q0_found_before, .int c_q0_found_size])), (a_q0_found_held, .inl (cyJ, 12, .inr (.inl f_q0_found_held)))]) [0, 1, 2, 3, 4] (by decide) rfl
  refine hx_i (w1 := [(a_q0, .inr (6, [.ref a_q0_forms, .ref a_q0_roll, .ref a_q0_row, .ref a_q0_rows, .ref a_q0_factors, .ref a_q0_found, .ref a_q0_foundOtherwise, .int c_q0_acts, .int c_q0_refusals, .int c_q0_knocks])), (a_q0_forms, .inl (cyJ, 6, .inr (.inl f_q0_forms))), (a_q0_factors, .inr (2, [.ref a_q0_factors_parts])), (a_q0_found, .inr (3, [.ref a_q0_found_held, .ref a_q0_found_before, .int c_q0_found_size_4])), (a_q0_found_held, .inl (cyJ, 12, .inr (.inl f_q0_found_held_4)))]) (wr := [(a_q3, .inr (7, [.long c_q3_n, c_q3_s]))]) (vx_runV (As := [.int p1, .int p2]) (rest := [.ref a_q3]) hcf (c_X7_period l hfl D cyJ s.heap.size a_q0 a_q0_forms a_q0_roll a_q0_row a_q0_rows a_q0_factors a_q0_found a_q0_foundOtherwise a_q0_factors_parts a_q0_found_held a_q0_found_before c_q0_acts c_q0_refusals c_q0_knocks f_q0_forms c_q0_found_size f_q0_found_held p1 p2 xc4 r4 c_q0_found_size_4 f_q0_found_held_4 hc4) (cwV 2 hts gL_period_X7_period rfl rfl rfl ydX7_period ⟨Nat.le_of_ble_eq_true rfl, Nat.le_of_ble_eq_true rfl⟩) ⟨bl_PX, va_recv hK hP (ci := 6) (q0 := 0) rfl rfl, pr_PX hPc hK0 hDc hnw hE hS (va_free hD hS hA [0, 1, 2, 3, 4] rfl)⟩ rfl rfl hl.1 rfl (lv_room (Nat.le_of_ble_eq_true rfl)) dL_period_4 ⟨Nat.le_of_ble_eq_true rfl, Nat.le_of_ble_eq_true rfl⟩) hP hD hS hA [0, 1, 2, 3, 4] [5] rfl rfl (by decide) (by decide) (fun E9 ce9 q9 H locs hx9 hE9 hP hD hS hce9 hcv9 hcl9 => ?_) (fun hx9 H locs hP hD hS => ?_)
  · have h := if_ hx9 h
    have hP : va_P D vwCl [(a_q3, .inr (7, [.long c_q3_n, c_q3_s])), (a_q0, .inr (6, [.ref a_q0_forms, .ref a_q0_roll, .ref a_q0_row, .ref a_q0_rows, .ref a_q0_factors, .ref a_q0_found, .ref a_q0_foundOtherwise, .int c_q0_acts, .int c_q0_refusals, .int c_q0_knocks])), (a_q0_forms, .inl (cyJ, 6, .inr (.inl f_q0_forms))), (a_q0_factors, .inr (2, [.ref a_q0_factors_parts])), (a_q0_found, .inr (3, [.ref a_q0_found_held, .ref a_q0_found_before, .int c_q0_found_size_4])), (a_q0_found_held, .inl (cyJ, 12, .inr (.inl f_q0_found_held_4)))] H := hP
    have hD : va_D A [(a_q3, .inr (7, [.long c_q3_n, c_q3_s])), (a_q0, .inr (6, [.ref a_q0_forms, .ref a_q0_roll, .ref a_q0_row, .ref a_q0_rows, .ref a_q0_factors, .ref a_q0_found, .ref a_q0_foundOtherwise, .int c_q0_acts, .int c_q0_refusals, .int c_q0_knocks])), (a_q0_forms, .inl (cyJ, 6, .inr (.inl f_q0_forms))), (a_q0_factors, .inr (2, [.ref a_q0_factors_parts])), (a_q0_found, .inr (3, [.ref a_q0_found_held, .ref a_q0_found_before, .int c_q0_found_size_4])), (a_q0_found_held, .inl (cyJ, 12, .inr (.inl f_q0_found_held_4)))] := hD
    by_cases cx0 : xc4 = 1
    · have h := it_ cx0 h
      have hE1 : E9 = "java/lang/IndexOutOfBoundsException" := by rw [hE9, cx0]; rfl
      subst hE1
      refine vx_catch (name := "java/lang/IndexOutOfBoundsException") hown (tableOf []) ⟨0, 11, 14, 19⟩ (tableOf [(0, 11, 18, 21)]) hxt (fun z hz => absurd hz List.not_mem_nil) (by decide) (by decide) (hts (.classLink RL 19 "java/lang/IndexOutOfBoundsException") (by decide +kernel)) (va_Nw.use rfl (hE.2.1 (.castable "java/lang/IndexOutOfBoundsException" "java/lang/IndexOutOfBoundsException") (by decide +kernel))) hce9 hcv9 hcl9 ?_
      refine lv_astore (lv' := [(4, .ref q9), (0, .ref a_q0), (1, .int p1), (2, .int p2), (3, .ref a_q3)]) hx hb dL_period_14 hl (by decide) rfl (fun ls hl => ?_)
      refine lv_iconst (v := 1) hx hb dL_period_16 (by decide) ?_
      obtain ⟨e0, e1, e2, e3⟩ := tup4 h
      subst e0
      subst e1
      subst e2
      subst e3
      have hP9 : va_P D vwCl [(a_q0, .inr (6, [.ref a_q0_forms, .ref a_q0_roll, .ref a_q0_row, .ref a_q0_rows, .ref a_q0_factors, .ref a_q0_found, .ref a_q0_foundOtherwise, .int c_q0_acts, .int c_q0_refusals, .int c_q0_knocks])), (a_q0_forms, .inl (cyJ, 6, .inr (.inl f_q0_forms))), (a_q0_factors, .inr (2, [.ref a_q0_factors_parts])), (a_q0_found, .inr (3, [.ref a_q0_found_held, .ref a_q0_found_before, .int c_q0_found_size_4])), (a_q0_found_held, .inl (cyJ, 12, .inr (.inl f_q0_found_held_4))), (a_q3, .inr (7, [.long c_q3_n, c_q3_s]))] H := hP.sub [1, 2, 3, 4, 5, 0] rfl
      have hD9 : va_D A [(a_q0, .inr (6, [.ref a_q0_forms, .ref a_q0_roll, .ref a_q0_row, .ref a_q0_rows, .ref a_q0_factors, .ref a_q0_found, .ref a_q0_foundOtherwise, .int c_q0_acts, .int c_q0_refusals, .int c_q0_knocks])), (a_q0_forms, .inl (cyJ, 6, .inr (.inl f_q0_forms))), (a_q0_factors, .inr (2, [.ref a_q0_factors_parts])), (a_q0_found, .inr (3, [.ref a_q0_found_held, .ref a_q0_found_before, .int c_q0_found_size_4])), (a_q0_found_held, .inl (cyJ, 12, .inr (.inl f_q0_found_held_4))), (a_q3, .inr (7, [.long c_q3_n, c_q3_s]))] := hD.sub [1, 2, 3, 4, 5, 0] (by decide) rfl
      refine vx_ret ?_
      exact W.iret hx hb hr (fun t ht hW => ⟨⟨_, (), rfl, rfl, wQA_of ht hP9 hD9⟩, hS.F ht⟩) hS.2.2 dL_period_17
    have h := if_ cx0 h
    by_cases cx1 : xc4 = 2
    · have h := it_ cx1 h
      have hE1 : E9 = "java/lang/IllegalArgumentException" := by rw [hE9, cx1]; rfl
      subst hE1
      refine vx_catch (name := "java/lang/IllegalArgumentException") hown (tableOf [(0, 11, 14, 19)]) ⟨0, 11, 18, 21⟩ (tableOf []) hxt (fun z hz => by obtain rfl := List.mem_singleton.mp hz; exact Or.inr ⟨by decide, "java/lang/IndexOutOfBoundsException", hts (.classLink RL 19 "java/lang/IndexOutOfBoundsException") (by decide +kernel), hNc⟩) (by decide) (by decide) (hts (.classLink RL 21 "java/lang/IllegalArgumentException") (by decide +kernel)) (va_Nw.use rfl (hE.2.1 (.castable "java/lang/IllegalArgumentException" "java/lang/IllegalArgumentException") (by decide +kernel))) hce9 hcv9 hcl9 ?_
      refine lv_astore (lv' := [(4, .ref q9), (0, .ref a_q0), (1, .int p1), (2, .int p2), (3, .ref a_q3)]) hx hb dL_period_18 hl (by decide) rfl (fun ls hl => ?_)
      refine lv_iconst (v := 2) hx hb dL_period_20 (by decide) ?_
      obtain ⟨e0, e1, e2, e3⟩ := tup4 h
      subst e0
      subst e1
      subst e2
      subst e3
      have hP9 : va_P D vwCl [(a_q0, .inr (6, [.ref a_q0_forms, .ref a_q0_roll, .ref a_q0_row, .ref a_q0_rows, .ref a_q0_factors, .ref a_q0_found, .ref a_q0_foundOtherwise, .int c_q0_acts, .int c_q0_refusals, .int c_q0_knocks])), (a_q0_forms, .inl (cyJ, 6, .inr (.inl f_q0_forms))), (a_q0_factors, .inr (2, [.ref a_q0_factors_parts])), (a_q0_found, .inr (3, [.ref a_q0_found_held, .ref a_q0_found_before, .int c_q0_found_size_4])), (a_q0_found_held, .inl (cyJ, 12, .inr (.inl f_q0_found_held_4))), (a_q3, .inr (7, [.long c_q3_n, c_q3_s]))] H := hP.sub [1, 2, 3, 4, 5, 0] rfl
      have hD9 : va_D A [(a_q0, .inr (6, [.ref a_q0_forms, .ref a_q0_roll, .ref a_q0_row, .ref a_q0_rows, .ref a_q0_factors, .ref a_q0_found, .ref a_q0_foundOtherwise, .int c_q0_acts, .int c_q0_refusals, .int c_q0_knocks])), (a_q0_forms, .inl (cyJ, 6, .inr (.inl f_q0_forms))), (a_q0_factors, .inr (2, [.ref a_q0_factors_parts])), (a_q0_found, .inr (3, [.ref a_q0_found_held, .ref a_q0_found_before, .int c_q0_found_size_4])), (a_q0_found_held, .inl (cyJ, 12, .inr (.inl f_q0_found_held_4))), (a_q3, .inr (7, [.long c_q3_n, c_q3_s]))] := hD.sub [1, 2, 3, 4, 5, 0] (by decide) rfl
      refine vx_ret ?_
      exact W.iret hx hb hr (fun t ht hW => ⟨⟨_, (), rfl, rfl, wQA_of ht hP9 hD9⟩, hS.F ht⟩) hS.2.2 dL_period_21
    have h := if_ cx1 h
    cases h
  · have h := it_ hx9 h
    have hP : va_P D vwCl [(a_q3, .inr (7, [.long c_q3_n, c_q3_s])), (a_q0, .inr (6, [.ref a_q0_forms, .ref a_q0_roll, .ref a_q0_row, .ref a_q0_rows, .ref a_q0_factors, .ref a_q0_found, .ref a_q0_foundOtherwise, .int c_q0_acts, .int c_q0_refusals, .int c_q0_knocks])), (a_q0_forms, .inl (cyJ, 6, .inr (.inl f_q0_forms))), (a_q0_factors, .inr (2, [.ref a_q0_factors_parts])), (a_q0_found, .inr (3, [.ref a_q0_found_held, .ref a_q0_found_before, .int c_q0_found_size_4])), (a_q0_found_held, .inl (cyJ, 12, .inr (.inl f_q0_found_held_4)))] H := hP
    have hD : va_D A [(a_q3, .inr (7, [.long c_q3_n, c_q3_s])), (a_q0, .inr (6, [.ref a_q0_forms, .ref a_q0_roll, .ref a_q0_row, .ref a_q0_rows, .ref a_q0_factors, .ref a_q0_found, .ref a_q0_foundOtherwise, .int c_q0_acts, .int c_q0_refusals, .int c_q0_knocks])), (a_q0_forms, .inl (cyJ, 6, .inr (.inl f_q0_forms))), (a_q0_factors, .inr (2, [.ref a_q0_factors_parts])), (a_q0_found, .inr (3, [.ref a_q0_found_held, .ref a_q0_found_before, .int c_q0_found_size_4])), (a_q0_found_held, .inl (cyJ, 12, .inr (.inl f_q0_found_held_4)))] := hD
    refine lv_i2l (v := r4.toInt64) hx hb dL_period_7 rfl ?_
    refine lv_topl (fun c_q3_n_8 e_c_q3_n_8 => ?_)
    have h := bnd_h e_c_q3_n_8 h
    refine va_putN (D := D) (ci := 7) (v := .long c_q3_n_8) (ty := .long) (C := RX8) (T := TX8) (N := 2) hx hb hts hinX8 tyX8 tyX8_ok nmX8 hown hK hP hD hS 0 rfl rfl 0 (by decide) hfl13 (fun _ h9 => h9) rfl (by decide +kernel) rfl rfl (Nat.le_of_ble_eq_true rfl) dL_period_8 (fun H locs hP hD hS => ?_)
    have hP : va_P D vwCl [(a_q3, .inr (7, [.long c_q3_n_8, c_q3_s])), (a_q0, .inr (6, [.ref a_q0_forms, .ref a_q0_roll, .ref a_q0_row, .ref a_q0_rows, .ref a_q0_factors, .ref a_q0_found, .ref a_q0_foundOtherwise, .int c_q0_acts, .int c_q0_refusals, .int c_q0_knocks])), (a_q0_forms, .inl (cyJ, 6, .inr (.inl f_q0_forms))), (a_q0_factors, .inr (2, [.ref a_q0_factors_parts])), (a_q0_found, .inr (3, [.ref a_q0_found_held, .ref a_q0_found_before, .int c_q0_found_size_4])), (a_q0_found_held, .inl (cyJ, 12, .inr (.inl f_q0_found_held_4)))] H := hP
    have hD : va_D A [(a_q3, .inr (7, [.long c_q3_n_8, c_q3_s])), (a_q0, .inr (6, [.ref a_q0_forms, .ref a_q0_roll, .ref a_q0_row, .ref a_q0_rows, .ref a_q0_factors, .ref a_q0_found, .ref a_q0_foundOtherwise, .int c_q0_acts, .int c_q0_refusals, .int c_q0_knocks])), (a_q0_forms, .inl (cyJ, 6, .inr (.inl f_q0_forms))), (a_q0_factors, .inr (2, [.ref a_q0_factors_parts])), (a_q0_found, .inr (3, [.ref a_q0_found_held, .ref a_q0_found_before, .int c_q0_found_size_4])), (a_q0_found_held, .inl (cyJ, 12, .inr (.inl f_q0_found_held_4)))] := hD
    refine lv_goto (tgt := 22) hx hb dL_period_11 (by decide) ?_
    refine lv_iconst (v := 0) hx hb dL_period_22 (by decide) ?_
    obtain ⟨e0, e1, e2, e3⟩ := tup4 h
    subst e0
    subst e1
    subst e2
    subst e3
    have hP9 : va_P D vwCl [(a_q0, .inr (6, [.ref a_q0_forms, .ref a_q0_roll, .ref a_q0_row, .ref a_q0_rows, .ref a_q0_factors, .ref a_q0_found, .ref a_q0_foundOtherwise, .int c_q0_acts, .int c_q0_refusals, .int c_q0_knocks])), (a_q0_forms, .inl (cyJ, 6, .inr (.inl f_q0_forms))), (a_q0_factors, .inr (2, [.ref a_q0_factors_parts])), (a_q0_found, .inr (3, [.ref a_q0_found_held, .ref a_q0_found_before, .int c_q0_found_size_4])), (a_q0_found_held, .inl (cyJ, 12, .inr (.inl f_q0_found_held_4))), (a_q3, .inr (7, [.long c_q3_n_8, c_q3_s]))] H := hP.sub [1, 2, 3, 4, 5, 0] rfl
    have hD9 : va_D A [(a_q0, .inr (6, [.ref a_q0_forms, .ref a_q0_roll, .ref a_q0_row, .ref a_q0_rows, .ref a_q0_factors, .ref a_q0_found, .ref a_q0_foundOtherwise, .int c_q0_acts, .int c_q0_refusals, .int c_q0_knocks])), (a_q0_forms, .inl (cyJ, 6, .inr (.inl f_q0_forms))), (a_q0_factors, .inr (2, [.ref a_q0_factors_parts])), (a_q0_found, .inr (3, [.ref a_q0_found_held, .ref a_q0_found_before, .int c_q0_found_size_4])), (a_q0_found_held, .inl (cyJ, 12, .inr (.inl f_q0_found_held_4))), (a_q3, .inr (7, [.long c_q3_n_8, c_q3_s]))] := hD.sub [1, 2, 3, 4, 5, 0] (by decide) rfl
    refine vx_ret ?_
    exact W.iret hx hb hr (fun t ht hW => ⟨⟨_, (), rfl, rfl, wQA_of ht hP9 hD9⟩, hS.F ht⟩) hS.2.2 dL_period_23

noncomputable abbrev rmL_rollText : Room := { frames := 10, cells := 137, slots := 40214, locals := 235 }
theorem ydL_rollText : yL_rollText.cls ≠ "java/lang/invoke/MethodHandle" ∧ yL_rollText.cls ≠ "java/lang/invoke/VarHandle" ∧ (parseMethodDescriptor yL_rollText.desc).map (fun d => d.parameters.length) = some 3 := by decide +kernel
noncomputable def F_L_rollText (c_q0_roll_size : Int32) (f_q0_roll_held : Nat → Int64) (p1 : Int32) : Option (Int32) :=
 obn (F_X7_rollText c_q0_roll_size f_q0_roll_held p1) (fun xc3 =>
 if xc3 = 0 then
 some (0 : Int32)
else
 (if xc3 = 1 then
 some (1 : Int32)
else
 none))
set_option maxHeartbeats 4000000 in
set_option maxRecDepth 100000 in
theorem c_L_rollText (l : Launch) (hfl : l.stackTraces = false) (D : va_G) (cyJ cyB : ClassId) (adK adV : Nat → Nat) (sz : Nat) (a_q0 : Nat) (a_q2 : Nat) (a_q0_forms : Nat) (a_q0_roll : Nat) (a_q0_row : Nat) (a_q0_rows : Nat) (a_q0_factors : Nat) (a_q0_found : Nat) (a_q0_foundOtherwise : Nat) (a_q0_roll_held : Nat) (a_q0_roll_before : Nat) (c_q0_acts : Int32) (c_q0_refusals : Int32) (c_q0_knocks : Int32) (c_q0_roll_size : Int32) (f_q0_roll_held : Nat → Int64) (c_q2_n : Int64) (c_q2_s : Value) (p1 : Int32) (r0 : Int32) (hF : F_L_rollText c_q0_roll_size f_q0_roll_held p1 = some r0) : vx_Met l yL_rollText wsL_rollText rmL_rollText (va_Pc [.ref a_q0, .int p1, .ref a_q2] (wPLT D [(cyJ, .long), (cyB, .byte)] [(a_q0, .inr (6, [.ref a_q0_forms, .ref a_q0_roll, .ref a_q0_row, .ref a_q0_rows, .ref a_q0_factors, .ref a_q0_found, .ref a_q0_foundOtherwise, .int c_q0_acts, .int c_q0_refusals, .int c_q0_knocks])), (a_q0_roll, .inr (3, [.ref a_q0_roll_held, .ref a_q0_roll_before, .int c_q0_roll_size])), (a_q0_roll_held, .inl (cyJ, 12, .inr (.inl f_q0_roll_held))), (a_q2, .inr (7, [.long c_q2_n, c_q2_s]))] adK adV sz)) (va_Qi (fun (r : Int32) (_ : Value) => r = r0) (fun u t => wQA D [(a_q0, .inr (6, [.ref a_q0_forms, .ref a_q0_roll, .ref a_q0_row, .ref a_q0_rows, .ref a_q0_factors, .ref a_q0_found, .ref a_q0_foundOtherwise, .int c_q0_acts, .int c_q0_refusals, .int c_q0_knocks])), (a_q0_roll, .inr (3, [.ref a_q0_roll_held, .ref a_q0_roll_before, .int c_q0_roll_size])), (a_q0_roll_held, .inl (cyJ, 12, .inr (.inl f_q0_roll_held))), (a_q2, .inr (7, [.long c_q2_n, u]))] (va_A [(a_q0, .inr (6, [.ref a_q0_forms, .ref a_q0_roll, .ref a_q0_row, .ref a_q0_rows, .ref a_q0_factors, .ref a_q0_found, .ref a_q0_foundOtherwise, .int c_q0_acts, .int c_q0_refusals, .int c_q0_knocks])), (a_q0_roll, .inr (3, [.ref a_q0_roll_held, .ref a_q0_roll_before, .int c_q0_roll_size])), (a_q0_roll_held, .inl (cyJ, 12, .inr (.inl f_q0_roll_held))), (a_q2, .inr (7, [.long c_q2_n, c_q2_s]))] sz) t) (va_A [(a_q0, .inr (6, [.ref a_q0_forms, .ref a_q0_roll, .ref a_q0_row, .ref a_q0_rows, .ref a_q0_factors, .ref a_q0_found, .ref a_q0_foundOtherwise, .int c_q0_acts, .int c_q0_refusals, .int c_q0_knocks])), (a_q0_roll, .inr (3, [.ref a_q0_roll_held, .ref a_q0_roll_before, .int c_q0_roll_size])), (a_q0_roll_held, .inl (cyJ, 12, .inr (.inl f_q0_roll_held))), (a_q2, .inr (7, [.long c_q2_n, c_q2_s]))] sz)) (fun _ _ _ => False) 137 40214 (va_A [(a_q0, .inr (6, [.ref a_q0_forms, .ref a_q0_roll, .ref a_q0_row, .ref a_q0_rows, .ref a_q0_factors, .ref a_q0_found, .ref a_q0_foundOtherwise, .int c_q0_acts, .int c_q0_refusals, .int c_q0_knocks])), (a_q0_roll, .inr (3, [.ref a_q0_roll_held, .ref a_q0_roll_before, .int c_q0_roll_size])), (a_q0_roll_held, .inl (cyJ, 12, .inr (.inl f_q0_roll_held))), (a_q2, .inr (7, [.long c_q2_n, c_q2_s]))] sz) := by
  refine vx_ofWH (cc := cL_rollText) (maxL := 4) (ret := (some .int)) (hh := [(0, 9, 12, 19)]) (by decide) rfl ?_
  intro p e s m args below meth c s₁ B hml hv
  obtain ⟨rfl, ⟨⟨hsz, hP, hK, hD0, hnw⟩, hE⟩, hT, hNc⟩ := hv
  have hx := B.exec
  have hb := B.bytes
  have hr := B.returns
  have hts := atoms_spec (ws := wsL_rollText) B.pre
  have hown : s.vm.findClass RL = some m.cls := findClass_of_methodNamed B.named
  have hlocks := B.notSynchronized
  have hcf : CallFix _ _ _ _ _ _ _ _ _ := ⟨hx, hb, hml, hown, hts⟩
  have hxt : c.exceptionTable.toList = tableOf [(0, 9, 12, 19)] := vx_table (x := yL_rollText) B (hts _ List.mem_cons_self)
  have hinX8 : ∀ w ∈ u_ws RX8 TX8 2, w ∈ wsL_rollText := by decide +kernel
  have hfl124 := hnw.use (A := ([.ref a_q0, .int p1, .ref a_q2] : List Value).toArray) (w := .fieldLinkNest RL 124 "FormwheelLaw$Out" "s" "Ljava/lang/String;" "FormwheelLaw") (by decide +kernel)
  subst hsz
  have hD := hD0.self (sz := s.heap.size)
  generalize hAe : va_A [(a_q0, .inr (6, [.ref a_q0_forms, .ref a_q0_roll, .ref a_q0_row, .ref a_q0_rows, .ref a_q0_factors, .ref a_q0_found, .ref a_q0_foundOtherwise, .int c_q0_acts, .int c_q0_refusals, .int c_q0_knocks])), (a_q0_roll, .inr (3, [.ref a_q0_roll_held, .ref a_q0_roll_before, .int c_q0_roll_size])), (a_q0_roll_held, .inl (cyJ, 12, .inr (.inl f_q0_roll_held))), (a_q2, .inr (7, [.long c_q2_n, c_q2_s]))] s.heap.size = A at hD hE hT ⊢
  have hA : ∀ q : Nat, s.heap.size ≤ q → A q := fun q h => by rw [← hAe]; exact Or.inr h
  have hS : va_S A s.heap s.heap [] := va_S.rf
  have hP : va_P D vwCl [(a_q0, .inr (6, [.ref a_q0_forms, .ref a_q0_roll, .ref a_q0_row, .ref a_q0_rows, .ref a_q0_factors, .ref a_q0_found, .ref a_q0_foundOtherwise, .int c_q0_acts, .int c_q0_refusals, .int c_q0_knocks])), (a_q0_roll, .inr (3, [.ref a_q0_roll_held, .ref a_q0_roll_before, .int c_q0_roll_size])), (a_q0_roll_held, .inl (cyJ, 12, .inr (.inl f_q0_roll_held))), (a_q2, .inr (7, [.long c_q2_n, c_q2_s]))] s.heap := hP
  have hK0 := hK
  have hl := lv_entry ([.ref a_q0, .int p1, .ref a_q2]) (n := 4) (Nat.le_of_ble_eq_true rfl)
  rw [lg_entry_eq]
  generalize (lg_sl ([.ref a_q0, .int p1, .ref a_q2]) ++ List.replicate (4 - (lg_sl ([.ref a_q0, .int p1, .ref a_q2])).length) Slot.unset).toArray = ls at hl ⊢
  have hl : lv_has ls 4 [(0, .ref a_q0), (1, .int p1), (2, .ref a_q2)] := hl
  have h := hF
  clear hF
  unfold F_L_rollText at h
  refine lv_aload_n hx hb dL_rollText_0 rfl (lv_at hl 2 rfl) ?_
  refine lv_aload_n hx hb dL_rollText_1 rfl (lv_at hl 0 rfl) ?_
  refine lv_iload_n hx hb dL_rollText_2 rfl (lv_at hl 1 rfl) ?_
  obtain ⟨xc3, hc3, h⟩ := obn_h h
  have hPc := hP.sub (ws' := [(a_q0, .inr (6, [.ref a_q0_forms, .ref a_q0_roll, .ref a_q0_row, .ref a_q0_rows, .ref a_q0_factors, .ref a_q0_found, .ref a_q0_foundOtherwise, .int c_q0_acts, .int c_q0_refusals, .int c_q0_knocks])), (a_q0_roll, .inr (3, [.ref a_q0_roll_held, .ref a_q0_roll_before, .int c_q0_roll_size])), (a_q0_roll_held, .inl (cyJ, 12, .inr (.inl f_q0_roll_held)))]) [0, 1, 2] rfl
  have hDc := hD.sub (ws' := [(a_q0, .inr (6, [.ref a_q0_forms, .ref a_q0_roll, .ref a_q0_row, .ref a_q0_rows, .ref a_q0_factors, .ref a_q0_found, .ref a_q0_foundOtherwise, .int c_q0_acts, .int c_q0_refusals, .int c_q0_knocks])), (a_q0_roll, .inr (3, [.ref a_q0_roll_held, .ref a_q0_roll_before, .int c_q0_roll_size])), (a_q0_roll_held, .inl (cyJ, 12, .inr (.inl f_q0_roll_held)))]) [0, 1, 2] (by decide) rfl
  refine hx_r (w1 := [(a_q0, .inr (6, [.ref a_q0_forms, .ref a_q0_roll, .ref a_q0_row, .ref a_q0_rows, .ref a_q0_factors, .ref a_q0_found, .ref a_q0_foundOtherwise, .int c_q0_acts, .int c_q0_refusals, .int c_q0_knocks])), (a_q0_roll, .inr (3, [.ref a_q0_roll_held, .ref a_q0_roll_before, .int c_q0_roll_size])), (a_q0_roll_held, .inl (cyJ, 12, .inr (.inl f_q0_roll_held)))]) (wr := [(a_q2, .inr (7, [.long c_q2_n, c_q2_s]))]) (vx_runV (As := [.int p1]) (rest := [.ref a_q2]) hcf (c_X7_rollText l hfl D cyJ cyB adK adV s.heap.size a_q0 a_q0_forms a_q0_roll a_q0_row a_q0_rows a_q0_factors a_q0_found a_q0_foundOtherwise a_q0_roll_held a_q0_roll_before c_q0_acts c_q0_refusals c_q0_knocks c_q0_roll_size f_q0_roll_held p1 xc3 hc3) (cwV 1 hts gL_rollText_X7_rollText rfl rfl rfl ydX7_rollText ⟨Nat.le_of_ble_eq_true rfl, Nat.le_of_ble_eq_true rfl⟩) ⟨bl_PXT, (va_recv hK hP (ci := 6) (q0 := 0) rfl rfl), pr_PXT hPc hK0 hDc hnw hE hT hS (va_free hD hS hA [0, 1, 2] rfl)⟩ rfl rfl hl.1 rfl (lv_room (Nat.le_of_ble_eq_true rfl)) dL_rollText_3 ⟨Nat.le_of_ble_eq_true rfl, Nat.le_of_ble_eq_true rfl⟩) hP hD hS hA [0, 1, 2] [3] rfl rfl (by decide) (by decide) (fun E9 ce9 q9 H locs hx9 hE9 hP hD hS hce9 hcv9 hcl9 => ?_) (fun hx9 b_ret3_3 H locs hP hD hS => ?_)
  · have h := if_ hx9 h
    have hP : va_P D vwCl [(a_q2, .inr (7, [.long c_q2_n, c_q2_s])), (a_q0, .inr (6, [.ref a_q0_forms, .ref a_q0_roll, .ref a_q0_row, .ref a_q0_rows, .ref a_q0_factors, .ref a_q0_found, .ref a_q0_foundOtherwise, .int c_q0_acts, .int c_q0_refusals, .int c_q0_knocks])), (a_q0_roll, .inr (3, [.ref a_q0_roll_held, .ref a_q0_roll_before, .int c_q0_roll_size])), (a_q0_roll_held, .inl (cyJ, 12, .inr (.inl f_q0_roll_held)))] H := hP
    have hD : va_D A [(a_q2, .inr (7, [.long c_q2_n, c_q2_s])), (a_q0, .inr (6, [.ref a_q0_forms, .ref a_q0_roll, .ref a_q0_row, .ref a_q0_rows, .ref a_q0_factors, .ref a_q0_found, .ref a_q0_foundOtherwise, .int c_q0_acts, .int c_q0_refusals, .int c_q0_knocks])), (a_q0_roll, .inr (3, [.ref a_q0_roll_held, .ref a_q0_roll_before, .int c_q0_roll_size])), (a_q0_roll_held, .inl (cyJ, 12, .inr (.inl f_q0_roll_held)))] := hD
    by_cases cx0 : xc3 = 1
    · have h := it_ cx0 h
      have hE1 : E9 = "java/lang/IndexOutOfBoundsException" := by rw [hE9, cx0]; rfl
      subst hE1
      refine vx_catch (name := "java/lang/IndexOutOfBoundsException") hown (tableOf []) ⟨0, 9, 12, 19⟩ (tableOf []) hxt (fun z hz => absurd hz List.not_mem_nil) (by decide) (by decide) (hts (.classLink RL 19 "java/lang/IndexOutOfBoundsException") (by decide +kernel)) (va_Nw.use rfl (hE.2.1 (.castable "java/lang/IndexOutOfBoundsException" "java/lang/IndexOutOfBoundsException") (by decide +kernel))) hce9 hcv9 hcl9 ?_
      refine lv_astore_n (lv' := [(3, .ref q9), (0, .ref a_q0), (1, .int p1), (2, .ref a_q2)]) hx hb dL_rollText_12 rfl hl (by decide) rfl (fun ls hl => ?_)
      refine lv_iconst (v := 1) hx hb dL_rollText_13 (by decide) ?_
      have e1 := Option.some.inj h
      subst e1
      have hP9 : va_P D vwCl [(a_q0, .inr (6, [.ref a_q0_forms, .ref a_q0_roll, .ref a_q0_row, .ref a_q0_rows, .ref a_q0_factors, .ref a_q0_found, .ref a_q0_foundOtherwise, .int c_q0_acts, .int c_q0_refusals, .int c_q0_knocks])), (a_q0_roll, .inr (3, [.ref a_q0_roll_held, .ref a_q0_roll_before, .int c_q0_roll_size])), (a_q0_roll_held, .inl (cyJ, 12, .inr (.inl f_q0_roll_held))), (a_q2, .inr (7, [.long c_q2_n, c_q2_s]))] H := hP.sub [1, 2, 3, 0] rfl
      have hD9 : va_D A [(a_q0, .inr (6, [.ref a_q0_forms, .ref a_q0_roll, .ref a_q0_row, .ref a_q0_rows, .ref a_q0_factors, .ref a_q0_found, .ref a_q0_foundOtherwise, .int c_q0_acts, .int c_q0_refusals, .int c_q0_knocks])), (a_q0_roll, .inr (3, [.ref a_q0_roll_held, .ref a_q0_roll_before, .int c_q0_roll_size])), (a_q0_roll_held, .inl (cyJ, 12, .inr (.inl f_q0_roll_held))), (a_q2, .inr (7, [.long c_q2_n, c_q2_s]))] := hD.sub [1, 2, 3, 0] (by decide) rfl
      refine vx_ret ?_
      exact W.iret hx hb hr (fun t ht hW => ⟨⟨_, c_q2_s, rfl, rfl, wQA_of ht hP9 hD9⟩, hS.F ht⟩) hS.2.2 dL_rollText_14
    have h := if_ cx0 h
    cases h
  · have h := it_ hx9 h
    have hP : va_P D vwCl [(a_q2, .inr (7, [.long c_q2_n, c_q2_s])), (a_q0, .inr (6, [.ref a_q0_forms, .ref a_q0_roll, .ref a_q0_row, .ref a_q0_rows, .ref a_q0_factors, .ref a_q0_found, .ref a_q0_foundOtherwise, .int c_q0_acts, .int c_q0_refusals, .int c_q0_knocks])), (a_q0_roll, .inr (3, [.ref a_q0_roll_held, .ref a_q0_roll_before, .int c_q0_roll_size])), (a_q0_roll_held, .inl (cyJ, 12, .inr (.inl f_q0_roll_held)))] H := hP
    have hD : va_D A [(a_q2, .inr (7, [.long c_q2_n, c_q2_s])), (a_q0, .inr (6, [.ref a_q0_forms, .ref a_q0_roll, .ref a_q0_row, .ref a_q0_rows, .ref a_q0_factors, .ref a_q0_found, .ref a_q0_foundOtherwise, .int c_q0_acts, .int c_q0_refusals, .int c_q0_knocks])), (a_q0_roll, .inr (3, [.ref a_q0_roll_held, .ref a_q0_roll_before, .int c_q0_roll_size])), (a_q0_roll_held, .inl (cyJ, 12, .inr (.inl f_q0_roll_held)))] := hD
    refine va_putN (D := D) (ci := 7) (v := .ref b_ret3_3) (ty := tyX8 1) (C := RX8) (T := TX8) (N := 2) hx hb hts hinX8 tyX8 tyX8_ok nmX8 hown hK hP hD hS 0 rfl rfl 1 (by decide) hfl124 (fun _ h9 => h9) rfl (by decide +kernel) rfl rfl (Nat.le_of_ble_eq_true rfl) dL_rollText_6 (fun H locs hP hD hS => ?_)
    have hP : va_P D vwCl [(a_q2, .inr (7, [.long c_q2_n, .ref b_ret3_3])), (a_q0, .inr (6, [.ref a_q0_forms, .ref a_q0_roll, .ref a_q0_row, .ref a_q0_rows, .ref a_q0_factors, .ref a_q0_found, .ref a_q0_foundOtherwise, .int c_q0_acts, .int c_q0_refusals, .int c_q0_knocks])), (a_q0_roll, .inr (3, [.ref a_q0_roll_held, .ref a_q0_roll_before, .int c_q0_roll_size])), (a_q0_roll_held, .inl (cyJ, 12, .inr (.inl f_q0_roll_held)))] H := hP
    have hD : va_D A [(a_q2, .inr (7, [.long c_q2_n, .ref b_ret3_3])), (a_q0, .inr (6, [.ref a_q0_forms, .ref a_q0_roll, .ref a_q0_row, .ref a_q0_rows, .ref a_q0_factors, .ref a_q0_found, .ref a_q0_foundOtherwise, .int c_q0_acts, .int c_q0_refusals, .int c_q0_knocks])), (a_q0_roll, .inr (3, [.ref a_q0_roll_held, .ref a_q0_roll_before, .int c_q0_roll_size])), (a_q0_roll_held, .inl (cyJ, 12, .inr (.inl f_q0_roll_held)))] := hD
    refine lv_goto (tgt := 15) hx hb dL_rollText_9 (by decide) ?_
    refine lv_iconst (v := 0) hx hb dL_rollText_15 (by decide) ?_
    have e1 := Option.some.inj h
    subst e1
    have hP9 : va_P D vwCl [(a_q0, .inr (6, [.ref a_q0_forms, .ref a_q0_roll, .ref a_q0_row, .ref a_q0_rows, .ref a_q0_factors, .ref a_q0_found, .ref a_q0_foundOtherwise, .int c_q0_acts, .int c_q0_refusals, .int c_q0_knocks])), (a_q0_roll, .inr (3, [.ref a_q0_roll_held, .ref a_q0_roll_before, .int c_q0_roll_size])), (a_q0_roll_held, .inl (cyJ, 12, .inr (.inl f_q0_roll_held))), (a_q2, .inr (7, [.long c_q2_n, .ref b_ret3_3]))] H := hP.sub [1, 2, 3, 0] rfl
    have hD9 : va_D A [(a_q0, .inr (6, [.ref a_q0_forms, .ref a_q0_roll, .ref a_q0_row, .ref a_q0_rows, .ref a_q0_factors, .ref a_q0_found, .ref a_q0_foundOtherwise, .int c_q0_acts, .int c_q0_refusals, .int c_q0_knocks])), (a_q0_roll, .inr (3, [.ref a_q0_roll_held, .ref a_q0_roll_before, .int c_q0_roll_size])), (a_q0_roll_held, .inl (cyJ, 12, .inr (.inl f_q0_roll_held))), (a_q2, .inr (7, [.long c_q2_n, .ref b_ret3_3]))] := hD.sub [1, 2, 3, 0] (by decide) rfl
    refine vx_ret ?_
    exact W.iret hx hb hr (fun t ht hW => ⟨⟨_, (.ref b_ret3_3), rfl, rfl, wQA_of ht hP9 hD9⟩, hS.F ht⟩) hS.2.2 dL_rollText_16
