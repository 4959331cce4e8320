noncomputable abbrev rmL_house : Room := { frames := 10, cells := 1, slots := 6, locals := 143 }
theorem ydL_house : yL_house.cls ≠ "java/lang/invoke/MethodHandle" ∧ yL_house.cls ≠ "java/lang/invoke/VarHandle" ∧ (parseMethodDescriptor yL_house.desc).map (fun d => d.parameters.length) = some 3 := by decide +kernel
noncomputable def F_L_house (c_q0_acts : Int32) (c_q0_refusals : Int32) (c_q0_knocks : Int32) (f_q0_forms : Nat → Int64) (c_q0_roll_size : Int32) (c_q0_row_taps : Int64) (c_q2_n : Int64) (p1 : Int32) : Option (Int32 × Int64) :=
 obn2 (F_X7_house c_q0_acts c_q0_refusals c_q0_knocks f_q0_forms c_q0_roll_size c_q0_row_taps p1) (fun xc3 r3 =>
 if xc3 = 0 then
 bnd r3.toInt64 (fun c_q2_n_7 =>
 some ((0 : Int32), c_q2_n_7))
else
 (if xc3 = 2 then
 some ((1 : Int32), c_q2_n)
else
 none))
set_option maxHeartbeats 4000000 in
set_option maxRecDepth 100000 in
theorem c_L_house (l : Launch) (hfl : l.stackTraces = false) (D : va_G) (cyJ : ClassId) (sz : Nat) (a_q0 : Nat) (a_q2 : Nat) (a_q0_forms : Nat) (a_q0_roll : Nat) (a_q0_row : Nat) (a_q0_rows : Nat) (a_q0_factors : Nat) (a_q0_found : Nat) (a_q0_foundOtherwise : Nat) (a_q0_roll_held : Nat) (a_q0_roll_before : Nat) (c_q0_acts : Int32) (c_q0_refusals : Int32) (c_q0_knocks : Int32) (f_q0_forms : Nat → Int64) (c_q0_roll_size : Int32) (c_q0_row_taps : Int64) (c_q0_row_cells : Int64) (c_q2_n : Int64) (c_q2_s : Value) (p1 : Int32) (r0 : Int32) (o_c_q2_n : Int64) (hF : F_L_house c_q0_acts c_q0_refusals c_q0_knocks f_q0_forms c_q0_roll_size c_q0_row_taps c_q2_n p1 = some (r0, o_c_q2_n)) : vx_Met l yL_house wsL_house rmL_house (va_Pc [.ref a_q0, .int p1, .ref a_q2] (wPL D [(cyJ, .long)] [(a_q0, .inr (6, [.ref a_q0_forms, .ref a_q0_roll, .ref a_q0_row, .ref a_q0_rows, .ref a_q0_factors, .ref a_q0_found, .ref a_q0_foundOtherwise, .int c_q0_acts, .int c_q0_refusals, .int c_q0_knocks])), (a_q0_forms, .inl (cyJ, 6, .inr (.inl f_q0_forms))), (a_q0_roll, .inr (3, [.ref a_q0_roll_held, .ref a_q0_roll_before, .int c_q0_roll_size])), (a_q0_row, .inr (5, [.long c_q0_row_taps, .long c_q0_row_cells])), (a_q2, .inr (7, [.long c_q2_n, c_q2_s]))] sz)) (va_Qi (fun (r : Int32) (_ : Unit) => r = r0) (fun _ t => wQA D [(a_q0, .inr (6, [.ref a_q0_forms, .ref a_q0_roll, .ref a_q0_row, .ref a_q0_rows, .ref a_q0_factors, .ref a_q0_found, .ref a_q0_foundOtherwise, .int c_q0_acts, .int c_q0_refusals, .int c_q0_knocks])), (a_q0_forms, .inl (cyJ, 6, .inr (.inl f_q0_forms))), (a_q0_roll, .inr (3, [.ref a_q0_roll_held, .ref a_q0_roll_before, .int c_q0_roll_size])), (a_q0_row, .inr (5, [.long c_q0_row_taps, .long c_q0_row_cells])), (a_q2, .inr (7, [.long o_c_q2_n, c_q2_s]))] (va_A [(a_q0, .inr (6, [.ref a_q0_forms, .ref a_q0_roll, .ref a_q0_row, .ref a_q0_rows, .ref a_q0_factors, .ref a_q0_found, .ref a_q0_foundOtherwise, .int c_q0_acts, .int c_q0_refusals, .int c_q0_knocks])), (a_q0_forms, .inl (cyJ, 6, .inr (.inl f_q0_forms))), (a_q0_roll, .inr (3, [.ref a_q0_roll_held, .ref a_q0_roll_before, .int c_q0_roll_size])), (a_q0_row, .inr (5, [.long c_q0_row_taps, .long c_q0_row_cells])), (a_q2, .inr (7, [.long c_q2_n, c_q2_s]))] sz) t) (va_A [(a_q0, .inr (6, [.ref a_q0_forms, .ref a_q0_roll, .ref a_q0_row, .ref a_q0_rows, .ref a_q0_factors, .ref a_q0_found, .ref a_q0_foundOtherwise, .int c_q0_acts, .int c_q0_refusals, .int c_q0_knocks])), (a_q0_forms, .inl (cyJ, 6, .inr (.inl f_q0_forms))), (a_q0_roll, .inr (3, [.ref a_q0_roll_held, .ref a_q0_roll_before, .int c_q0_roll_size])), (a_q0_row, .inr (5, [.long c_q0_row_taps, .long c_q0_row_cells])), (a_q2, .inr (7, [.long c_q2_n, c_q2_s]))] sz)) (fun _ _ _ => False) 1 6 (va_A [(a_q0, .inr (6, [.ref a_q0_forms, .ref a_q0_roll, .ref a_q0_row, .ref a_q0_rows, .ref a_q0_factors, .ref a_q0_found, .ref a_q0_foundOtherwise, .int c_q0_acts, .int c_q0_refusals, .int c_q0_knocks])), (a_q0_forms, .inl (cyJ, 6, .inr (.inl f_q0_forms))), (a_q0_roll, .inr (3, [.ref a_q0_roll_held, .ref a_q0_roll_before, .int c_q0_roll_size])), (a_q0_row, .inr (5, [.long c_q0_row_taps, .long c_q0_row_cells])), (a_q2, .inr (7, [.long c_q2_n, c_q2_s]))] sz) := by
  refine vx_ofWH (cc := cL_house) (maxL := 4) (ret := (some .int)) (hh := [(0, 10, 13, 21)]) (by decide) rfl ?_
  intro p e s m args below meth c s₁ B hml hv
  obtain ⟨rfl, ⟨⟨hsz, hP, hK, hD0, hnw⟩, hE⟩, hNc⟩ := hv
  have hx := B.exec
  have hb := B.bytes
  have hr := B.returns
  have hts := atoms_spec (ws := wsL_house) B.pre
  have hown : s.vm.findClass RL = some m.cls := findClass_of_methodNamed B.named
  have hlocks := B.notSynchronized
  have hcf : CallFix _ _ _ _ _ _ _ _ _ := ⟨hx, hb, hml, hown, hts⟩
  have hxt : c.exceptionTable.toList = tableOf [(0, 10, 13, 21)] := vx_table (x := yL_house) B (hts _ List.mem_cons_self)
  have hinX8 : ∀ w ∈ u_ws RX8 TX8 2, w ∈ wsL_house := by decide +kernel
  have hfl13 := hnw.use (A := ([.ref a_q0, .int p1, .ref a_q2] : List Value).toArray) (w := .fieldLinkNest RL 13 "FormwheelLaw$Out" "n" "J" "FormwheelLaw") (by decide +kernel)
  subst hsz
  have hD := hD0.self (sz := s.heap.size)
  generalize hAe : va_A [(a_q0, .inr (6, [.ref a_q0_forms, .ref a_q0_roll, .ref a_q0_row, .ref a_q0_rows, .ref a_q0_factors, .ref a_q0_found, .ref a_q0_foundOtherwise, .int c_q0_acts, .int c_q0_refusals, .int c_q0_knocks])), (a_q0_forms, .inl (cyJ, 6, .inr (.inl f_q0_forms))), (a_q0_roll, .inr (3, [.ref a_q0_roll_held, .ref a_q0_roll_before, .int c_q0_roll_size])), (a_q0_row, .inr (5, [.long c_q0_row_taps, .long c_q0_row_cells])), (a_q2, .inr (7, [.long c_q2_n, c_q2_s]))] s.heap.size = A at hD hE ⊢
  have hA : ∀ q : Nat, s.heap.size ≤ q → A q := fun q h => by rw [← hAe]; exact Or.inr h
  have hS : va_S A s.heap s.heap [] := va_S.rf
  have hP : va_P D vwCl [(a_q0, .inr (6, [.ref a_q0_forms, .ref a_q0_roll, .ref a_q0_row, .ref a_q0_rows, .ref a_q0_factors, .ref a_q0_found, .ref a_q0_foundOtherwise, .int c_q0_acts, .int c_q0_refusals, .int c_q0_knocks])), (a_q0_forms, .inl (cyJ, 6, .inr (.inl f_q0_forms))), (a_q0_roll, .inr (3, [.ref a_q0_roll_held, .ref a_q0_roll_before, .int c_q0_roll_size])), (a_q0_row, .inr (5, [.long c_q0_row_taps, .long c_q0_row_cells])), (a_q2, .inr (7, [.long c_q2_n, c_q2_s]))] s.heap := hP
  have hK0 := hK
  have hl := lv_entry ([.ref a_q0, .int p1, .ref a_q2]) (n := 4) (Nat.le_of_ble_eq_true rfl)
  rw [lg_entry_eq]
  generalize (lg_sl ([.ref a_q0, .int p1, .ref a_q2]) ++ List.replicate (4 - (lg_sl ([.ref a_q0, .int p1, .ref a_q2])).length) Slot.unset).toArray = ls at hl ⊢
  have hl : lv_has ls 4 [(0, .ref a_q0), (1, .int p1), (2, .ref a_q2)] := hl
  have h := hF
  clear hF
  unfold F_L_house at h
  refine lv_aload_n hx hb dL_house_0 rfl (lv_at hl 2 rfl) ?_
  refine lv_aload_n hx hb dL_house_1 rfl (lv_at hl 0 rfl) ?_
  refine lv_iload_n hx hb dL_house_2 rfl (lv_at hl 1 rfl) ?_
  obtain ⟨xc3, r3, hc3, h⟩ := obn2_h h
  have hPc := hP.sub (ws' := [(a_q0, .inr (6, [.ref a_q0_forms, .ref a_q0_roll, .ref a_q0_row, .ref a_q0_rows, .ref a_q0_factors, .ref a_q0_found, .ref a_q0_foundOtherwise, .int c_q0_acts, .int c_q0_refusals, .int c_q0_knocks])), (a_q0_forms, .inl (cyJ, 6, .inr (.inl f_q0_forms))), (a_q0_roll, .inr (3, [.ref a_q0_roll_held, .ref a_q0_roll_before, .int c_q0_roll_size])), (a_q0_row, .inr (5, [.long c_q0_row_taps, .long c_q0_row_cells]))]) [0, 1, 2, 3] rfl
  have hDc := hD.sub (ws' := [(a_q0, .inr (6, [.ref a_q0_forms, .ref a_q0_roll, .ref a_q0_row, .ref a_q0_rows, .ref a_q0_factors, .ref a_q0_found, .ref a_q0_foundOtherwise, .int c_q0_acts, .int c_q0_refusals, .int c_q0_knocks])), (a_q0_forms, .inl (cyJ, 6, .inr (.inl f_q0_forms))), (a_q0_roll, .inr (3, [.ref a_q0_roll_held, .ref a_q0_roll_before, .int c_q0_roll_size])), (a_q0_row, .inr (5, [.long c_q0_row_taps, .long c_q0_row_cells]))]) [0, 1, 2, 3] (by decide) rfl
  refine hx_i (w1 := [(a_q0, .inr (6, [.ref a_q0_forms, .ref a_q0_roll, .ref a_q0_row, .ref a_q0_rows, .ref a_q0_factors, .ref a_q0_found, .ref a_q0_foundOtherwise, .int c_q0_acts, .int c_q0_refusals, .int c_q0_knocks])), (a_q0_forms, .inl (cyJ, 6, .inr (.inl f_q0_forms))), (a_q0_roll, .inr (3, [.ref a_q0_roll_held, .ref a_q0_roll_before, .int c_q0_roll_size])), (a_q0_row, .inr (5, [.long c_q0_row_taps, .long c_q0_row_cells]))]) (wr := [(a_q2, .inr (7, [.long c_q2_n, c_q2_s]))]) (vx_runV (As := [.int p1]) (rest := [.ref a_q2]) hcf (c_X7_house l hfl D cyJ s.heap.size a_q0 a_q0_forms a_q0_roll a_q0_row a_q0_rows a_q0_factors a_q0_found a_q0_foundOtherwise a_q0_roll_held a_q0_roll_before c_q0_acts c_q0_refusals c_q0_knocks f_q0_forms c_q0_roll_size c_q0_row_taps c_q0_row_cells p1 xc3 r3 hc3) (cwV 1 hts gL_house_X7_house rfl rfl rfl ydX7_house ⟨Nat.le_of_ble_eq_true rfl, Nat.le_of_ble_eq_true rfl⟩) ⟨bl_PX, va_recv hK hP (ci := 6) (q0 := 0) rfl rfl, pr_PX hPc hK0 hDc hnw hE hS (va_free hD hS hA [0, 1, 2, 3] rfl)⟩ rfl rfl hl.1 rfl (lv_room (Nat.le_of_ble_eq_true rfl)) dL_house_3 ⟨Nat.le_of_ble_eq_true rfl, Nat.le_of_ble_eq_true rfl⟩) hP hD hS hA [0, 1, 2, 3] [4] rfl rfl (by decide) (by decide) (fun E9 ce9 q9 H locs hx9 hE9 hP hD hS hce9 hcv9 hcl9 => ?_) (fun hx9 H locs hP hD hS => ?_)
  · have h := if_ hx9 h
    have hP : va_P D vwCl [(a_q2, .inr (7, [.long c_q2_n, c_q2_s])), (a_q0, .inr (6, [.ref a_q0_forms, .ref a_q0_roll, .ref a_q0_row, .ref a_q0_rows, .ref a_q0_factors, .ref a_q0_found, .ref a_q0_foundOtherwise, .int c_q0_acts, .int c_q0_refusals, .int c_q0_knocks])), (a_q0_forms, .inl (cyJ, 6, .inr (.inl f_q0_forms))), (a_q0_roll, .inr (3, [.ref a_q0_roll_held, .ref a_q0_roll_before, .int c_q0_roll_size])), (a_q0_row, .inr (5, [.long c_q0_row_taps, .long c_q0_row_cells]))] H := hP
    have hD : va_D A [(a_q2, .inr (7, [.long c_q2_n, c_q2_s])), (a_q0, .inr (6, [.ref a_q0_forms, .ref a_q0_roll, .ref a_q0_row, .ref a_q0_rows, .ref a_q0_factors, .ref a_q0_found, .ref a_q0_foundOtherwise, .int c_q0_acts, .int c_q0_refusals, .int c_q0_knocks])), (a_q0_forms, .inl (cyJ, 6, .inr (.inl f_q0_forms))), (a_q0_roll, .inr (3, [.ref a_q0_roll_held, .ref a_q0_roll_before, .int c_q0_roll_size])), (a_q0_row, .inr (5, [.long c_q0_row_taps, .long c_q0_row_cells]))] := hD
    by_cases cx0 : xc3 = 2
    · have h := it_ cx0 h
      have hE1 : E9 = "java/lang/IllegalArgumentException" := by rw [hE9, cx0]; rfl
      subst hE1
      refine vx_catch (name := "java/lang/IllegalArgumentException") hown (tableOf []) ⟨0, 10, 13, 21⟩ (tableOf []) hxt (fun z hz => absurd hz List.not_mem_nil) (by decide) (by decide) (hts (.classLink RL 21 "java/lang/IllegalArgumentException") (by decide +kernel)) (va_Nw.use rfl (hE.2.1 (.castable "java/lang/IllegalArgumentException" "java/lang/IllegalArgumentException") (by decide +kernel))) hce9 hcv9 hcl9 ?_
      refine lv_astore_n (lv' := [(3, .ref q9), (0, .ref a_q0), (1, .int p1), (2, .ref a_q2)]) hx hb dL_house_13 rfl hl (by decide) rfl (fun ls hl => ?_)
      refine lv_iconst (v := 1) hx hb dL_house_14 (by decide) ?_
      obtain ⟨e0, e1⟩ := tup2 h
      subst e0
      subst e1
      have hP9 : va_P D vwCl [(a_q0, .inr (6, [.ref a_q0_forms, .ref a_q0_roll, .ref a_q0_row, .ref a_q0_rows, .ref a_q0_factors, .ref a_q0_found, .ref a_q0_foundOtherwise, .int c_q0_acts, .int c_q0_refusals, .int c_q0_knocks])), (a_q0_forms, .inl (cyJ, 6, .inr (.inl f_q0_forms))), (a_q0_roll, .inr (3, [.ref a_q0_roll_held, .ref a_q0_roll_before, .int c_q0_roll_size])), (a_q0_row, .inr (5, [.long c_q0_row_taps, .long c_q0_row_cells])), (a_q2, .inr (7, [.long c_q2_n, c_q2_s]))] H := hP.sub [1, 2, 3, 4, 0] rfl
      have hD9 : va_D A [(a_q0, .inr (6, [.ref a_q0_forms, .ref a_q0_roll, .ref a_q0_row, .ref a_q0_rows, .ref a_q0_factors, .ref a_q0_found, .ref a_q0_foundOtherwise, .int c_q0_acts, .int c_q0_refusals, .int c_q0_knocks])), (a_q0_forms, .inl (cyJ, 6, .inr (.inl f_q0_forms))), (a_q0_roll, .inr (3, [.ref a_q0_roll_held, .ref a_q0_roll_before, .int c_q0_roll_size])), (a_q0_row, .inr (5, [.long c_q0_row_taps, .long c_q0_row_cells])), (a_q2, .inr (7, [.long c_q2_n, c_q2_s]))] := hD.sub [1, 2, 3, 4, 0] (by decide) rfl
      refine vx_ret ?_
      exact W.iret hx hb hr (fun t ht hW => ⟨⟨_, (), rfl, rfl, wQA_of ht hP9 hD9⟩, hS.F ht⟩) hS.2.2 dL_house_15
    have h := if_ cx0 h
    cases h
  · have h := it_ hx9 h
    have hP : va_P D vwCl [(a_q2, .inr (7, [.long c_q2_n, c_q2_s])), (a_q0, .inr (6, [.ref a_q0_forms, .ref a_q0_roll, .ref a_q0_row, .ref a_q0_rows, .ref a_q0_factors, .ref a_q0_found, .ref a_q0_foundOtherwise, .int c_q0_acts, .int c_q0_refusals, .int c_q0_knocks])), (a_q0_forms, .inl (cyJ, 6, .inr (.inl f_q0_forms))), (a_q0_roll, .inr (3, [.ref a_q0_roll_held, .ref a_q0_roll_before, .int c_q0_roll_size])), (a_q0_row, .inr (5, [.long c_q0_row_taps, .long c_q0_row_cells]))] H := hP
    have hD : va_D A [(a_q2, .inr (7, [.long c_q2_n, c_q2_s])), (a_q0, .inr (6, [.ref a_q0_forms, .ref a_q0_roll, .ref a_q0_row, .ref a_q0_rows, .ref a_q0_factors, .ref a_q0_found, .ref a_q0_foundOtherwise, .int c_q0_acts, .int c_q0_refusals, .int c_q0_knocks])), (a_q0_forms, .inl (cyJ, 6, .inr (.inl f_q0_forms))), (a_q0_roll, .inr (3, [.ref a_q0_roll_held, .ref a_q0_roll_before, .int c_q0_roll_size])), (a_q0_row, .inr (5, [.long c_q0_row_taps, .long c_q0_row_cells]))] := hD
    refine lv_i2l (v := r3.toInt64) hx hb dL_house_6 rfl ?_
    refine lv_topl (fun c_q2_n_7 e_c_q2_n_7 => ?_)
    have h := bnd_h e_c_q2_n_7 h
    refine va_putN (D := D) (ci := 7) (v := .long c_q2_n_7) (ty := .long) (C := RX8) (T := TX8) (N := 2) hx hb hts hinX8 tyX8 tyX8_ok nmX8 hown hK hP hD hS 0 rfl rfl 0 (by decide) hfl13 (fun _ h9 => h9) rfl (by decide +kernel) rfl rfl (Nat.le_of_ble_eq_true rfl) dL_house_7 (fun H locs hP hD hS => ?_)
    have hP : va_P D vwCl [(a_q2, .inr (7, [.long c_q2_n_7, c_q2_s])), (a_q0, .inr (6, [.ref a_q0_forms, .ref a_q0_roll, .ref a_q0_row, .ref a_q0_rows, .ref a_q0_factors, .ref a_q0_found, .ref a_q0_foundOtherwise, .int c_q0_acts, .int c_q0_refusals, .int c_q0_knocks])), (a_q0_forms, .inl (cyJ, 6, .inr (.inl f_q0_forms))), (a_q0_roll, .inr (3, [.ref a_q0_roll_held, .ref a_q0_roll_before, .int c_q0_roll_size])), (a_q0_row, .inr (5, [.long c_q0_row_taps, .long c_q0_row_cells]))] H := hP
    have hD : va_D A [(a_q2, .inr (7, [.long c_q2_n_7, c_q2_s])), (a_q0, .inr (6, [.ref a_q0_forms, .ref a_q0_roll, .ref a_q0_row, .ref a_q0_rows, .ref a_q0_factors, .ref a_q0_found, .ref a_q0_foundOtherwise, .int c_q0_acts, .int c_q0_refusals, .int c_q0_knocks])), (a_q0_forms, .inl (cyJ, 6, .inr (.inl f_q0_forms))), (a_q0_roll, .inr (3, [.ref a_q0_roll_held, .ref a_q0_roll_before, .int c_q0_roll_size])), (a_q0_row, .inr (5, [.long c_q0_row_taps, .long c_q0_row_cells]))] := hD
    refine lv_goto (tgt := 16) hx hb dL_house_10 (by decide) ?_
    refine lv_iconst (v := 0) hx hb dL_house_16 (by decide) ?_
    obtain ⟨e0, e1⟩ := tup2 h
    subst e0
    subst e1
    have hP9 : va_P D vwCl [(a_q0, .inr (6, [.ref a_q0_forms, .ref a_q0_roll, .ref a_q0_row, .ref a_q0_rows, .ref a_q0_factors, .ref a_q0_found, .ref a_q0_foundOtherwise, .int c_q0_acts, .int c_q0_refusals, .int c_q0_knocks])), (a_q0_forms, .inl (cyJ, 6, .inr (.inl f_q0_forms))), (a_q0_roll, .inr (3, [.ref a_q0_roll_held, .ref a_q0_roll_before, .int c_q0_roll_size])), (a_q0_row, .inr (5, [.long c_q0_row_taps, .long c_q0_row_cells])), (a_q2, .inr (7, [.long c_q2_n_7, c_q2_s]))] H := hP.sub [1, 2, 3, 4, 0] rfl
    have hD9 : va_D A [(a_q0, .inr (6, [.ref a_q0_forms, .ref a_q0_roll, .ref a_q0_row, .ref a_q0_rows, .ref a_q0_factors, .ref a_q0_found, .ref a_q0_foundOtherwise, .int c_q0_acts, .int c_q0_refusals, .int c_q0_knocks])), (a_q0_forms, .inl (cyJ, 6, .inr (.inl f_q0_forms))), (a_q0_roll, .inr (3, [.ref a_q0_roll_held, .ref a_q0_roll_before, .int c_q0_roll_size])), (a_q0_row, .inr (5, [.long c_q0_row_taps, .long c_q0_row_cells])), (a_q2, .inr (7, [.long c_q2_n_7, c_q2_s]))] := hD.sub [1, 2, 3, 4, 0] (by decide) rfl
    refine vx_ret ?_
    exact W.iret hx hb hr (fun t ht hW => ⟨⟨_, (), rfl, rfl, wQA_of ht hP9 hD9⟩, hS.F ht⟩) hS.2.2 dL_house_17
