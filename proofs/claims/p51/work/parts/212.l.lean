noncomputable abbrev rmL_enroll : Room := { frames := 10, cells := 1, slots := 6, locals := 141 }
theorem ydL_enroll : yL_enroll.cls ≠ "java/lang/invoke/MethodHandle" ∧ yL_enroll.cls ≠ "java/lang/invoke/VarHandle" ∧ (parseMethodDescriptor yL_enroll.desc).map (fun d => d.parameters.length) = some 3 := by decide +kernel
noncomputable def F_L_enroll (c_q0_acts : Int32) (c_q0_refusals : Int32) (f_q0_forms : Nat → Int64) (c_q0_roll_size : Int32) (f_q0_roll_held : Nat → Int64) (c_q2_n : Int64) (p1 : Int32) : Option (Int32 × Int32 × Int32 × Int32 × (Nat → Int64) × Int64) :=
 obn6 (F_X7_enroll c_q0_acts c_q0_refusals f_q0_forms c_q0_roll_size f_q0_roll_held p1) (fun xc3 r3 c_q0_acts_3 c_q0_refusals_3 c_q0_roll_size_3 f_q0_roll_held_3 =>
 if xc3 = 0 then
 bnd r3.toInt64 (fun c_q2_n_7 =>
 some ((0 : Int32), c_q0_acts_3, c_q0_refusals_3, c_q0_roll_size_3, f_q0_roll_held_3, c_q2_n_7))
else
 (if xc3 = 1 then
 some ((1 : Int32), c_q0_acts_3, c_q0_refusals_3, c_q0_roll_size_3, f_q0_roll_held_3, c_q2_n)
else
 none))
set_option maxHeartbeats 4000000 in
set_option maxRecDepth 100000 in
theorem c_L_enroll (l : Launch) (hfl : l.stackTraces = false) (D : va_G) (cyJ : ClassId) (sz : Nat) (a_q0 : Nat) (a_q2 : Nat) (a_q0_forms : Nat) (a_q0_roll : Nat) (a_q0_row : Nat) (a_q0_rows : Nat) (a_q0_factors : Nat) (a_q0_found : Nat) (a_q0_foundOtherwise : Nat) (a_q0_roll_held : Nat) (a_q0_roll_before : Nat) (c_q0_acts : Int32) (c_q0_refusals : Int32) (c_q0_knocks : Int32) (f_q0_forms : Nat → Int64) (c_q0_roll_size : Int32) (f_q0_roll_held : Nat → Int64) (c_q2_n : Int64) (c_q2_s : Value) (p1 : Int32) (r0 : Int32) (o_c_q0_acts : Int32) (o_c_q0_refusals : Int32) (o_c_q0_roll_size : Int32) (o_f_q0_roll_held : Nat → Int64) (o_c_q2_n : Int64) (hF : F_L_enroll c_q0_acts c_q0_refusals f_q0_forms c_q0_roll_size f_q0_roll_held c_q2_n p1 = some (r0, o_c_q0_acts, o_c_q0_refusals, o_c_q0_roll_size, o_f_q0_roll_held, o_c_q2_n)) : vx_Met l yL_enroll wsL_enroll rmL_enroll (va_Pc [.ref a_q0, .int p1, .ref a_q2] (wPL D [(cyJ, .long)] [(a_q0, .inr (6, [.ref a_q0_forms, .ref a_q0_roll, .ref a_q0_row, .ref a_q0_rows, .ref a_q0_factors, .ref a_q0_found, .ref a_q0_foundOtherwise, .int c_q0_acts, .int c_q0_refusals, .int c_q0_knocks])), (a_q0_forms, .inl (cyJ, 6, .inr (.inl f_q0_forms))), (a_q0_roll, .inr (3, [.ref a_q0_roll_held, .ref a_q0_roll_before, .int c_q0_roll_size])), (a_q0_roll_held, .inl (cyJ, 12, .inr (.inl f_q0_roll_held))), (a_q2, .inr (7, [.long c_q2_n, c_q2_s]))] sz)) (va_Qi (fun (r : Int32) (_ : Unit) => r = r0) (fun _ t => wQA D [(a_q0, .inr (6, [.ref a_q0_forms, .ref a_q0_roll, .ref a_q0_row, .ref a_q0_rows, .ref a_q0_factors, .ref a_q0_found, .ref a_q0_foundOtherwise, .int o_c_q0_acts, .int o_c_q0_refusals, .int c_q0_knocks])), (a_q0_forms, .inl (cyJ, 6, .inr (.inl f_q0_forms))), (a_q0_roll, .inr (3, [.ref a_q0_roll_held, .ref a_q0_roll_before, .int o_c_q0_roll_size])), (a_q0_roll_held, .inl (cyJ, 12, .inr (.inl o_f_q0_roll_held))), (a_q2, .inr (7, [.long o_c_q2_n, c_q2_s]))] (va_A [(a_q0, .inr (6, [.ref a_q0_forms, .ref a_q0_roll, .ref a_q0_row, .ref a_q0_rows, .ref a_q0_factors, .ref a_q0_found, .ref a_q0_foundOtherwise, .int c_q0_acts, .int c_q0_refusals, .int c_q0_knocks])), (a_q0_forms, .inl (cyJ, 6, .inr (.inl f_q0_forms))), (a_q0_roll, .inr (3, [.ref a_q0_roll_held, .ref a_q0_roll_before, .int c_q0_roll_size])), (a_q0_roll_held, .inl (cyJ, 12, .inr (.inl f_q0_roll_held))), (a_q2, .inr (7, [.long c_q2_n, c_q2_s]))] sz) t) (va_A [(a_q0, .inr (6, [.ref a_q0_forms, .ref a_q0_roll, .ref a_q0_row, .ref a_q0_rows, .ref a_q0_factors, .ref a_q0_found, .ref a_q0_foundOtherwise, .int c_q0_acts, .int c_q0_refusals, .int c_q0_knocks])), (a_q0_forms, .inl (cyJ, 6, .inr (.inl f_q0_forms))), (a_q0_roll, .inr (3, [.ref a_q0_roll_held, .ref a_q0_roll_before, .int c_q0_roll_size])), (a_q0_roll_held, .inl (cyJ, 12, .inr (.inl f_q0_roll_held))), (a_q2, .inr (7, [.long c_q2_n, c_q2_s]))] sz)) (fun _ _ _ => False) 1 6 (va_A [(a_q0, .inr (6, [.ref a_q0_forms, .ref a_q0_roll, .ref a_q0_row, .ref a_q0_rows, .ref a_q0_factors, .ref a_q0_found, .ref a_q0_foundOtherwise, .int c_q0_acts, .int c_q0_refusals, .int c_q0_knocks])), (a_q0_forms, .inl (cyJ, 6, .inr (.inl f_q0_forms))), (a_q0_roll, .inr (3, [.ref a_q0_roll_held, .ref a_q0_roll_before, .int c_q0_roll_size])), (a_q0_roll_held, .inl (cyJ, 12, .inr (.inl f_q0_roll_held))), (a_q2, .inr (7, [.long c_q2_n, c_q2_s]))] sz) := by
  refine vx_ofWH (cc := cL_enroll) (maxL := 4) (ret := (some .int)) (hh := [(0, 10, 13, 19)]) (by decide) rfl ?_
  intro p e s m args below meth c s₁ B hml hv
  obtain ⟨rfl, ⟨⟨hsz, hP, hK, hD0, hnw⟩, hE⟩, hNc⟩ := hv
  have hx := B.exec
  have hb := B.bytes
  have hr := B.returns
  have hts := atoms_spec (ws := wsL_enroll) B.pre
  have hown : s.vm.findClass RL = some m.cls := findClass_of_methodNamed B.named
  have hlocks := B.notSynchronized
  have hcf : CallFix _ _ _ _ _ _ _ _ _ := ⟨hx, hb, hml, hown, hts⟩
  have hxt : c.exceptionTable.toList = tableOf [(0, 10, 13, 19)] := vx_table (x := yL_enroll) B (hts _ List.mem_cons_self)
  have hinX8 : ∀ w ∈ u_ws RX8 TX8 2, w ∈ wsL_enroll := by decide +kernel
  have hfl13 := hnw.use (A := ([.ref a_q0, .int p1, .ref a_q2] : List Value).toArray) (w := .fieldLinkNest RL 13 "FormwheelLaw$Out" "n" "J" "FormwheelLaw") (by decide +kernel)
  subst hsz
  have hD := hD0.self (sz := s.heap.size)
  generalize hAe : va_A [(a_q0, .inr (6, [.ref a_q0_forms, .ref a_q0_roll, .ref a_q0_row, .ref a_q0_rows, .ref a_q0_factors, .ref a_q0_found, .ref a_q0_foundOtherwise, .int c_q0_acts, .int c_q0_refusals, .int c_q0_knocks])), (a_q0_forms, .inl (cyJ, 6, .inr (.inl f_q0_forms))), (a_q0_roll, .inr (3, [.ref a_q0_roll_held, .ref a_q0_roll_before, .int c_q0_roll_size])), (a_q0_roll_held, .inl (cyJ, 12, .inr (.inl f_q0_roll_held))), (a_q2, .inr (7, [.long c_q2_n, c_q2_s]))] s.heap.size = A at hD hE ⊢
  have hA : ∀ q : Nat, s.heap.size ≤ q → A q := fun q h => by rw [← hAe]; exact Or.inr h
  have hS : va_S A s.heap s.heap [] := va_S.rf
  have hP : va_P D vwCl [(a_q0, .inr (6, [.ref a_q0_forms, .ref a_q0_roll, .ref a_q0_row, .ref a_q0_rows, .ref a_q0_factors, .ref a_q0_found, .ref a_q0_foundOtherwise, .int c_q0_acts, .int c_q0_refusals, .int c_q0_knocks])), (a_q0_forms, .inl (cyJ, 6, .inr (.inl f_q0_forms))), (a_q0_roll, .inr (3, [.ref a_q0_roll_held, .ref a_q0_roll_before, .int c_q0_roll_size])), (a_q0_roll_held, .inl (cyJ, 12, .inr (.inl f_q0_roll_held))), (a_q2, .inr (7, [.long c_q2_n, c_q2_s]))] s.heap := hP
  have hK0 := hK
  have hl := lv_entry ([.ref a_q0, .int p1, .ref a_q2]) (n := 4) (Nat.le_of_ble_eq_true rfl)
  rw [lg_entry_eq]
  generalize (lg_sl ([.ref a_q0, .int p1, .ref a_q2]) ++ List.replicate (4 - (lg_sl ([.ref a_q0, .int p1, .ref a_q2])).length) Slot.unset).toArray = ls at hl ⊢
  have hl : lv_has ls 4 [(0, .ref a_q0), (1, .int p1), (2, .ref a_q2)] := hl
  have h := hF
  clear hF
  unfold F_L_enroll at h
  refine lv_aload_n hx hb dL_enroll_0 rfl (lv_at hl 2 rfl) ?_
  refine lv_aload_n hx hb dL_enroll_1 rfl (lv_at hl 0 rfl) ?_
  refine lv_iload_n hx hb dL_enroll_2 rfl (lv_at hl 1 rfl) ?_
  obtain ⟨xc3, r3, c_q0_acts_3, c_q0_refusals_3, c_q0_roll_size_3, f_q0_roll_held_3, hc3, h⟩ := obn6_h h
  have hPc := hP.sub (ws' := [(a_q0, .inr (6, [.ref a_q0_forms, .ref a_q0_roll, .ref a_q0_row, .ref a_q0_rows, .ref a_q0_factors, .ref a_q0_found, .ref a_q0_foundOtherwise, .int c_q0_acts, .int c_q0_refusals, .int c_q0_knocks])), (a_q0_forms, .inl (cyJ, 6, .inr (.inl f_q0_forms))), (a_q0_roll, .inr (3, [.ref a_q0_roll_held, .ref a_q0_roll_before, .int c_q0_roll_size])), (a_q0_roll_held, .inl (cyJ, 12, .inr (.inl f_q0_roll_held)))]) [0, 1, 2, 3] rfl
  have hDc := hD.sub (ws' := [(a_q0, .inr (6, [.ref a_q0_forms, .ref a_q0_roll, .ref a_q0_row, .ref a_q0_rows, .ref a_q0_factors, .ref a_q0_found, .ref a_q0_foundOtherwise, .int c_q0_acts, .int c_q0_refusals, .int c_q0_knocks])), (a_q0_forms, .inl (cyJ, 6, .inr (.inl f_q0_forms))), (a_q0_roll, .inr (3, [.ref a_q0_roll_held, .ref a_q0_roll_before, .int c_q0_roll_size])), (a_q0_roll_held, .inl (cyJ, 12, .inr (.inl f_q0_roll_held)))]) [0, 1, 2, 3] (by decide) rfl
  refine hx_i (w1 := [(a_q0, .inr (6, [.ref a_q0_forms, .ref a_q0_roll, .ref a_q0_row, .ref a_q0_rows, .ref a_q0_factors, .ref a_q0_found, .ref a_q0_foundOtherwise, .int c_q0_acts_3, .int c_q0_refusals_3, .int c_q0_knocks])), (a_q0_forms, .inl (cyJ, 6, .inr (.inl f_q0_forms))), (a_q0_roll, .inr (3, [.ref a_q0_roll_held, .ref a_q0_roll_before, .int c_q0_roll_size_3])), (a_q0_roll_held, .inl (cyJ, 12, .inr (.inl f_q0_roll_held_3)))]) (wr := [(a_q2, .inr (7, [.long c_q2_n, c_q2_s]))]) (vx_runV (As := [.int p1]) (rest := [.ref a_q2]) hcf (c_X7_enroll l hfl D cyJ s.heap.size a_q0 a_q0_forms a_q0_roll a_q0_row a_q0_rows a_q0_factors a_q0_found a_q0_foundOtherwise a_q0_roll_held a_q0_roll_before c_q0_acts c_q0_refusals c_q0_knocks f_q0_forms c_q0_roll_size f_q0_roll_held p1 xc3 r3 c_q0_acts_3 c_q0_refusals_3 c_q0_roll_size_3 f_q0_roll_held_3 hc3) (cwV 1 hts gL_enroll_X7_enroll rfl rfl rfl ydX7_enroll ⟨Nat.le_of_ble_eq_true rfl, Nat.le_of_ble_eq_true rfl⟩) ⟨bl_PX, va_recv hK hP (ci := 6) (q0 := 0) rfl rfl, pr_PX hPc hK0 hDc hnw hE hS (va_free hD hS hA [0, 1, 2, 3] rfl)⟩ rfl rfl hl.1 rfl (lv_room (Nat.le_of_ble_eq_true rfl)) dL_enroll_3 ⟨Nat.le_of_ble_eq_true rfl, Nat.le_of_ble_eq_true rfl⟩) hP hD hS hA [0, 1, 2, 3] [4] rfl rfl (by decide) (by decide) (fun E9 ce9 q9 H locs hx9 hE9 hP hD hS hce9 hcv9 hcl9 => ?_) (fun hx9 H locs hP hD hS => ?_)
  · have h := if_ hx9 h
    have hP : va_P D vwCl [(a_q2, .inr (7, [.long c_q2_n, c_q2_s])), (a_q0, .inr (6, [.ref a_q0_forms, .ref a_q0_roll, .ref a_q0_row, .ref a_q0_rows, .ref a_q0_factors, .ref a_q0_found, .ref a_q0_foundOtherwise, .int c_q0_acts_3, .int c_q0_refusals_3, .int c_q0_knocks])), (a_q0_forms, .inl (cyJ, 6, .inr (.inl f_q0_forms))), (a_q0_roll, .inr (3, [.ref a_q0_roll_held, .ref a_q0_roll_before, .int c_q0_roll_size_3])), (a_q0_roll_held, .inl (cyJ, 12, .inr (.inl f_q0_roll_held_3)))] H := hP
    have hD : va_D A [(a_q2, .inr (7, [.long c_q2_n, c_q2_s])), (a_q0, .inr (6, [.ref a_q0_forms, .ref a_q0_roll, .ref a_q0_row, .ref a_q0_rows, .ref a_q0_factors, .ref a_q0_found, .ref a_q0_foundOtherwise, .int c_q0_acts_3, .int c_q0_refusals_3, .int c_q0_knocks])), (a_q0_forms, .inl (cyJ, 6, .inr (.inl f_q0_forms))), (a_q0_roll, .inr (3, [.ref a_q0_roll_held, .ref a_q0_roll_before, .int c_q0_roll_size_3])), (a_q0_roll_held, .inl (cyJ, 12, .inr (.inl f_q0_roll_held_3)))] := hD
    by_cases cx0 : xc3 = 1
    · have h := it_ cx0 h
      have hE1 : E9 = "java/lang/IndexOutOfBoundsException" := by rw [hE9, cx0]; rfl
      subst hE1
      refine vx_catch (name := "java/lang/IndexOutOfBoundsException") hown (tableOf []) ⟨0, 10, 13, 19⟩ (tableOf []) hxt (fun z hz => absurd hz List.not_mem_nil) (by decide) (by decide) (hts (.classLink RL 19 "java/lang/IndexOutOfBoundsException") (by decide +kernel)) (va_Nw.use rfl (hE.2.1 (.castable "java/lang/IndexOutOfBoundsException" "java/lang/IndexOutOfBoundsException") (by decide +kernel))) hce9 hcv9 hcl9 ?_
      refine lv_astore_n (lv' := [(3, .ref q9), (0, .ref a_q0), (1, .int p1), (2, .ref a_q2)]) hx hb dL_enroll_13 rfl hl (by decide) rfl (fun ls hl => ?_)
      refine lv_iconst (v := 1) hx hb dL_enroll_14 (by decide) ?_
      obtain ⟨e0, e1, e2, e3, e4, e5⟩ := tup6 h
      subst e0
      subst e1
      subst e2
      subst e3
      subst e4
      subst e5
      have hP9 : va_P D vwCl [(a_q0, .inr (6, [.ref a_q0_forms, .ref a_q0_roll, .ref a_q0_row, .ref a_q0_rows, .ref a_q0_factors, .ref a_q0_found, .ref a_q0_foundOtherwise, .int c_q0_acts_3, .int c_q0_refusals_3, .int c_q0_knocks])), (a_q0_forms, .inl (cyJ, 6, .inr (.inl f_q0_forms))), (a_q0_roll, .inr (3, [.ref a_q0_roll_held, .ref a_q0_roll_before, .int c_q0_roll_size_3])), (a_q0_roll_held, .inl (cyJ, 12, .inr (.inl f_q0_roll_held_3))), (a_q2, .inr (7, [.long c_q2_n, c_q2_s]))] H := hP.sub [1, 2, 3, 4, 0] rfl
      have hD9 : va_D A [(a_q0, .inr (6, [.ref a_q0_forms, .ref a_q0_roll, .ref a_q0_row, .ref a_q0_rows, .ref a_q0_factors, .ref a_q0_found, .ref a_q0_foundOtherwise, .int c_q0_acts_3, .int c_q0_refusals_3, .int c_q0_knocks])), (a_q0_forms, .inl (cyJ, 6, .inr (.inl f_q0_forms))), (a_q0_roll, .inr (3, [.ref a_q0_roll_held, .ref a_q0_roll_before, .int c_q0_roll_size_3])), (a_q0_roll_held, .inl (cyJ, 12, .inr (.inl f_q0_roll_held_3))), (a_q2, .inr (7, [.long c_q2_n, c_q2_s]))] := hD.sub [1, 2, 3, 4, 0] (by decide) rfl
      refine vx_ret ?_
      exact W.iret hx hb hr (fun t ht hW => ⟨⟨_, (), rfl, rfl, wQA_of ht hP9 hD9⟩, hS.F ht⟩) hS.2.2 dL_enroll_15
    have h := if_ cx0 h
    cases h
  · have h := it_ hx9 h
    have hP : va_P D vwCl [(a_q2, .inr (7, [.long c_q2_n, c_q2_s])), (a_q0, .inr (6, [.ref a_q0_forms, .ref a_q0_roll, .ref a_q0_row, .ref a_q0_rows, .ref a_q0_factors, .ref a_q0_found, .ref a_q0_foundOtherwise, .int c_q0_acts_3, .int c_q0_refusals_3, .int c_q0_knocks])), (a_q0_forms, .inl (cyJ, 6, .inr (.inl f_q0_forms))), (a_q0_roll, .inr (3, [.ref a_q0_roll_held, .ref a_q0_roll_before, .int c_q0_roll_size_3])), (a_q0_roll_held, .inl (cyJ, 12, .inr (.inl f_q0_roll_held_3)))] H := hP
    have hD : va_D A [(a_q2, .inr (7, [.long c_q2_n, c_q2_s])), (a_q0, .inr (6, [.ref a_q0_forms, .ref a_q0_roll, .ref a_q0_row, .ref a_q0_rows, .ref a_q0_factors, .ref a_q0_found, .ref a_q0_foundOtherwise, .int c_q0_acts_3, .int c_q0_refusals_3, .int c_q0_knocks])), (a_q0_forms, .inl (cyJ, 6, .inr (.inl f_q0_forms))), (a_q0_roll, .inr (3, [.ref a_q0_roll_held, .ref a_q0_roll_before, .int c_q0_roll_size_3])), (a_q0_roll_held, .inl (cyJ, 12, .inr (.inl f_q0_roll_held_3)))] := hD
    refine lv_i2l (v := r3.toInt64) hx hb dL_enroll_6 rfl ?_
    refine lv_topl (fun c_q2_n_7 e_c_q2_n_7 => ?_)
    have h := bnd_h e_c_q2_n_7 h
    refine va_putN (D := D) (ci := 7) (v := .long c_q2_n_7) (ty := .long) (C := RX8) (T := TX8) (N := 2) hx hb hts hinX8 tyX8 tyX8_ok nmX8 hown hK hP hD hS 0 rfl rfl 0 (by decide) hfl13 (fun _ h9 => h9) rfl (by decide +kernel) rfl rfl (Nat.le_of_ble_eq_true rfl) dL_enroll_7 (fun H locs hP hD hS => ?_)
    have hP : va_P D vwCl [(a_q2, .inr (7, [.long c_q2_n_7, c_q2_s])), (a_q0, .inr (6, [.ref a_q0_forms, .ref a_q0_roll, .ref a_q0_row, .ref a_q0_rows, .ref a_q0_factors, .ref a_q0_found, .ref a_q0_foundOtherwise, .int c_q0_acts_3, .int c_q0_refusals_3, .int c_q0_knocks])), (a_q0_forms, .inl (cyJ, 6, .inr (.inl f_q0_forms))), (a_q0_roll, .inr (3, [.ref a_q0_roll_held, .ref a_q0_roll_before, .int c_q0_roll_size_3])), (a_q0_roll_held, .inl (cyJ, 12, .inr (.inl f_q0_roll_held_3)))] H := hP
    have hD : va_D A [(a_q2, .inr (7, [.long c_q2_n_7, c_q2_s])), (a_q0, .inr (6, [.ref a_q0_forms, .ref a_q0_roll, .ref a_q0_row, .ref a_q0_rows, .ref a_q0_factors, .ref a_q0_found, .ref a_q0_foundOtherwise, .int c_q0_acts_3, .int c_q0_refusals_3, .int c_q0_knocks])), (a_q0_forms, .inl (cyJ, 6, .inr (.inl f_q0_forms))), (a_q0_roll, .inr (3, [.ref a_q0_roll_held, .ref a_q0_roll_before, .int c_q0_roll_size_3])), (a_q0_roll_held, .inl (cyJ, 12, .inr (.inl f_q0_roll_held_3)))] := hD
    refine lv_goto (tgt := 16) hx hb dL_enroll_10 (by decide) ?_
    refine lv_iconst (v := 0) hx hb dL_enroll_16 (by decide) ?_
    obtain ⟨e0, e1, e2, e3, e4, e5⟩ := tup6 h
    subst e0
    subst e1
    subst e2
    subst e3
    subst e4
    subst e5
    have hP9 : va_P D vwCl [(a_q0, .inr (6, [.ref a_q0_forms, .ref a_q0_roll, .ref a_q0_row, .ref a_q0_rows, .ref a_q0_factors, .ref a_q0_found, .ref a_q0_foundOtherwise, .int c_q0_acts_3, .int c_q0_refusals_3, .int c_q0_knocks])), (a_q0_forms, .inl (cyJ, 6, .inr (.inl f_q0_forms))), (a_q0_roll, .inr (3, [.ref a_q0_roll_held, .ref a_q0_roll_before, .int c_q0_roll_size_3])), (a_q0_roll_held, .inl (cyJ, 12, .inr (.inl f_q0_roll_held_3))), (a_q2, .inr (7, [.long c_q2_n_7, c_q2_s]))] H := hP.sub [1, 2, 3, 4, 0] rfl
    have hD9 : va_D A [(a_q0, .inr (6, [.ref a_q0_forms, .ref a_q0_roll, .ref a_q0_row, .ref a_q0_rows, .ref a_q0_factors, .ref a_q0_found, .ref a_q0_foundOtherwise, .int c_q0_acts_3, .int c_q0_refusals_3, .int c_q0_knocks])), (a_q0_forms, .inl (cyJ, 6, .inr (.inl f_q0_forms))), (a_q0_roll, .inr (3, [.ref a_q0_roll_held, .ref a_q0_roll_before, .int c_q0_roll_size_3])), (a_q0_roll_held, .inl (cyJ, 12, .inr (.inl f_q0_roll_held_3))), (a_q2, .inr (7, [.long c_q2_n_7, c_q2_s]))] := hD.sub [1, 2, 3, 4, 0] (by decide) rfl
    refine vx_ret ?_
    exact W.iret hx hb hr (fun t ht hW => ⟨⟨_, (), rfl, rfl, wQA_of ht hP9 hD9⟩, hS.F ht⟩) hS.2.2 dL_enroll_17

noncomputable abbrev rmL_strike : Room := { frames := 10, cells := 1, slots := 6, locals := 144 }
theorem ydL_strike : yL_strike.cls ≠ "java/lang/invoke/MethodHandle" ∧ yL_strike.cls ≠ "java/lang/invoke/VarHandle" ∧ (parseMethodDescriptor yL_strike.desc).map (fun d => d.parameters.length) = some 3 := by decide +kernel
noncomputable def F_L_strike (c_q0_acts : Int32) (c_q0_roll_size : Int32) (f_q0_roll_held : Nat → Int64) (c_q2_n : Int64) (p1 : Int32) : Option (Int32 × Int32 × Int32 × (Nat → Int64) × Int64) :=
 obn5 (F_X7_strike c_q0_acts c_q0_roll_size f_q0_roll_held p1) (fun xc3 r3 c_q0_acts_3 c_q0_roll_size_3 f_q0_roll_held_3 =>
 if xc3 = 0 then
 bnd r3.toInt64 (fun c_q2_n_7 =>
 some ((0 : Int32), c_q0_acts_3, c_q0_roll_size_3, f_q0_roll_held_3, c_q2_n_7))
else
 (if xc3 = 1 then
 some ((1 : Int32), c_q0_acts_3, c_q0_roll_size_3, f_q0_roll_held_3, c_q2_n)
else
 none))
set_option maxHeartbeats 4000000 in
set_option maxRecDepth 100000 in
theorem c_L_strike (l : Launch) (hfl : l.stackTraces = false) (D : va_G) (cyJ : ClassId) (sz : Nat) (a_q0 : Nat) (a_q2 : Nat) (a_q0_forms : Nat) (a_q0_roll : Nat) (a_q0_row : Nat) (a_q0_rows : Nat) (a_q0_factors : Nat) (a_q0_found : Nat) (a_q0_foundOtherwise : Nat) (a_q0_roll_held : Nat) (a_q0_roll_before : Nat) (c_q0_acts : Int32) (c_q0_refusals : Int32) (c_q0_knocks : Int32) (c_q0_roll_size : Int32) (f_q0_roll_held : Nat → Int64) (c_q2_n : Int64) (c_q2_s : Value) (p1 : Int32) (r0 : Int32) (o_c_q0_acts : Int32) (o_c_q0_roll_size : Int32) (o_f_q0_roll_held : Nat → Int64) (o_c_q2_n : Int64) (hF : F_L_strike c_q0_acts c_q0_roll_size f_q0_roll_held c_q2_n p1 = some (r0, o_c_q0_acts, o_c_q0_roll_size, o_f_q0_roll_held, o_c_q2_n)) : vx_Met l yL_strike wsL_strike rmL_strike (va_Pc [.ref a_q0, .int p1, .ref a_q2] (wPL D [(cyJ, .long)] [(a_q0, .inr (6, [.ref a_q0_forms, .ref a_q0_roll, .ref a_q0_row, .ref a_q0_rows, .ref a_q0_factors, .ref a_q0_found, .ref a_q0_foundOtherwise, .int c_q0_acts, .int c_q0_refusals, .int c_q0_knocks])), (a_q0_roll, .inr (3, [.ref a_q0_roll_held, .ref a_q0_roll_before, .int c_q0_roll_size])), (a_q0_roll_held, .inl (cyJ, 12, .inr (.inl f_q0_roll_held))), (a_q2, .inr (7, [.long c_q2_n, c_q2_s]))] sz)) (va_Qi (fun (r : Int32) (_ : Unit) => r = r0) (fun _ t => wQA D [(a_q0, .inr (6, [.ref a_q0_forms, .ref a_q0_roll, .ref a_q0_row, .ref a_q0_rows, .ref a_q0_factors, .ref a_q0_found, .ref a_q0_foundOtherwise, .int o_c_q0_acts, .int c_q0_refusals, .int c_q0_knocks])), (a_q0_roll, .inr (3, [.ref a_q0_roll_held, .ref a_q0_roll_before, .int o_c_q0_roll_size])), (a_q0_roll_held, .inl (cyJ, 12, .inr (.inl o_f_q0_roll_held))), (a_q2, .inr (7, [.long o_c_q2_n, c_q2_s]))] (va_A [(a_q0, .inr (6, [.ref a_q0_forms, .ref a_q0_roll, .ref a_q0_row, .ref a_q0_rows, .ref a_q0_factors, .ref a_q0_found, .ref a_q0_foundOtherwise, .int c_q0_acts, .int c_q0_refusals, .int c_q0_knocks])), (a_q0_roll, .inr (3, [.ref a_q0_roll_held, .ref a_q0_roll_before, .int c_q0_roll_size])), (a_q0_roll_held, .inl (cyJ, 12, .inr (.inl f_q0_roll_held))), (a_q2, .inr (7, [.long c_q2_n, c_q2_s]))] sz) t) (va_A [(a_q0, .inr (6, [.ref a_q0_forms, .ref a_q0_roll, .ref a_q0_row, .ref a_q0_rows, .ref a_q0_factors, .ref a_q0_found, .ref a_q0_foundOtherwise, .int c_q0_acts, .int c_q0_refusals, .int c_q0_knocks])), (a_q0_roll, .inr (3, [.ref a_q0_roll_held, .ref a_q0_roll_before, .int c_q0_roll_size])), (a_q0_roll_held, .inl (cyJ, 12, .inr (.inl f_q0_roll_held))), (a_q2, .inr (7, [.long c_q2_n, c_q2_s]))] sz)) (fun _ _ _ => False) 1 6 (va_A [(a_q0, .inr (6, [.ref a_q0_forms, .ref a_q0_roll, .ref a_q0_row, .ref a_q0_rows, .ref a_q0_factors, .ref a_q0_found, .ref a_q0_foundOtherwise, .int c_q0_acts, .int c_q0_refusals, .int c_q0_knocks])), (a_q0_roll, .inr (3, [.ref a_q0_roll_held, .ref a_q0_roll_before, .int c_q0_roll_size])), (a_q0_roll_held, .inl (cyJ, 12, .inr (.inl f_q0_roll_held))), (a_q2, .inr (7, [.long c_q2_n, c_q2_s]))] sz) := by
  refine vx_ofWH (cc := cL_strike) (maxL := 4) (ret := (some .int)) (hh := [(0, 10, 13, 19)]) (by decide) rfl ?_
  intro p e s m args below meth c s₁ B hml hv
  obtain ⟨rfl, ⟨⟨hsz, hP, hK, hD0, hnw⟩, hE⟩, hNc⟩ := hv
  have hx := B.exec
  have hb := B.bytes
  have hr := B.returns
  have hts := atoms_spec (ws := wsL_strike) B.pre
  have hown : s.vm.findClass RL = some m.cls := findClass_of_methodNamed B.named
  have hlocks := B.notSynchronized
  have hcf : CallFix _ _ _ _ _ _ _ _ _ := ⟨hx, hb, hml, hown, hts⟩
  have hxt : c.exceptionTable.toList = tableOf [(0, 10, 13, 19)] := vx_table (x := yL_strike) B (hts _ List.mem_cons_self)
  have hinX8 : ∀ w ∈ u_ws RX8 TX8 2, w ∈ wsL_strike := by decide +kernel
  have hfl13 := hnw.use (A := ([.ref a_q0, .int p1, .ref a_q2] : List Value).toArray) (w := .fieldLinkNest RL 13 "FormwheelLaw$Out" "n" "J" "FormwheelLaw") (by decide +kernel)
  subst hsz
  have hD := hD0.self (sz := s.heap.size)
  generalize hAe : va_A [(a_q0, .inr (6, [.ref a_q0_forms, .ref a_q0_roll, .ref a_q0_row, .ref a_q0_rows, .ref a_q0_factors, .ref a_q0_found, .ref a_q0_foundOtherwise, .int c_q0_acts, .int c_q0_refusals, .int c_q0_knocks])), (a_q0_roll, .inr (3, [.ref a_q0_roll_held, .ref a_q0_roll_before, .int c_q0_roll_size])), (a_q0_roll_held, .inl (cyJ, 12, .inr (.inl f_q0_roll_held))), (a_q2, .inr (7, [.long c_q2_n, c_q2_s]))] s.heap.size = A at hD hE ⊢
  have hA : ∀ q : Nat, s.heap.size ≤ q → A q := fun q h => by rw [← hAe]; exact Or.inr h
  have hS : va_S A s.heap s.heap [] := va_S.rf
  have hP : va_P D vwCl [(a_q0, .inr (6, [.ref a_q0_forms, .ref a_q0_roll, .ref a_q0_row, .ref a_q0_rows, .ref a_q0_factors, .ref a_q0_found, .ref a_q0_foundOtherwise, .int c_q0_acts, .int c_q0_refusals, .int c_q0_knocks])), (a_q0_roll, .inr (3, [.ref a_q0_roll_held, .ref a_q0_roll_before, .int c_q0_roll_size])), (a_q0_roll_held, .inl (cyJ, 12, .inr (.inl f_q0_roll_held))), (a_q2, .inr (7, [.long c_q2_n, c_q2_s]))] s.heap := hP
  have hK0 := hK
  have hl := lv_entry ([.ref a_q0, .int p1, .ref a_q2]) (n := 4) (Nat.le_of_ble_eq_true rfl)
  rw [lg_entry_eq]
  generalize (lg_sl ([.ref a_q0, .int p1, .ref a_q2]) ++ List.replicate (4 - (lg_sl ([.ref a_q0, .int p1, .ref a_q2])).length) Slot.unset).toArray = ls at hl ⊢
  have hl : lv_has ls 4 [(0, .ref a_q0), (1, .int p1), (2, .ref a_q2)] := hl
  have h := hF
  clear hF
  unfold F_L_strike at h
  refine lv_aload_n hx hb dL_strike_0 rfl (lv_at hl 2 rfl) ?_
  refine lv_aload_n hx hb dL_strike_1 rfl (lv_at hl 0 rfl) ?_
  refine lv_iload_n hx hb dL_strike_2 rfl (lv_at hl 1 rfl) ?_
  obtain ⟨xc3, r3, c_q0_acts_3, c_q0_roll_size_3, f_q0_roll_held_3, hc3, h⟩ := obn5_h h
  have hPc := hP.sub (ws' := [(a_q0, .inr (6, [.ref a_q0_forms, .ref a_q0_roll, .ref a_q0_row, .ref a_q0_rows, .ref a_q0_factors, .ref a_q0_found, .ref a_q0_foundOtherwise, .int c_q0_acts, .int c_q0_refusals, .int c_q0_knocks])), (a_q0_roll, .inr (3, [.ref a_q0_roll_held, .ref a_q0_roll_before, .int c_q0_roll_size])), (a_q0_roll_held, .inl (cyJ, 12, .inr (.inl f_q0_roll_held)))]) [0, 1, 2] rfl
  have hDc := hD.sub (ws' := [(a_q0, .inr (6, [.ref a_q0_forms, .ref a_q0_roll, .ref a_q0_row, .ref a_q0_rows, .ref a_q0_factors, .ref a_q0_found, .ref a_q0_foundOtherwise, .int c_q0_acts, .int c_q0_refusals, .int c_q0_knocks])), (a_q0_roll, .inr (3, [.ref a_q0_roll_held, .ref a_q0_roll_before, .int c_q0_roll_size])), (a_q0_roll_held, .inl (cyJ, 12, .inr (.inl f_q0_roll_held)))]) [0, 1, 2] (by decide) rfl
  refine hx_i (w1 := [(a_q0, .inr (6, [.ref a_q0_forms, .ref a_q0_roll, .ref a_q0_row, .ref a_q0_rows, .ref a_q0_factors, .ref a_q0_found, .ref a_q0_foundOtherwise, .int c_q0_acts_3, .int c_q0_refusals, .int c_q0_knocks])), (a_q0_roll, .inr (3, [.ref a_q0_roll_held, .ref a_q0_roll_before, .int c_q0_roll_size_3])), (a_q0_roll_held, .inl (cyJ, 12, .inr (.inl f_q0_roll_held_3)))]) (wr := [(a_q2, .inr (7, [.long c_q2_n, c_q2_s]))]) (vx_runV (As := [.int p1]) (rest := [.ref a_q2]) hcf (c_X7_strike l hfl D cyJ s.heap.size a_q0 a_q0_forms a_q0_roll a_q0_row a_q0_rows a_q0_factors a_q0_found a_q0_foundOtherwise a_q0_roll_held a_q0_roll_before c_q0_acts c_q0_refusals c_q0_knocks c_q0_roll_size f_q0_roll_held p1 xc3 r3 c_q0_acts_3 c_q0_roll_size_3 f_q0_roll_held_3 hc3) (cwV 1 hts gL_strike_X7_strike rfl rfl rfl ydX7_strike ⟨Nat.le_of_ble_eq_true rfl, Nat.le_of_ble_eq_true rfl⟩) ⟨bl_PX, va_recv hK hP (ci := 6) (q0 := 0) rfl rfl, pr_PX hPc hK0 hDc hnw hE hS (va_free hD hS hA [0, 1, 2] rfl)⟩ rfl rfl hl.1 rfl (lv_room (Nat.le_of_ble_eq_true rfl)) dL_strike_3 ⟨Nat.le_of_ble_eq_true rfl, Nat.le_of_ble_eq_true rfl⟩) hP hD hS hA [0, 1, 2] [3] rfl rfl (by decide) (by decide) (fun E9 ce9 q9 H locs hx9 hE9 hP hD hS hce9 hcv9 hcl9 => ?_) (fun hx9 H locs hP hD hS => ?_)
  · have h := if_ hx9 h
    have hP : va_P D vwCl [(a_q2, .inr (7, [.long c_q2_n, c_q2_s])), (a_q0, .inr (6, [.ref a_q0_forms, .ref a_q0_roll, .ref a_q0_row, .ref a_q0_rows, .ref a_q0_factors, .ref a_q0_found, .ref a_q0_foundOtherwise, .int c_q0_acts_3, .int c_q0_refusals, .int c_q0_knocks])), (a_q0_roll, .inr (3, [.ref a_q0_roll_held, .ref a_q0_roll_before, .int c_q0_roll_size_3])), (a_q0_roll_held, .inl (cyJ, 12, .inr (.inl f_q0_roll_held_3)))] H := hP
    have hD : va_D A [(a_q2, .inr (7, [.long c_q2_n, c_q2_s])), (a_q0, .inr (6, [.ref a_q0_forms, .ref a_q0_roll, .ref a_q0_row, .ref a_q0_rows, .ref a_q0_factors, .ref a_q0_found, .ref a_q0_foundOtherwise, .int c_q0_acts_3, .int c_q0_refusals, .int c_q0_knocks])), (a_q0_roll, .inr (3, [.ref a_q0_roll_held, .ref a_q0_roll_before, .int c_q0_roll_size_3])), (a_q0_roll_held, .inl (cyJ, 12, .inr (.inl f_q0_roll_held_3)))] := hD
    by_cases cx0 : xc3 = 1
    · have h := it_ cx0 h
      have hE1 : E9 = "java/lang/IndexOutOfBoundsException" := by rw [hE9, cx0]; rfl
      subst hE1
      refine vx_catch (name := "java/lang/IndexOutOfBoundsException") hown (tableOf []) ⟨0, 10, 13, 19⟩ (tableOf []) hxt (fun z hz => absurd hz List.not_mem_nil) (by decide) (by decide) (hts (.classLink RL 19 "java/lang/IndexOutOfBoundsException") (by decide +kernel)) (va_Nw.use rfl (hE.2.1 (.castable "java/lang/IndexOutOfBoundsException" "java/lang/IndexOutOfBoundsException") (by decide +kernel))) hce9 hcv9 hcl9 ?_
      refine lv_astore_n (lv' := [(3, .ref q9), (0, .ref a_q0), (1, .int p1), (2, .ref a_q2)]) hx hb dL_strike_13 rfl hl (by decide) rfl (fun ls hl => ?_)
      refine lv_iconst (v := 1) hx hb dL_strike_14 (by decide) ?_
      obtain ⟨e0, e1, e2, e3, e4⟩ := tup5 h
      subst e0
      subst e1
      subst e2
      subst e3
      subst e4
      have hP9 : va_P D vwCl [(a_q0, .inr (6, [.ref a_q0_forms, .ref a_q0_roll, .ref a_q0_row, .ref a_q0_rows, .ref a_q0_factors, .ref a_q0_found, .ref a_q0_foundOtherwise, .int c_q0_acts_3, .int c_q0_refusals, .int c_q0_knocks])), (a_q0_roll, .inr (3, [.ref a_q0_roll_held, .ref a_q0_roll_before, .int c_q0_roll_size_3])), (a_q0_roll_held, .inl (cyJ, 12, .inr (.inl f_q0_roll_held_3))), (a_q2, .inr (7, [.long c_q2_n, c_q2_s]))] H := hP.sub [1, 2, 3, 0] rfl
      have hD9 : va_D A [(a_q0, .inr (6, [.ref a_q0_forms, .ref a_q0_roll, .ref a_q0_row, .ref a_q0_rows, .ref a_q0_factors, .ref a_q0_found, .ref a_q0_foundOtherwise, .int c_q0_acts_3, .int c_q0_refusals, .int c_q0_knocks])), (a_q0_roll, .inr (3, [.ref a_q0_roll_held, .ref a_q0_roll_before, .int c_q0_roll_size_3])), (a_q0_roll_held, .inl (cyJ, 12, .inr (.inl f_q0_roll_held_3))), (a_q2, .inr (7, [.long c_q2_n, c_q2_s]))] := hD.sub [1, 2, 3, 0] (by decide) rfl
      refine vx_ret ?_
      exact W.iret hx hb hr (fun t ht hW => ⟨⟨_, (), rfl, rfl, wQA_of ht hP9 hD9⟩, hS.F ht⟩) hS.2.2 dL_strike_15
    have h := if_ cx0 h
    cases h
  · have h := it_ hx9 h
    have hP : va_P D vwCl [(a_q2, .inr (7, [.long c_q2_n, c_q2_s])), (a_q0, .inr (6, [.ref a_q0_forms, .ref a_q0_roll, .ref a_q0_row, .ref a_q0_rows, .ref a_q0_factors, .ref a_q0_found, .ref a_q0_foundOtherwise, .int c_q0_acts_3, .int c_q0_refusals, .int c_q0_knocks])), (a_q0_roll, .inr (3, [.ref a_q0_roll_held, .ref a_q0_roll_before, .int c_q0_roll_size_3])), (a_q0_roll_held, .inl (cyJ, 12, .inr (.inl f_q0_roll_held_3)))] H := hP
    have hD : va_D A [(a_q2, .inr (7, [.long c_q2_n, c_q2_s])), (a_q0, .inr (6, [.ref a_q0_forms, .ref a_q0_roll, .ref a_q0_row, .ref a_q0_rows, .ref a_q0_factors, .ref a_q0_found, .ref a_q0_foundOtherwise, .int c_q0_acts_3, .int c_q0_refusals, .int c_q0_knocks])), (a_q0_roll, .inr (3, [.ref a_q0_roll_held, .ref a_q0_roll_before, .int c_q0_roll_size_3])), (a_q0_roll_held, .inl (cyJ, 12, .inr (.inl f_q0_roll_held_3)))] := hD
    refine lv_i2l (v := r3.toInt64) hx hb dL_strike_6 rfl ?_
    refine lv_topl (fun c_q2_n_7 e_c_q2_n_7 => ?_)
    have h := bnd_h e_c_q2_n_7 h
    refine va_putN (D := D) (ci := 7) (v := .long c_q2_n_7) (ty := .long) (C := RX8) (T := TX8) (N := 2) hx hb hts hinX8 tyX8 tyX8_ok nmX8 hown hK hP hD hS 0 rfl rfl 0 (by decide) hfl13 (fun _ h9 => h9) rfl (by decide +kernel) rfl rfl (Nat.le_of_ble_eq_true rfl) dL_strike_7 (fun H locs hP hD hS => ?_)
    have hP : va_P D vwCl [(a_q2, .inr (7, [.long c_q2_n_7, c_q2_s])), (a_q0, .inr (6, [.ref a_q0_forms, .ref a_q0_roll, .ref a_q0_row, .ref a_q0_rows, .ref a_q0_factors, .ref a_q0_found, .ref a_q0_foundOtherwise, .int c_q0_acts_3, .int c_q0_refusals, .int c_q0_knocks])), (a_q0_roll, .inr (3, [.ref a_q0_roll_held, .ref a_q0_roll_before, .int c_q0_roll_size_3])), (a_q0_roll_held, .inl (cyJ, 12, .inr (.inl f_q0_roll_held_3)))] H := hP
    have hD : va_D A [(a_q2, .inr (7, [.long c_q2_n_7, c_q2_s])), (a_q0, .inr (6, [.ref a_q0_forms, .ref a_q0_roll, .ref a_q0_row, .ref a_q0_rows, .ref a_q0_factors, .ref a_q0_found, .ref a_q0_foundOtherwise, .int c_q0_acts_3, .int c_q0_refusals, .int c_q0_knocks])), (a_q0_roll, .inr (3, [.ref a_q0_roll_held, .ref a_q0_roll_before, .int c_q0_roll_size_3])), (a_q0_roll_held, .inl (cyJ, 12, .inr (.inl f_q0_roll_held_3)))] := hD
    refine lv_goto (tgt := 16) hx hb dL_strike_10 (by decide) ?_
    refine lv_iconst (v := 0) hx hb dL_strike_16 (by decide) ?_
    obtain ⟨e0, e1, e2, e3, e4⟩ := tup5 h
    subst e0
    subst e1
    subst e2
    subst e3
    subst e4
    have hP9 : va_P D vwCl [(a_q0, .inr (6, [.ref a_q0_forms, .ref a_q0_roll, .ref a_q0_row, .ref a_q0_rows, .ref a_q0_factors, .ref a_q0_found, .ref a_q0_foundOtherwise, .int c_q0_acts_3, .int c_q0_refusals, .int c_q0_knocks])), (a_q0_roll, .inr (3, [.ref a_q0_roll_held, .ref a_q0_roll_before, .int c_q0_roll_size_3])), (a_q0_roll_held, .inl (cyJ, 12, .inr (.inl f_q0_roll_held_3))), (a_q2, .inr (7, [.long c_q2_n_7, c_q2_s]))] H := hP.sub [1, 2, 3, 0] rfl
    have hD9 : va_D A [(a_q0, .inr (6, [.ref a_q0_forms, .ref a_q0_roll, .ref a_q0_row, .ref a_q0_rows, .ref a_q0_factors, .ref a_q0_found, .ref a_q0_foundOtherwise, .int c_q0_acts_3, .int c_q0_refusals, .int c_q0_knocks])), (a_q0_roll, .inr (3, [.ref a_q0_roll_held, .ref a_q0_roll_before, .int c_q0_roll_size_3])), (a_q0_roll_held, .inl (cyJ, 12, .inr (.inl f_q0_roll_held_3))), (a_q2, .inr (7, [.long c_q2_n_7, c_q2_s]))] := hD.sub [1, 2, 3, 0] (by decide) rfl
    refine vx_ret ?_
    exact W.iret hx hb hr (fun t ht hW => ⟨⟨_, (), rfl, rfl, wQA_of ht hP9 hD9⟩, hS.F ht⟩) hS.2.2 dL_strike_17

noncomputable abbrev rmL_take : Room := { frames := 10, cells := 2, slots := 12, locals := 143 }
theorem ydL_take : yL_take.cls ≠ "java/lang/invoke/MethodHandle" ∧ yL_take.cls ≠ "java/lang/invoke/VarHandle" ∧ (parseMethodDescriptor yL_take.desc).map (fun d => d.parameters.length) = some 4 := by decide +kernel
noncomputable def F_L_take (c_q0_acts : Int32) (f_q0_forms : Nat → Int64) (c_q0_roll_size : Int32) (f_q0_roll_held : Nat → Int64) (c_q3_n : Int64) (p1 : Int32) (p2 : Int32) : Option (Int32 × Int32 × (Nat → Int64) × Int64) :=
 obn4 (F_X7_take c_q0_acts f_q0_forms c_q0_roll_size f_q0_roll_held p1 p2) (fun xc4 r4 c_q0_acts_4 f_q0_forms_4 =>
 if xc4 = 0 then
 bnd r4.toInt64 (fun c_q3_n_8 =>
 some ((0 : Int32), c_q0_acts_4, f_q0_forms_4, c_q3_n_8))
else
 (if xc4 = 1 then
 some ((1 : Int32), c_q0_acts_4, f_q0_forms_4, c_q3_n)
else
 none))
set_option maxHeartbeats 4000000 in
set_option maxRecDepth 100000 in
theorem c_L_take (l : Launch) (hfl : l.stackTraces = false) (D : va_G) (cyJ : ClassId) (sz : Nat) (a_q0 : Nat) (a_q3 : Nat) (a_q0_forms : Nat) (a_q0_roll : Nat) (a_q0_row : Nat) (a_q0_rows : Nat) (a_q0_factors : Nat) (a_q0_found : Nat) (a_q0_foundOtherwise : Nat) (a_q0_roll_held : Nat) (a_q0_roll_before : Nat) (c_q0_acts : Int32) (c_q0_refusals : Int32) (c_q0_knocks : Int32) (f_q0_forms : Nat → Int64) (c_q0_roll_size : Int32) (f_q0_roll_held : Nat → Int64) (c_q3_n : Int64) (c_q3_s : Value) (p1 : Int32) (p2 : Int32) (r0 : Int32) (o_c_q0_acts : Int32) (o_f_q0_forms : Nat → Int64) (o_c_q3_n : Int64) (hF : F_L_take c_q0_acts f_q0_forms c_q0_roll_size f_q0_roll_held c_q3_n p1 p2 = some (r0, o_c_q0_acts, o_f_q0_forms, o_c_q3_n)) : vx_Met l yL_take wsL_take rmL_take (va_Pc [.ref a_q0, .int p1, .int p2, .ref a_q3] (wPL D [(cyJ, .long)] [(a_q0, .inr (6, [.ref a_q0_forms, .ref a_q0_roll, .ref a_q0_row, .ref a_q0_rows, .ref a_q0_factors, .ref a_q0_found, .ref a_q0_foundOtherwise, .int c_q0_acts, .int c_q0_refusals, .int c_q0_knocks])), (a_q0_forms, .inl (cyJ, 6, .inr (.inl f_q0_forms))), (a_q0_roll, .inr (3, [.ref a_q0_roll_held, .ref a_q0_roll_before, .int c_q0_roll_size])), (a_q0_roll_held, .inl (cyJ, 12, .inr (.inl f_q0_roll_held))), (a_q3, .inr (7, [.long c_q3_n, c_q3_s]))] sz)) (va_Qi (fun (r : Int32) (_ : Unit) => r = r0) (fun _ t => wQA D [(a_q0, .inr (6, [.ref a_q0_forms, .ref a_q0_roll, .ref a_q0_row, .ref a_q0_rows, .ref a_q0_factors, .ref a_q0_found, .ref a_q0_foundOtherwise, .int o_c_q0_acts, .int c_q0_refusals, .int c_q0_knocks])), (a_q0_forms, .inl (cyJ, 6, .inr (.inl o_f_q0_forms))), (a_q0_roll, .inr (3, [.ref a_q0_roll_held, .ref a_q0_roll_before, .int c_q0_roll_size])), (a_q0_roll_held, .inl (cyJ, 12, .inr (.inl f_q0_roll_held))), (a_q3, .inr (7, [.long o_c_q3_n, c_q3_s]))] (va_A [(a_q0, .inr (6, [.ref a_q0_forms, .ref a_q0_roll, .ref a_q0_row, .ref a_q0_rows, .ref a_q0_factors, .ref a_q0_found, .ref a_q0_foundOtherwise, .int c_q0_acts, .int c_q0_refusals, .int c_q0_knocks])), (a_q0_forms, .inl (cyJ, 6, .inr (.inl f_q0_forms))), (a_q0_roll, .inr (3, [.ref a_q0_roll_held, .ref a_q0_roll_before, .int c_q0_roll_size])), (a_q0_roll_held, .inl (cyJ, 12, .inr (.inl f_q0_roll_held))), (a_q3, .inr (7, [.long c_q3_n, c_q3_s]))] sz) t) (va_A [(a_q0, .inr (6, [.ref a_q0_forms, .ref a_q0_roll, .ref a_q0_row, .ref a_q0_rows, .ref a_q0_factors, .ref a_q0_found, .ref a_q0_foundOtherwise, .int c_q0_acts, .int c_q0_refusals, .int c_q0_knocks])), (a_q0_forms, .inl (cyJ, 6, .inr (.inl f_q0_forms))), (a_q0_roll, .inr (3, [.ref a_q0_roll_held, .ref a_q0_roll_before, .int c_q0_roll_size])), (a_q0_roll_held, .inl (cyJ, 12, .inr (.inl f_q0_roll_held))), (a_q3, .inr (7, [.long c_q3_n, c_q3_s]))] sz)) (fun _ _ _ => False) 2 12 (va_A [(a_q0, .inr (6, [.ref a_q0_forms, .ref a_q0_roll, .ref a_q0_row, .ref a_q0_rows, .ref a_q0_factors, .ref a_q0_found, .ref a_q0_foundOtherwise, .int c_q0_acts, .int c_q0_refusals, .int c_q0_knocks])), (a_q0_forms, .inl (cyJ, 6, .inr (.inl f_q0_forms))), (a_q0_roll, .inr (3, [.ref a_q0_roll_held, .ref a_q0_roll_before, .int c_q0_roll_size])), (a_q0_roll_held, .inl (cyJ, 12, .inr (.inl f_q0_roll_held))), (a_q3, .inr (7, [.long c_q3_n, c_q3_s]))] sz) := by
  refine vx_ofWH (cc := cL_take) (maxL := 5) (ret := (some .int)) (hh := [(0, 11, 14, 19)]) (by decide) rfl ?_
  intro p e s m args below meth c s₁ B hml hv
  obtain ⟨rfl, ⟨⟨hsz, hP, hK, hD0, hnw⟩, hE⟩, hNc⟩ := hv
  have hx := B.exec
  have hb := B.bytes
  have hr := B.returns
  have hts := atoms_spec (ws := wsL_take) B.pre
  have hown : s.vm.findClass RL = some m.cls := findClass_of_methodNamed B.named
  have hlocks := B.notSynchronized
  have hcf : CallFix _ _ _ _ _ _ _ _ _ := ⟨hx, hb, hml, hown, hts⟩
  have hxt : c.exceptionTable.toList = tableOf [(0, 11, 14, 19)] := vx_table (x := yL_take) B (hts _ List.mem_cons_self)
  have hinX8 : ∀ w ∈ u_ws RX8 TX8 2, w ∈ wsL_take := by decide +kernel
  have hfl13 := hnw.use (A := ([.ref a_q0, .int p1, .int p2, .ref a_q3] : List Value).toArray) (w := .fieldLinkNest RL 13 "FormwheelLaw$Out" "n" "J" "FormwheelLaw") (by decide +kernel)
  subst hsz
  have hD := hD0.self (sz := s.heap.size)
  generalize hAe : va_A [(a_q0, .inr (6, [.ref a_q0_forms, .ref a_q0_roll, .ref a_q0_row, .ref a_q0_rows, .ref a_q0_factors, .ref a_q0_found, .ref a_q0_foundOtherwise, .int c_q0_acts, .int c_q0_refusals, .int c_q0_knocks])), (a_q0_forms, .inl (cyJ, 6, .inr (.inl f_q0_forms))), (a_q0_roll, .inr (3, [.ref a_q0_roll_held, .ref a_q0_roll_before, .int c_q0_roll_size])), (a_q0_roll_held, .inl (cyJ, 12, .inr (.inl f_q0_roll_held))), (a_q3, .inr (7, [.long c_q3_n, c_q3_s]))] s.heap.size = A at hD hE ⊢
  have hA : ∀ q : Nat, s.heap.size ≤ q → A q := fun q h => by rw [← hAe]; exact Or.inr h
  have hS : va_S A s.heap s.heap [] := va_S.rf
  have hP : va_P D vwCl [(a_q0, .inr (6, [.ref a_q0_forms, .ref a_q0_roll, .ref a_q0_row, .ref a_q0_rows, .ref a_q0_factors, .ref a_q0_found, .ref a_q0_foundOtherwise, .int c_q0_acts, .int c_q0_refusals, .int c_q0_knocks])), (a_q0_forms, .inl (cyJ, 6, .inr (.inl f_q0_forms))), (a_q0_roll, .inr (3, [.ref a_q0_roll_held, .ref a_q0_roll_before, .int c_q0_roll_size])), (a_q0_roll_held, .inl (cyJ, 12, .inr (.inl f_q0_roll_held))), (a_q3, .inr (7, [.long c_q3_n, c_q3_s]))] s.heap := hP
  have hK0 := hK
  have hl := lv_entry ([.ref a_q0, .int p1, .int p2, .ref a_q3]) (n := 5) (Nat.le_of_ble_eq_true rfl)
  rw [lg_entry_eq]
  generalize (lg_sl ([.ref a_q0, .int p1, .int p2, .ref a_q3]) ++ List.replicate (5 - (lg_sl ([.ref a_q0, .int p1, .int p2, .ref a_q3])).length) Slot.unset).toArray = ls at hl ⊢
  have hl : lv_has ls 5 [(0, .ref a_q0), (1, .int p1), (2, .int p2), (3, .ref a_q3)] := hl
  have h := hF
  clear hF
  unfold F_L_take at h
  refine lv_aload_n hx hb dL_take_0 rfl (lv_at hl 3 rfl) ?_
  refine lv_aload_n hx hb dL_take_1 rfl (lv_at hl 0 rfl) ?_
  refine lv_iload_n hx hb dL_take_2 rfl (lv_at hl 1 rfl) ?_
  refine lv_iload_n hx hb dL_take_3 rfl (lv_at hl 2 rfl) ?_
  obtain ⟨xc4, r4, c_q0_acts_4, f_q0_forms_4, hc4, h⟩ := obn4_h h
  have hPc := hP.sub (ws' := [(a_q0, .inr (6, [.ref a_q0_forms, .ref a_q0_roll, .ref a_q0_row, .ref a_q0_rows, .ref a_q0_factors, .ref a_q0_found, .ref a_q0_foundOtherwise, .int c_q0_acts, .int c_q0_refusals, .int c_q0_knocks])), (a_q0_forms, .inl (cyJ, 6, .inr (.inl f_q0_forms))), (a_q0_roll, .inr (3, [.ref a_q0_roll_held, .ref a_q0_roll_before, .int c_q0_roll_size])), (a_q0_roll_held, .inl (cyJ, 12, .inr (.inl f_q0_roll_held)))]) [0, 1, 2, 3] rfl
  have hDc := hD.sub (ws' := [(a_q0, .inr (6, [.ref a_q0_forms, .ref a_q0_roll, .ref a_q0_row, .ref a_q0_rows, .ref a_q0_factors, .ref a_q0_found, .ref a_q0_foundOtherwise, .int c_q0_acts, .int c_q0_refusals, .int c_q0_knocks])), (a_q0_forms, .inl (cyJ, 6, .inr (.inl f_q0_forms))), (a_q0_roll, .inr (3, [.ref a_q0_roll_held, .ref a_q0_roll_before, .int c_q0_roll_size])), (a_q0_roll_held, .inl (cyJ, 12, .inr (.inl f_q0_roll_held)))]) [0, 1, 2, 3] (by decide) rfl
  refine hx_i (w1 := [(a_q0, .inr (6, [.ref a_q0_forms, .ref a_q0_roll, .ref a_q0_row, .ref a_q0_rows, .ref a_q0_factors, .ref a_q0_found, .ref a_q0_foundOtherwise, .int c_q0_acts_4, .int c_q0_refusals, .int c_q0_knocks])), (a_q0_forms, .inl (cyJ, 6, .inr (.inl f_q0_forms_4))), (a_q0_roll, .inr (3, [.ref a_q0_roll_held, .ref a_q0_roll_before, .int c_q0_roll_size])), (a_q0_roll_held, .inl (cyJ, 12, .inr (.inl f_q0_roll_held)))]) (wr := [(a_q3, .inr (7, [.long c_q3_n, c_q3_s]))]) (vx_runV (As := [.int p1, .int p2]) (rest := [.ref a_q3]) hcf (c_X7_take l hfl D cyJ s.heap.size a_q0 a_q0_forms a_q0_roll a_q0_row a_q0_rows a_q0_factors a_q0_found a_q0_foundOtherwise a_q0_roll_held a_q0_roll_before c_q0_acts c_q0_refusals c_q0_knocks f_q0_forms c_q0_roll_size f_q0_roll_held p1 p2 xc4 r4 c_q0_acts_4 f_q0_forms_4 hc4) (cwV 2 hts gL_take_X7_take rfl rfl rfl ydX7_take ⟨Nat.le_of_ble_eq_true rfl, Nat.le_of_ble_eq_true rfl⟩) ⟨bl_PX, va_recv hK hP (ci := 6) (q0 := 0) rfl rfl, pr_PX hPc hK0 hDc hnw hE hS (va_free hD hS hA [0, 1, 2, 3] rfl)⟩ rfl rfl hl.1 rfl (lv_room (Nat.le_of_ble_eq_true rfl)) dL_take_4 ⟨Nat.le_of_ble_eq_true rfl, Nat.le_of_ble_eq_true rfl⟩) hP hD hS hA [0, 1, 2, 3] [4] rfl rfl (by decide) (by decide) (fun E9 ce9 q9 H locs hx9 hE9 hP hD hS hce9 hcv9 hcl9 => ?_) (fun hx9 H locs hP hD hS => ?_)
  · have h := if_ hx9 h
    have hP : va_P D vwCl [(a_q3, .inr (7, [.long c_q3_n, c_q3_s])), (a_q0, .inr (6, [.ref a_q0_forms, .ref a_q0_roll, .ref a_q0_row, .ref a_q0_rows, .ref a_q0_factors, .ref a_q0_found, .ref a_q0_foundOtherwise, .int c_q0_acts_4, .int c_q0_refusals, .int c_q0_knocks])), (a_q0_forms, .inl (cyJ, 6, .inr (.inl f_q0_forms_4))), (a_q0_roll, .inr (3, [.ref a_q0_roll_held, .ref a_q0_roll_before, .int c_q0_roll_size])), (a_q0_roll_held, .inl (cyJ, 12, .inr (.inl f_q0_roll_held)))] H := hP
    have hD : va_D A [(a_q3, .inr (7, [.long c_q3_n, c_q3_s])), (a_q0, .inr (6, [.ref a_q0_forms, .ref a_q0_roll, .ref a_q0_row, .ref a_q0_rows, .ref a_q0_factors, .ref a_q0_found, .ref a_q0_foundOtherwise, .int c_q0_acts_4, .int c_q0_refusals, .int c_q0_knocks])), (a_q0_forms, .inl (cyJ, 6, .inr (.inl f_q0_forms_4))), (a_q0_roll, .inr (3, [.ref a_q0_roll_held, .ref a_q0_roll_before, .int c_q0_roll_size])), (a_q0_roll_held, .inl (cyJ, 12, .inr (.inl f_q0_roll_held)))] := hD
    by_cases cx0 : xc4 = 1
    · have h := it_ cx0 h
      have hE1 : E9 = "java/lang/IndexOutOfBoundsException" := by rw [hE9, cx0]; rfl
      subst hE1
      refine vx_catch (name := "java/lang/IndexOutOfBoundsException") hown (tableOf []) ⟨0, 11, 14, 19⟩ (tableOf []) hxt (fun z hz => absurd hz List.not_mem_nil) (by decide) (by decide) (hts (.classLink RL 19 "java/lang/IndexOutOfBoundsException") (by decide +kernel)) (va_Nw.use rfl (hE.2.1 (.castable "java/lang/IndexOutOfBoundsException" "java/lang/IndexOutOfBoundsException") (by decide +kernel))) hce9 hcv9 hcl9 ?_
      refine lv_astore (lv' := [(4, .ref q9), (0, .ref a_q0), (1, .int p1), (2, .int p2), (3, .ref a_q3)]) hx hb dL_take_14 hl (by decide) rfl (fun ls hl => ?_)
      refine lv_iconst (v := 1) hx hb dL_take_16 (by decide) ?_
      obtain ⟨e0, e1, e2, e3⟩ := tup4 h
      subst e0
      subst e1
      subst e2
      subst e3
      have hP9 : va_P D vwCl [(a_q0, .inr (6, [.ref a_q0_forms, .ref a_q0_roll, .ref a_q0_row, .ref a_q0_rows, .ref a_q0_factors, .ref a_q0_found, .ref a_q0_foundOtherwise, .int c_q0_acts_4, .int c_q0_refusals, .int c_q0_knocks])), (a_q0_forms, .inl (cyJ, 6, .inr (.inl f_q0_forms_4))), (a_q0_roll, .inr (3, [.ref a_q0_roll_held, .ref a_q0_roll_before, .int c_q0_roll_size])), (a_q0_roll_held, .inl (cyJ, 12, .inr (.inl f_q0_roll_held))), (a_q3, .inr (7, [.long c_q3_n, c_q3_s]))] H := hP.sub [1, 2, 3, 4, 0] rfl
      have hD9 : va_D A [(a_q0, .inr (6, [.ref a_q0_forms, .ref a_q0_roll, .ref a_q0_row, .ref a_q0_rows, .ref a_q0_factors, .ref a_q0_found, .ref a_q0_foundOtherwise, .int c_q0_acts_4, .int c_q0_refusals, .int c_q0_knocks])), (a_q0_forms, .inl (cyJ, 6, .inr (.inl f_q0_forms_4))), (a_q0_roll, .inr (3, [.ref a_q0_roll_held, .ref a_q0_roll_before, .int c_q0_roll_size])), (a_q0_roll_held, .inl (cyJ, 12, .inr (.inl f_q0_roll_held))), (a_q3, .inr (7, [.long c_q3_n, c_q3_s]))] := hD.sub [1, 2, 3, 4, 0] (by decide) rfl
      refine vx_ret ?_
      exact W.iret hx hb hr (fun t ht hW => ⟨⟨_, (), rfl, rfl, wQA_of ht hP9 hD9⟩, hS.F ht⟩) hS.2.2 dL_take_17
    have h := if_ cx0 h
    cases h
  · have h := it_ hx9 h
    have hP : va_P D vwCl [(a_q3, .inr (7, [.long c_q3_n, c_q3_s])), (a_q0, .inr (6, [.ref a_q0_forms, .ref a_q0_roll, .ref a_q0_row, .ref a_q0_rows, .ref a_q0_factors, .ref a_q0_found, .ref a_q0_foundOtherwise, .int c_q0_acts_4, .int c_q0_refusals, .int c_q0_knocks])), (a_q0_forms, .inl (cyJ, 6, .inr (.inl f_q0_forms_4))), (a_q0_roll, .inr (3, [.ref a_q0_roll_held, .ref a_q0_roll_before, .int c_q0_roll_size])), (a_q0_roll_held, .inl (cyJ, 12, .inr (.inl f_q0_roll_held)))] H := hP
    have hD : va_D A [(a_q3, .inr (7, [.long c_q3_n, c_q3_s])), (a_q0, .inr (6, [.ref a_q0_forms, .ref a_q0_roll, .ref a_q0_row, .ref a_q0_rows, .ref a_q0_factors, .ref a_q0_found, .ref a_q0_foundOtherwise, .int c_q0_acts_4, .int c_q0_refusals, .int c_q0_knocks])), (a_q0_forms, .inl (cyJ, 6, .inr (.inl f_q0_forms_4))), (a_q0_roll, .inr (3, [.ref a_q0_roll_held, .ref a_q0_roll_before, .int c_q0_roll_size])), (a_q0_roll_held, .inl (cyJ, 12, .inr (.inl f_q0_roll_held)))] := hD
    refine lv_i2l (v := r4.toInt64) hx hb dL_take_7 rfl ?_
    refine lv_topl (fun c_q3_n_8 e_c_q3_n_8 => ?_)
    have h := bnd_h e_c_q3_n_8 h
    refine va_putN (D := D) (ci := 7) (v := .long c_q3_n_8) (ty := .long) (C := RX8) (T := TX8) (N := 2) hx hb hts hinX8 tyX8 tyX8_ok nmX8 hown hK hP hD hS 0 rfl rfl 0 (by decide) hfl13 (fun _ h9 => h9) rfl (by decide +kernel) rfl rfl (Nat.le_of_ble_eq_true rfl) dL_take_8 (fun H locs hP hD hS => ?_)
    have hP : va_P D vwCl [(a_q3, .inr (7, [.long c_q3_n_8, c_q3_s])), (a_q0, .inr (6, [.ref a_q0_forms, .ref a_q0_roll, .ref a_q0_row, .ref a_q0_rows, .ref a_q0_factors, .ref a_q0_found, .ref a_q0_foundOtherwise, .int c_q0_acts_4, .int c_q0_refusals, .int c_q0_knocks])), (a_q0_forms, .inl (cyJ, 6, .inr (.inl f_q0_forms_4))), (a_q0_roll, .inr (3, [.ref a_q0_roll_held, .ref a_q0_roll_before, .int c_q0_roll_size])), (a_q0_roll_held, .inl (cyJ, 12, .inr (.inl f_q0_roll_held)))] H := hP
    have hD : va_D A [(a_q3, .inr (7, [.long c_q3_n_8, c_q3_s])), (a_q0, .inr (6, [.ref a_q0_forms, .ref a_q0_roll, .ref a_q0_row, .ref a_q0_rows, .ref a_q0_factors, .ref a_q0_found, .ref a_q0_foundOtherwise, .int c_q0_acts_4, .int c_q0_refusals, .int c_q0_knocks])), (a_q0_forms, .inl (cyJ, 6, .inr (.inl f_q0_forms_4))), (a_q0_roll, .inr (3, [.ref a_q0_roll_held, .ref a_q0_roll_before, .int c_q0_roll_size])), (a_q0_roll_held, .inl (cyJ, 12, .inr (.inl f_q0_roll_held)))] := hD
    refine lv_goto (tgt := 18) hx hb dL_take_11 (by decide) ?_
    refine lv_iconst (v := 0) hx hb dL_take_18 (by decide) ?_
    obtain ⟨e0, e1, e2, e3⟩ := tup4 h
    subst e0
    subst e1
    subst e2
    subst e3
    have hP9 : va_P D vwCl [(a_q0, .inr (6, [.ref a_q0_forms, .ref a_q0_roll, .ref a_q0_row, .ref a_q0_rows, .ref a_q0_factors, .ref a_q0_found, .ref a_q0_foundOtherwise, .int c_q0_acts_4, .int c_q0_refusals, .int c_q0_knocks])), (a_q0_forms, .inl (cyJ, 6, .inr (.inl f_q0_forms_4))), (a_q0_roll, .inr (3, [.ref a_q0_roll_held, .ref a_q0_roll_before, .int c_q0_roll_size])), (a_q0_roll_held, .inl (cyJ, 12, .inr (.inl f_q0_roll_held))), (a_q3, .inr (7, [.long c_q3_n_8, c_q3_s]))] H := hP.sub [1, 2, 3, 4, 0] rfl
    have hD9 : va_D A [(a_q0, .inr (6, [.ref a_q0_forms, .ref a_q0_roll, .ref a_q0_row, .ref a_q0_rows, .ref a_q0_factors, .ref a_q0_found, .ref a_q0_foundOtherwise, .int c_q0_acts_4, .int c_q0_refusals, .int c_q0_knocks])), (a_q0_forms, .inl (cyJ, 6, .inr (.inl f_q0_forms_4))), (a_q0_roll, .inr (3, [.ref a_q0_roll_held, .ref a_q0_roll_before, .int c_q0_roll_size])), (a_q0_roll_held, .inl (cyJ, 12, .inr (.inl f_q0_roll_held))), (a_q3, .inr (7, [.long c_q3_n_8, c_q3_s]))] := hD.sub [1, 2, 3, 4, 0] (by decide) rfl
    refine vx_ret ?_
    exact W.iret hx hb hr (fun t ht hW => ⟨⟨_, (), rfl, rfl, wQA_of ht hP9 hD9⟩, hS.F ht⟩) hS.2.2 dL_take_19

noncomputable abbrev rmL_product : Room := { frames := 10, cells := 1, slots := 6, locals := 141 }
theorem ydL_product : yL_product.cls ≠ "java/lang/invoke/MethodHandle" ∧ yL_product.cls ≠ "java/lang/invoke/VarHandle" ∧ (parseMethodDescriptor yL_product.desc).map (fun d => d.parameters.length) = some 3 := by decide +kernel
noncomputable def F_L_product (c_q0_acts : Int32) (c_q0_refusals : Int32) (f_q0_forms : Nat → Int64) (c_q0_roll_size : Int32) (f_q0_roll_held : Nat → Int64) (c_q2_n : Int64) (p1 : Int32) : Option (Int32 × Int32 × Int32 × (Nat → Int64) × Int64) :=
 obn5 (F_X7_product c_q0_acts c_q0_refusals f_q0_forms c_q0_roll_size f_q0_roll_held p1) (fun xc3 r3 c_q0_acts_3 c_q0_refusals_3 f_q0_forms_3 =>
 if xc3 = 0 then
 bnd r3.toInt64 (fun c_q2_n_7 =>
 some ((0 : Int32), c_q0_acts_3, c_q0_refusals_3, f_q0_forms_3, c_q2_n_7))
else
 (if xc3 = 1 then
 some ((1 : Int32), c_q0_acts_3, c_q0_refusals_3, f_q0_forms_3, c_q2_n)
else
 none))
set_option maxHeartbeats 4000000 in
set_option maxRecDepth 100000 in
theorem c_L_product (l : Launch) (hfl : l.stackTraces = false) (D : va_G) (cyJ : ClassId) (sz : Nat) (a_q0 : Nat) (a_q2 : Nat) (a_q0_forms : Nat) (a_q0_roll : Nat) (a_q0_row : Nat) (a_q0_rows : Nat) (a_q0_factors : Nat) (a_q0_found : Nat) (a_q0_foundOtherwise : Nat) (a_q0_roll_held : Nat) (a_q0_roll_before : Nat) (c_q0_acts : Int32) (c_q0_refusals : Int32) (c_q0_knocks : Int32) (f_q0_forms : Nat → Int64) (c_q0_roll_size : Int32) (f_q0_roll_held : Nat → Int64) (c_q2_n : Int64) (c_q2_s : Value) (p1 : Int32) (r0 : Int32) (o_c_q0_acts : Int32) (o_c_q0_refusals : Int32) (o_f_q0_forms : Nat → Int64) (o_c_q2_n : Int64) (hF : F_L_product c_q0_acts c_q0_refusals f_q0_forms c_q0_roll_size f_q0_roll_held c_q2_n p1 = some (r0, o_c_q0_acts, o_c_q0_refusals, o_f_q0_forms, o_c_q2_n)) : vx_Met l yL_product wsL_product rmL_product (va_Pc [.ref a_q0, .int p1, .ref a_q2] (wPL D [(cyJ, .long)] [(a_q0, .inr (6, [.ref a_q0_forms, .ref a_q0_roll, .ref a_q0_row, .ref a_q0_rows, .ref a_q0_factors, .ref a_q0_found, .ref a_q0_foundOtherwise, .int c_q0_acts, .int c_q0_refusals, .int c_q0_knocks])), (a_q0_forms, .inl (cyJ, 6, .inr (.inl f_q0_forms))), (a_q0_roll, .inr (3, [.ref a_q0_roll_held, .ref a_q0_roll_before, .int c_q0_roll_size])), (a_q0_roll_held, .inl (cyJ, 12, .inr (.inl f_q0_roll_held))), (a_q2, .inr (7, [.long c_q2_n, c_q2_s]))] sz)) (va_Qi (fun (r : Int32) (_ : Unit) => r = r0) (fun _ t => wQA D [(a_q0, .inr (6, [.ref a_q0_forms, .ref a_q0_roll, .ref a_q0_row, .ref a_q0_rows, .ref a_q0_factors, .ref a_q0_found, .ref a_q0_foundOtherwise, .int o_c_q0_acts, .int o_c_q0_refusals, .int c_q0_knocks])), (a_q0_forms, .inl (cyJ, 6, .inr (.inl o_f_q0_forms))), (a_q0_roll, .inr (3, [.ref a_q0_roll_held, .ref a_q0_roll_before, .int c_q0_roll_size])), (a_q0_roll_held, .inl (cyJ, 12, .inr (.inl f_q0_roll_held))), (a_q2, .inr (7, [.long o_c_q2_n, c_q2_s]))] (va_A [(a_q0, .inr (6, [.ref a_q0_forms, .ref a_q0_roll, .ref a_q0_row, .ref a_q0_rows, .ref a_q0_factors, .ref a_q0_found, .ref a_q0_foundOtherwise, .int c_q0_acts, .int c_q0_refusals, .int c_q0_knocks])), (a_q0_forms, .inl (cyJ, 6, .inr (.inl f_q0_forms))), (a_q0_roll, .inr (3, [.ref a_q0_roll_held, .ref a_q0_roll_before, .int c_q0_roll_size])), (a_q0_roll_held, .inl (cyJ, 12, .inr (.inl f_q0_roll_held))), (a_q2, .inr (7, [.long c_q2_n, c_q2_s]))] sz) t) (va_A [(a_q0, .inr (6, [.ref a_q0_forms, .ref a_q0_roll, .ref a_q0_row, .ref a_q0_rows, .ref a_q0_factors, .ref a_q0_found, .ref a_q0_foundOtherwise, .int c_q0_acts, .int c_q0_refusals, .int c_q0_knocks])), (a_q0_forms, .inl (cyJ, 6, .inr (.inl f_q0_forms))), (a_q0_roll, .inr (3, [.ref a_q0_roll_held, .ref a_q0_roll_before, .int c_q0_roll_size])), (a_q0_roll_held, .inl (cyJ, 12, .inr (.inl f_q0_roll_held))), (a_q2, .inr (7, [.long c_q2_n, c_q2_s]))] sz)) (fun _ _ _ => False) 1 6 (va_A [(a_q0, .inr (6, [.ref a_q0_forms, .ref a_q0_roll, .ref a_q0_row, .ref a_q0_rows, .ref a_q0_factors, .ref a_q0_found, .ref a_q0_foundOtherwise, .int c_q0_acts, .int c_q0_refusals, .int c_q0_knocks])), (a_q0_forms, .inl (cyJ, 6, .inr (.inl f_q0_forms))), (a_q0_roll, .inr (3, [.ref a_q0_roll_held, .ref a_q0_roll_before, .int c_q0_roll_size])), (a_q0_roll_held, .inl (cyJ, 12, .inr (.inl f_q0_roll_held))), (a_q2, .inr (7, [.long c_q2_n, c_q2_s]))] sz) := by
  refine vx_ofWH (cc := cL_product) (maxL := 4) (ret := (some .int)) (hh := [(0, 10, 13, 19)]) (by decide) rfl ?_
  intro p e s m args below meth c s₁ B hml hv
  obtain ⟨rfl, ⟨⟨hsz, hP, hK, hD0, hnw⟩, hE⟩, hNc⟩ := hv
  have hx := B.exec
  have hb := B.bytes
  have hr := B.returns
  have hts := atoms_spec (ws := wsL_product) B.pre
  have hown : s.vm.findClass RL = some m.cls := findClass_of_methodNamed B.named
  have hlocks := B.notSynchronized
  have hcf : CallFix _ _ _ _ _ _ _ _ _ := ⟨hx, hb, hml, hown, hts⟩
  have hxt : c.exceptionTable.toList = tableOf [(0, 10, 13, 19)] := vx_table (x := yL_product) B (hts _ List.mem_cons_self)
  have hinX8 : ∀ w ∈ u_ws RX8 TX8 2, w ∈ wsL_product := by decide +kernel
  have hfl13 := hnw.use (A := ([.ref a_q0, .int p1, .ref a_q2] : List Value).toArray) (w := .fieldLinkNest RL 13 "FormwheelLaw$Out" "n" "J" "FormwheelLaw") (by decide +kernel)
  subst hsz
  have hD := hD0.self (sz := s.heap.size)
  generalize hAe : va_A [(a_q0, .inr (6, [.ref a_q0_forms, .ref a_q0_roll, .ref a_q0_row, .ref a_q0_rows, .ref a_q0_factors, .ref a_q0_found, .ref a_q0_foundOtherwise, .int c_q0_acts, .int c_q0_refusals, .int c_q0_knocks])), (a_q0_forms, .inl (cyJ, 6, .inr (.inl f_q0_forms))), (a_q0_roll, .inr (3, [.ref a_q0_roll_held, .ref a_q0_roll_before, .int c_q0_roll_size])), (a_q0_roll_held, .inl (cyJ, 12, .inr (.inl f_q0_roll_held))), (a_q2, .inr (7, [.long c_q2_n, c_q2_s]))] s.heap.size = A at hD hE ⊢
  have hA : ∀ q : Nat, s.heap.size ≤ q → A q := fun q h => by rw [← hAe]; exact Or.inr h
  have hS : va_S A s.heap s.heap [] := va_S.rf
  have hP : va_P D vwCl [(a_q0, .inr (6, [.ref a_q0_forms, .ref a_q0_roll, .ref a_q0_row, .ref a_q0_rows, .ref a_q0_factors, .ref a_q0_found, .ref a_q0_foundOtherwise, .int c_q0_acts, .int c_q0_refusals, .int c_q0_knocks])), (a_q0_forms, .inl (cyJ, 6, .inr (.inl f_q0_forms))), (a_q0_roll, .inr (3, [.ref a_q0_roll_held, .ref a_q0_roll_before, .int c_q0_roll_size])), (a_q0_roll_held, .inl (cyJ, 12, .inr (.inl f_q0_roll_held))), (a_q2, .inr (7, [.long c_q2_n, c_q2_s]))] s.heap := hP
  have hK0 := hK
  have hl := lv_entry ([.ref a_q0, .int p1, .ref a_q2]) (n := 4) (Nat.le_of_ble_eq_true rfl)
  rw [lg_entry_eq]
  generalize (lg_sl ([.ref a_q0, .int p1, .ref a_q2]) ++ List.replicate (4 - (lg_sl ([.ref a_q0, .int p1, .ref a_q2])).length) Slot.unset).toArray = ls at hl ⊢
  have hl : lv_has ls 4 [(0, .ref a_q0), (1, .int p1), (2, .ref a_q2)] := hl
  have h := hF
  clear hF
  unfold F_L_product at h
  refine lv_aload_n hx hb dL_product_0 rfl (lv_at hl 2 rfl) ?_
  refine lv_aload_n hx hb dL_product_1 rfl (lv_at hl 0 rfl) ?_
  refine lv_iload_n hx hb dL_product_2 rfl (lv_at hl 1 rfl) ?_
  obtain ⟨xc3, r3, c_q0_acts_3, c_q0_refusals_3, f_q0_forms_3, hc3, h⟩ := obn5_h h
  have hPc := hP.sub (ws' := [(a_q0, .inr (6, [.ref a_q0_forms, .ref a_q0_roll, .ref a_q0_row, .ref a_q0_rows, .ref a_q0_factors, .ref a_q0_found, .ref a_q0_foundOtherwise, .int c_q0_acts, .int c_q0_refusals, .int c_q0_knocks])), (a_q0_forms, .inl (cyJ, 6, .inr (.inl f_q0_forms))), (a_q0_roll, .inr (3, [.ref a_q0_roll_held, .ref a_q0_roll_before, .int c_q0_roll_size])), (a_q0_roll_held, .inl (cyJ, 12, .inr (.inl f_q0_roll_held)))]) [0, 1, 2, 3] rfl
  have hDc := hD.sub (ws' := [(a_q0, .inr (6, [.ref a_q0_forms, .ref a_q0_roll, .ref a_q0_row, .ref a_q0_rows, .ref a_q0_factors, .ref a_q0_found, .ref a_q0_foundOtherwise, .int c_q0_acts, .int c_q0_refusals, .int c_q0_knocks])), (a_q0_forms, .inl (cyJ, 6, .inr (.inl f_q0_forms))), (a_q0_roll, .inr (3, [.ref a_q0_roll_held, .ref a_q0_roll_before, .int c_q0_roll_size])), (a_q0_roll_held, .inl (cyJ, 12, .inr (.inl f_q0_roll_held)))]) [0, 1, 2, 3] (by decide) rfl
  refine hx_i (w1 := [(a_q0, .inr (6, [.ref a_q0_forms, .ref a_q0_roll, .ref a_q0_row, .ref a_q0_rows, .ref a_q0_factors, .ref a_q0_found, .ref a_q0_foundOtherwise, .int c_q0_acts_3, .int c_q0_refusals_3, .int c_q0_knocks])), (a_q0_forms, .inl (cyJ, 6, .inr (.inl f_q0_forms_3))), (a_q0_roll, .inr (3, [.ref a_q0_roll_held, .ref a_q0_roll_before, .int c_q0_roll_size])), (a_q0_roll_held, .inl (cyJ, 12, .inr (.inl f_q0_roll_held)))]) (wr := [(a_q2, .inr (7, [.long c_q2_n, c_q2_s]))]) (vx_runV (As := [.int p1]) (rest := [.ref a_q2]) hcf (c_X7_product l hfl D cyJ s.heap.size a_q0 a_q0_forms a_q0_roll a_q0_row a_q0_rows a_q0_factors a_q0_found a_q0_foundOtherwise a_q0_roll_held a_q0_roll_before c_q0_acts c_q0_refusals c_q0_knocks f_q0_forms c_q0_roll_size f_q0_roll_held p1 xc3 r3 c_q0_acts_3 c_q0_refusals_3 f_q0_forms_3 hc3) (cwV 1 hts gL_product_X7_product rfl rfl rfl ydX7_product ⟨Nat.le_of_ble_eq_true rfl, Nat.le_of_ble_eq_true rfl⟩) ⟨bl_PX, va_recv hK hP (ci := 6) (q0 := 0) rfl rfl, pr_PX hPc hK0 hDc hnw hE hS (va_free hD hS hA [0, 1, 2, 3] rfl)⟩ rfl rfl hl.1 rfl (lv_room (Nat.le_of_ble_eq_true rfl)) dL_product_3 ⟨Nat.le_of_ble_eq_true rfl, Nat.le_of_ble_eq_true rfl⟩) hP hD hS hA [0, 1, 2, 3] [4] rfl rfl (by decide) (by decide) (fun E9 ce9 q9 H locs hx9 hE9 hP hD hS hce9 hcv9 hcl9 => ?_) (fun hx9 H locs hP hD hS => ?_)
  · have h := if_ hx9 h
    have hP : va_P D vwCl [(a_q2, .inr (7, [.long c_q2_n, c_q2_s])), (a_q0, .inr (6, [.ref a_q0_forms, .ref a_q0_roll, .ref a_q0_row, .ref a_q0_rows, .ref a_q0_factors, .ref a_q0_found, .ref a_q0_foundOtherwise, .int c_q0_acts_3, .int c_q0_refusals_3, .int c_q0_knocks])), (a_q0_forms, .inl (cyJ, 6, .inr (.inl f_q0_forms_3))), (a_q0_roll, .inr (3, [.ref a_q0_roll_held, .ref a_q0_roll_before, .int c_q0_roll_size])), (a_q0_roll_held, .inl (cyJ, 12, .inr (.inl f_q0_roll_held)))] H := hP
    have hD : va_D A [(a_q2, .inr (7, [.long c_q2_n, c_q2_s])), (a_q0, .inr (6, [.ref a_q0_forms, .ref a_q0_roll, .ref a_q0_row, .ref a_q0_rows, .ref a_q0_factors, .ref a_q0_found, .ref a_q0_foundOtherwise, .int c_q0_acts_3, .int c_q0_refusals_3, .int c_q0_knocks])), (a_q0_forms, .inl (cyJ, 6, .inr (.inl f_q0_forms_3))), (a_q0_roll, .inr (3, [.ref a_q0_roll_held, .ref a_q0_roll_before, .int c_q0_roll_size])), (a_q0_roll_held, .inl (cyJ, 12, .inr (.inl f_q0_roll_held)))] := hD
    by_cases cx0 : xc3 = 1
    · have h := it_ cx0 h
      have hE1 : E9 = "java/lang/IndexOutOfBoundsException" := by rw [hE9, cx0]; rfl
      subst hE1
      refine vx_catch (name := "java/lang/IndexOutOfBoundsException") hown (tableOf []) ⟨0, 10, 13, 19⟩ (tableOf []) hxt (fun z hz => absurd hz List.not_mem_nil) (by decide) (by decide) (hts (.classLink RL 19 "java/lang/IndexOutOfBoundsException") (by decide +kernel)) (va_Nw.use rfl (hE.2.1 (.castable "java/lang/IndexOutOfBoundsException" "java/lang/IndexOutOfBoundsException") (by decide +kernel))) hce9 hcv9 hcl9 ?_
      refine lv_astore_n (lv' := [(3, .ref q9), (0, .ref a_q0), (1, .int p1), (2, .ref a_q2)]) hx hb dL_product_13 rfl hl (by decide) rfl (fun ls hl => ?_)
      refine lv_iconst (v := 1) hx hb dL_product_14 (by decide) ?_
      obtain ⟨e0, e1, e2, e3, e4⟩ := tup5 h
      subst e0
      subst e1
      subst e2
      subst e3
      subst e4
      have hP9 : va_P D vwCl [(a_q0, .inr (6, [.ref a_q0_forms, .ref a_q0_roll, .ref a_q0_row, .ref a_q0_rows, .ref a_q0_factors, .ref a_q0_found, .ref a_q0_foundOtherwise, .int c_q0_acts_3, .int c_q0_refusals_3, .int c_q0_knocks])), (a_q0_forms, .inl (cyJ, 6, .inr (.inl f_q0_forms_3))), (a_q0_roll, .inr (3, [.ref a_q0_roll_held, .ref a_q0_roll_before, .int c_q0_roll_size])), (a_q0_roll_held, .inl (cyJ, 12, .inr (.inl f_q0_roll_held))), (a_q2, .inr (7, [.long c_q2_n, c_q2_s]))] H := hP.sub [1, 2, 3, 4, 0] rfl
      have hD9 : va_D A [(a_q0, .inr (6, [.ref a_q0_forms, .ref a_q0_roll, .ref a_q0_row, .ref a_q0_rows, .ref a_q0_factors, .ref a_q0_found, .ref a_q0_foundOtherwise, .int c_q0_acts_3, .int c_q0_refusals_3, .int c_q0_knocks])), (a_q0_forms, .inl (cyJ, 6, .inr (.inl f_q0_forms_3))), (a_q0_roll, .inr (3, [.ref a_q0_roll_held, .ref a_q0_roll_before, .int c_q0_roll_size])), (a_q0_roll_held, .inl (cyJ, 12, .inr (.inl f_q0_roll_held))), (a_q2, .inr (7, [.long c_q2_n, c_q2_s]))] := hD.sub [1, 2, 3, 4, 0] (by decide) rfl
      refine vx_ret ?_
      exact W.iret hx hb hr (fun t ht hW => ⟨⟨_, (), rfl, rfl, wQA_of ht hP9 hD9⟩, hS.F ht⟩) hS.2.2 dL_product_15
    have h := if_ cx0 h
    cases h
  · have h := it_ hx9 h
    have hP : va_P D vwCl [(a_q2, .inr (7, [.long c_q2_n, c_q2_s])), (a_q0, .inr (6, [.ref a_q0_forms, .ref a_q0_roll, .ref a_q0_row, .ref a_q0_rows, .ref a_q0_factors, .ref a_q0_found, .ref a_q0_foundOtherwise, .int c_q0_acts_3, .int c_q0_refusals_3, .int c_q0_knocks])), (a_q0_forms, .inl (cyJ, 6, .inr (.inl f_q0_forms_3))), (a_q0_roll, .inr (3, [.ref a_q0_roll_held, .ref a_q0_roll_before, .int c_q0_roll_size])), (a_q0_roll_held, .inl (cyJ, 12, .inr (.inl f_q0_roll_held)))] H := hP
    have hD : va_D A [(a_q2, .inr (7, [.long c_q2_n, c_q2_s])), (a_q0, .inr (6, [.ref a_q0_forms, .ref a_q0_roll, .ref a_q0_row, .ref a_q0_rows, .ref a_q0_factors, .ref a_q0_found, .ref a_q0_foundOtherwise, .int c_q0_acts_3, .int c_q0_refusals_3, .int c_q0_knocks])), (a_q0_forms, .inl (cyJ, 6, .inr (.inl f_q0_forms_3))), (a_q0_roll, .inr (3, [.ref a_q0_roll_held, .ref a_q0_roll_before, .int c_q0_roll_size])), (a_q0_roll_held, .inl (cyJ, 12, .inr (.inl f_q0_roll_held)))] := hD
    refine lv_i2l (v := r3.toInt64) hx hb dL_product_6 rfl ?_
    refine lv_topl (fun c_q2_n_7 e_c_q2_n_7 => ?_)
    have h := bnd_h e_c_q2_n_7 h
    refine va_putN (D := D) (ci := 7) (v := .long c_q2_n_7) (ty := .long) (C := RX8) (T := TX8) (N := 2) hx hb hts hinX8 tyX8 tyX8_ok nmX8 hown hK hP hD hS 0 rfl rfl 0 (by decide) hfl13 (fun _ h9 => h9) rfl (by decide +kernel) rfl rfl (Nat.le_of_ble_eq_true rfl) dL_product_7 (fun H locs hP hD hS => ?_)
    have hP : va_P D vwCl [(a_q2, .inr (7, [.long c_q2_n_7, c_q2_s])), (a_q0, .inr (6, [.ref a_q0_forms, .ref a_q0_roll, .ref a_q0_row, .ref a_q0_rows, .ref a_q0_factors, .ref a_q0_found, .ref a_q0_foundOtherwise, .int c_q0_acts_3, .int c_q0_refusals_3, .int c_q0_knocks])), (a_q0_forms, .inl (cyJ, 6, .inr (.inl f_q0_forms_3))), (a_q0_roll, .inr (3, [.ref a_q0_roll_held, .ref a_q0_roll_before, .int c_q0_roll_size])), (a_q0_roll_held, .inl (cyJ, 12, .inr (.inl f_q0_roll_held)))] H := hP
    have hD : va_D A [(a_q2, .inr (7, [.long c_q2_n_7, c_q2_s])), (a_q0, .inr (6, [.ref a_q0_forms, .ref a_q0_roll, .ref a_q0_row, .ref a_q0_rows, .ref a_q0_factors, .ref a_q0_found, .ref a_q0_foundOtherwise, .int c_q0_acts_3, .int c_q0_refusals_3, .int c_q0_knocks])), (a_q0_forms, .inl (cyJ, 6, .inr (.inl f_q0_forms_3))), (a_q0_roll, .inr (3, [.ref a_q0_roll_held, .ref a_q0_roll_before, .int c_q0_roll_size])), (a_q0_roll_held, .inl (cyJ, 12, .inr (.inl f_q0_roll_held)))] := hD
    refine lv_goto (tgt := 16) hx hb dL_product_10 (by decide) ?_
    refine lv_iconst (v := 0) hx hb dL_product_16 (by decide) ?_
    obtain ⟨e0, e1, e2, e3, e4⟩ := tup5 h
    subst e0
    subst e1
    subst e2
    subst e3
    subst e4
    have hP9 : va_P D vwCl [(a_q0, .inr (6, [.ref a_q0_forms, .ref a_q0_roll, .ref a_q0_row, .ref a_q0_rows, .ref a_q0_factors, .ref a_q0_found, .ref a_q0_foundOtherwise, .int c_q0_acts_3, .int c_q0_refusals_3, .int c_q0_knocks])), (a_q0_forms, .inl (cyJ, 6, .inr (.inl f_q0_forms_3))), (a_q0_roll, .inr (3, [.ref a_q0_roll_held, .ref a_q0_roll_before, .int c_q0_roll_size])), (a_q0_roll_held, .inl (cyJ, 12, .inr (.inl f_q0_roll_held))), (a_q2, .inr (7, [.long c_q2_n_7, c_q2_s]))] H := hP.sub [1, 2, 3, 4, 0] rfl
    have hD9 : va_D A [(a_q0, .inr (6, [.ref a_q0_forms, .ref a_q0_roll, .ref a_q0_row, .ref a_q0_rows, .ref a_q0_factors, .ref a_q0_found, .ref a_q0_foundOtherwise, .int c_q0_acts_3, .int c_q0_refusals_3, .int c_q0_knocks])), (a_q0_forms, .inl (cyJ, 6, .inr (.inl f_q0_forms_3))), (a_q0_roll, .inr (3, [.ref a_q0_roll_held, .ref a_q0_roll_before, .int c_q0_roll_size])), (a_q0_roll_held, .inl (cyJ, 12, .inr (.inl f_q0_roll_held))), (a_q2, .inr (7, [.long c_q2_n_7, c_q2_s]))] := hD.sub [1, 2, 3, 4, 0] (by decide) rfl
    refine vx_ret ?_
    exact W.iret hx hb hr (fun t ht hW => ⟨⟨_, (), rfl, rfl, wQA_of ht hP9 hD9⟩, hS.F ht⟩) hS.2.2 dL_product_17

noncomputable abbrev rmL_start : Room := { frames := 10, cells := 1, slots := 6, locals := 141 }
theorem ydL_start : yL_start.cls ≠ "java/lang/invoke/MethodHandle" ∧ yL_start.cls ≠ "java/lang/invoke/VarHandle" ∧ (parseMethodDescriptor yL_start.desc).map (fun d => d.parameters.length) = some 3 := by decide +kernel
noncomputable def F_L_start (c_q0_acts : Int32) (c_q0_refusals : Int32) (f_q0_forms : Nat → Int64) (c_q0_row_taps : Int64) (c_q0_row_cells : Int64) (c_q2_n : Int64) (p1 : Int32) : Option (Int32 × Int32 × Int32 × Int64 × Int64 × Int64) :=
 obn6 (F_X7_start c_q0_acts c_q0_refusals f_q0_forms c_q0_row_taps c_q0_row_cells p1) (fun xc3 r3 c_q0_acts_3 c_q0_refusals_3 c_q0_row_taps_3 c_q0_row_cells_3 =>
 if xc3 = 0 then
 bnd r3.toInt64 (fun c_q2_n_7 =>
 some ((0 : Int32), c_q0_acts_3, c_q0_refusals_3, c_q0_row_taps_3, c_q0_row_cells_3, c_q2_n_7))
else
 (if xc3 = 1 then
 some ((1 : Int32), c_q0_acts_3, c_q0_refusals_3, c_q0_row_taps_3, c_q0_row_cells_3, c_q2_n)
else
 none))
set_option maxHeartbeats 4000000 in
set_option maxRecDepth 100000 in
theorem c_L_start (l : Launch) (hfl : l.stackTraces = false) (D : va_G) (cyJ : ClassId) (sz : Nat) (a_q0 : Nat) (a_q2 : Nat) (a_q0_forms : Nat) (a_q0_roll : Nat) (a_q0_row : Nat) (a_q0_rows : Nat) (a_q0_factors : Nat) (a_q0_found : Nat) (a_q0_foundOtherwise : Nat) (c_q0_acts : Int32) (c_q0_refusals : Int32) (c_q0_knocks : Int32) (f_q0_forms : Nat → Int64) (c_q0_row_taps : Int64) (c_q0_row_cells : Int64) (c_q2_n : Int64) (c_q2_s : Value) (p1 : Int32) (r0 : Int32) (o_c_q0_acts : Int32) (o_c_q0_refusals : Int32) (o_c_q0_row_taps : Int64) (o_c_q0_row_cells : Int64) (o_c_q2_n : Int64) (hF : F_L_start c_q0_acts c_q0_refusals f_q0_forms c_q0_row_taps c_q0_row_cells c_q2_n p1 = some (r0, o_c_q0_acts, o_c_q0_refusals, o_c_q0_row_taps, o_c_q0_row_cells, o_c_q2_n)) : vx_Met l yL_start wsL_start rmL_start (va_Pc [.ref a_q0, .int p1, .ref a_q2] (wPL D [(cyJ, .long)] [(a_q0, .inr (6, [.ref a_q0_forms, .ref a_q0_roll, .ref a_q0_row, .ref a_q0_rows, .ref a_q0_factors, .ref a_q0_found, .ref a_q0_foundOtherwise, .int c_q0_acts, .int c_q0_refusals, .int c_q0_knocks])), (a_q0_forms, .inl (cyJ, 6, .inr (.inl f_q0_forms))), (a_q0_row, .inr (5, [.long c_q0_row_taps, .long c_q0_row_cells])), (a_q2, .inr (7, [.long c_q2_n, c_q2_s]))] sz)) (va_Qi (fun (r : Int32) (_ : Unit) => r = r0) (fun _ t => wQA D [(a_q0, .inr (6, [.ref a_q0_forms, .ref a_q0_roll, .ref a_q0_row, .ref a_q0_rows, .ref a_q0_factors, .ref a_q0_found, .ref a_q0_foundOtherwise, .int o_c_q0_acts, .int o_c_q0_refusals, .int c_q0_knocks])), (a_q0_forms, .inl (cyJ, 6, .inr (.inl f_q0_forms))), (a_q0_row, .inr (5, [.long o_c_q0_row_taps, .long o_c_q0_row_cells])), (a_q2, .inr (7, [.long o_c_q2_n, c_q2_s]))] (va_A [(a_q0, .inr (6, [.ref a_q0_forms, .ref a_q0_roll, .ref a_q0_row, .ref a_q0_rows, .ref a_q0_factors, .ref a_q0_found, .ref a_q0_foundOtherwise, .int c_q0_acts, .int c_q0_refusals, .int c_q0_knocks])), (a_q0_forms, .inl (cyJ, 6, .inr (.inl f_q0_forms))), (a_q0_row, .inr (5, [.long c_q0_row_taps, .long c_q0_row_cells])), (a_q2, .inr (7, [.long c_q2_n, c_q2_s]))] sz) t) (va_A [(a_q0, .inr (6, [.ref a_q0_forms, .ref a_q0_roll, .ref a_q0_row, .ref a_q0_rows, .ref a_q0_factors, .ref a_q0_found, .ref a_q0_foundOtherwise, .int c_q0_acts, .int c_q0_refusals, .int c_q0_knocks])), (a_q0_forms, .inl (cyJ, 6, .inr (.inl f_q0_forms))), (a_q0_row, .inr (5, [.long c_q0_row_taps, .long c_q0_row_cells])), (a_q2, .inr (7, [.long c_q2_n, c_q2_s]))] sz)) (fun _ _ _ => False) 1 6 (va_A [(a_q0, .inr (6, [.ref a_q0_forms, .ref a_q0_roll, .ref a_q0_row, .ref a_q0_rows, .ref a_q0_factors, .ref a_q0_found, .ref a_q0_foundOtherwise, .int c_q0_acts, .int c_q0_refusals, .int c_q0_knocks])), (a_q0_forms, .inl (cyJ, 6, .inr (.inl f_q0_forms))), (a_q0_row, .inr (5, [.long c_q0_row_taps, .long c_q0_row_cells])), (a_q2, .inr (7, [.long c_q2_n, c_q2_s]))] sz) := by
  refine vx_ofWH (cc := cL_start) (maxL := 4) (ret := (some .int)) (hh := [(0, 10, 13, 19)]) (by decide) rfl ?_
  intro p e s m args below meth c s₁ B hml hv
  obtain ⟨rfl, ⟨⟨hsz, hP, hK, hD0, hnw⟩, hE⟩, hNc⟩ := hv
  have hx := B.exec
  have hb := B.bytes
  have hr := B.returns
  have hts := atoms_spec (ws := wsL_start) B.pre
  have hown : s.vm.findClass RL = some m.cls := findClass_of_methodNamed B.named
  have hlocks := B.notSynchronized
  have hcf : CallFix _ _ _ _ _ _ _ _ _ := ⟨hx, hb, hml, hown, hts⟩
  have hxt : c.exceptionTable.toList = tableOf [(0, 10, 13, 19)] := vx_table (x := yL_start) B (hts _ List.mem_cons_self)
  have hinX8 : ∀ w ∈ u_ws RX8 TX8 2, w ∈ wsL_start := by decide +kernel
  have hfl13 := hnw.use (A := ([.ref a_q0, .int p1, .ref a_q2] : List Value).toArray) (w := .fieldLinkNest RL 13 "FormwheelLaw$Out" "n" "J" "FormwheelLaw") (by decide +kernel)
  subst hsz
  have hD := hD0.self (sz := s.heap.size)
  generalize hAe : va_A [(a_q0, .inr (6, [.ref a_q0_forms, .ref a_q0_roll, .ref a_q0_row, .ref a_q0_rows, .ref a_q0_factors, .ref a_q0_found, .ref a_q0_foundOtherwise, .int c_q0_acts, .int c_q0_refusals, .int c_q0_knocks])), (a_q0_forms, .inl (cyJ, 6, .inr (.inl f_q0_forms))), (a_q0_row, .inr (5, [.long c_q0_row_taps, .long c_q0_row_cells])), (a_q2, .inr (7, [.long c_q2_n, c_q2_s]))] s.heap.size = A at hD hE ⊢
  have hA : ∀ q : Nat, s.heap.size ≤ q → A q := fun q h => by rw [← hAe]; exact Or.inr h
  have hS : va_S A s.heap s.heap [] := va_S.rf
  have hP : va_P D vwCl [(a_q0, .inr (6, [.ref a_q0_forms, .ref a_q0_roll, .ref a_q0_row, .ref a_q0_rows, .ref a_q0_factors, .ref a_q0_found, .ref a_q0_foundOtherwise, .int c_q0_acts, .int c_q0_refusals, .int c_q0_knocks])), (a_q0_forms, .inl (cyJ, 6, .inr (.inl f_q0_forms))), (a_q0_row, .inr (5, [.long c_q0_row_taps, .long c_q0_row_cells])), (a_q2, .inr (7, [.long c_q2_n, c_q2_s]))] s.heap := hP
  have hK0 := hK
  have hl := lv_entry ([.ref a_q0, .int p1, .ref a_q2]) (n := 4) (Nat.le_of_ble_eq_true rfl)
  rw [lg_entry_eq]
  generalize (lg_sl ([.ref a_q0, .int p1, .ref a_q2]) ++ List.replicate (4 - (lg_sl ([.ref a_q0, .int p1, .ref a_q2])).length) Slot.unset).toArray = ls at hl ⊢
  have hl : lv_has ls 4 [(0, .ref a_q0), (1, .int p1), (2, .ref a_q2)] := hl
  have h := hF
  clear hF
  unfold F_L_start at h
  refine lv_aload_n hx hb dL_start_0 rfl (lv_at hl 2 rfl) ?_
  refine lv_aload_n hx hb dL_start_1 rfl (lv_at hl 0 rfl) ?_
  refine lv_iload_n hx hb dL_start_2 rfl (lv_at hl 1 rfl) ?_
  obtain ⟨xc3, r3, c_q0_acts_3, c_q0_refusals_3, c_q0_row_taps_3, c_q0_row_cells_3, hc3, h⟩ := obn6_h h
  have hPc := hP.sub (ws' := [(a_q0, .inr (6, [.ref a_q0_forms, .ref a_q0_roll, .ref a_q0_row, .ref a_q0_rows, .ref a_q0_factors, .ref a_q0_found, .ref a_q0_foundOtherwise, .int c_q0_acts, .int c_q0_refusals, .int c_q0_knocks])), (a_q0_forms, .inl (cyJ, 6, .inr (.inl f_q0_forms))), (a_q0_row, .inr (5, [.long c_q0_row_taps, .long c_q0_row_cells]))]) [0, 1, 2] rfl
  have hDc := hD.sub (ws' := [(a_q0, .inr (6, [.ref a_q0_forms, .ref a_q0_roll, .ref a_q0_row, .ref a_q0_rows, .ref a_q0_factors, .ref a_q0_found, .ref a_q0_foundOtherwise, .int c_q0_acts, .int c_q0_refusals, .int c_q0_knocks])), (a_q0_forms, .inl (cyJ, 6, .inr (.inl f_q0_forms))), (a_q0_row, .inr (5, [.long c_q0_row_taps, .long c_q0_row_cells]))]) [0, 1, 2] (by decide) rfl
  refine hx_i (w1 := [(a_q0, .inr (6, [.ref a_q0_forms, .ref a_q0_roll, .ref a_q0_row, .ref a_q0_rows, .ref a_q0_factors, .ref a_q0_found, .ref a_q0_foundOtherwise, .int c_q0_acts_3, .int c_q0_refusals_3, .int c_q0_knocks])), (a_q0_forms, .inl (cyJ, 6, .inr (.inl f_q0_forms))), (a_q0_row, .inr (5, [.long c_q0_row_taps_3, .long c_q0_row_cells_3]))]) (wr := [(a_q2, .inr (7, [.long c_q2_n, c_q2_s]))]) (vx_runV (As := [.int p1]) (rest := [.ref a_q2]) hcf (c_X7_start l hfl D cyJ s.heap.size a_q0 a_q0_forms a_q0_roll a_q0_row a_q0_rows a_q0_factors a_q0_found a_q0_foundOtherwise c_q0_acts c_q0_refusals c_q0_knocks f_q0_forms c_q0_row_taps c_q0_row_cells p1 xc3 r3 c_q0_acts_3 c_q0_refusals_3 c_q0_row_taps_3 c_q0_row_cells_3 hc3) (cwV 1 hts gL_start_X7_start rfl rfl rfl ydX7_start ⟨Nat.le_of_ble_eq_true rfl, Nat.le_of_ble_eq_true rfl⟩) ⟨bl_PX, va_recv hK hP (ci := 6) (q0 := 0) rfl rfl, pr_PX hPc hK0 hDc hnw hE hS (va_free hD hS hA [0, 1, 2] rfl)⟩ rfl rfl hl.1 rfl (lv_room (Nat.le_of_ble_eq_true rfl)) dL_start_3 ⟨Nat.le_of_ble_eq_true rfl, Nat.le_of_ble_eq_true rfl⟩) hP hD hS hA [0, 1, 2] [3] rfl rfl (by decide) (by decide) (fun E9 ce9 q9 H locs hx9 hE9 hP hD hS hce9 hcv9 hcl9 => ?_) (fun hx9 H locs hP hD hS => ?_)
  · have h := if_ hx9 h
    have hP : va_P D vwCl [(a_q2, .inr (7, [.long c_q2_n, c_q2_s])), (a_q0, .inr (6, [.ref a_q0_forms, .ref a_q0_roll, .ref a_q0_row, .ref a_q0_rows, .ref a_q0_factors, .ref a_q0_found, .ref a_q0_foundOtherwise, .int c_q0_acts_3, .int c_q0_refusals_3, .int c_q0_knocks])), (a_q0_forms, .inl (cyJ, 6, .inr (.inl f_q0_forms))), (a_q0_row, .inr (5, [.long c_q0_row_taps_3, .long c_q0_row_cells_3]))] H := hP
    have hD : va_D A [(a_q2, .inr (7, [.long c_q2_n, c_q2_s])), (a_q0, .inr (6, [.ref a_q0_forms, .ref a_q0_roll, .ref a_q0_row, .ref a_q0_rows, .ref a_q0_factors, .ref a_q0_found, .ref a_q0_foundOtherwise, .int c_q0_acts_3, .int c_q0_refusals_3, .int c_q0_knocks])), (a_q0_forms, .inl (cyJ, 6, .inr (.inl f_q0_forms))), (a_q0_row, .inr (5, [.long c_q0_row_taps_3, .long c_q0_row_cells_3]))] := hD
    by_cases cx0 : xc3 = 1
    · have h := it_ cx0 h
      have hE1 : E9 = "java/lang/IndexOutOfBoundsException" := by rw [hE9, cx0]; rfl
      subst hE1
      refine vx_catch (name := "java/lang/IndexOutOfBoundsException") hown (tableOf []) ⟨0, 10, 13, 19⟩ (tableOf []) hxt (fun z hz => absurd hz List.not_mem_nil) (by decide) (by decide) (hts (.classLink RL 19 "java/lang/IndexOutOfBoundsException") (by decide +kernel)) (va_Nw.use rfl (hE.2.1 (.castable "java/lang/IndexOutOfBoundsException" "java/lang/IndexOutOfBoundsException") (by decide +kernel))) hce9 hcv9 hcl9 ?_
      refine lv_astore_n (lv' := [(3, .ref q9), (0, .ref a_q0), (1, .int p1), (2, .ref a_q2)]) hx hb dL_start_13 rfl hl (by decide) rfl (fun ls hl => ?_)
      refine lv_iconst (v := 1) hx hb dL_start_14 (by decide) ?_
      obtain ⟨e0, e1, e2, e3, e4, e5⟩ := tup6 h
      subst e0
      subst e1
      subst e2
      subst e3
      subst e4
      subst e5
      have hP9 : va_P D vwCl [(a_q0, .inr (6, [.ref a_q0_forms, .ref a_q0_roll, .ref a_q0_row, .ref a_q0_rows, .ref a_q0_factors, .ref a_q0_found, .ref a_q0_foundOtherwise, .int c_q0_acts_3, .int c_q0_refusals_3, .int c_q0_knocks])), (a_q0_forms, .inl (cyJ, 6, .inr (.inl f_q0_forms))), (a_q0_row, .inr (5, [.long c_q0_row_taps_3, .long c_q0_row_cells_3])), (a_q2, .inr (7, [.long c_q2_n, c_q2_s]))] H := hP.sub [1, 2, 3, 0] rfl
      have hD9 : va_D A [(a_q0, .inr (6, [.ref a_q0_forms, .ref a_q0_roll, .ref a_q0_row, .ref a_q0_rows, .ref a_q0_factors, .ref a_q0_found, .ref a_q0_foundOtherwise, .int c_q0_acts_3, .int c_q0_refusals_3, .int c_q0_knocks])), (a_q0_forms, .inl (cyJ, 6, .inr (.inl f_q0_forms))), (a_q0_row, .inr (5, [.long c_q0_row_taps_3, .long c_q0_row_cells_3])), (a_q2, .inr (7, [.long c_q2_n, c_q2_s]))] := hD.sub [1, 2, 3, 0] (by decide) rfl
      refine vx_ret ?_
      exact W.iret hx hb hr (fun t ht hW => ⟨⟨_, (), rfl, rfl, wQA_of ht hP9 hD9⟩, hS.F ht⟩) hS.2.2 dL_start_15
    have h := if_ cx0 h
    cases h
  · have h := it_ hx9 h
    have hP : va_P D vwCl [(a_q2, .inr (7, [.long c_q2_n, c_q2_s])), (a_q0, .inr (6, [.ref a_q0_forms, .ref a_q0_roll, .ref a_q0_row, .ref a_q0_rows, .ref a_q0_factors, .ref a_q0_found, .ref a_q0_foundOtherwise, .int c_q0_acts_3, .int c_q0_refusals_3, .int c_q0_knocks])), (a_q0_forms, .inl (cyJ, 6, .inr (.inl f_q0_forms))), (a_q0_row, .inr (5, [.long c_q0_row_taps_3, .long c_q0_row_cells_3]))] H := hP
    have hD : va_D A [(a_q2, .inr (7, [.long c_q2_n, c_q2_s])), (a_q0, .inr (6, [.ref a_q0_forms, .ref a_q0_roll, .ref a_q0_row, .ref a_q0_rows, .ref a_q0_factors, .ref a_q0_found, .ref a_q0_foundOtherwise, .int c_q0_acts_3, .int c_q0_refusals_3, .int c_q0_knocks])), (a_q0_forms, .inl (cyJ, 6, .inr (.inl f_q0_forms))), (a_q0_row, .inr (5, [.long c_q0_row_taps_3, .long c_q0_row_cells_3]))] := hD
    refine lv_i2l (v := r3.toInt64) hx hb dL_start_6 rfl ?_
    refine lv_topl (fun c_q2_n_7 e_c_q2_n_7 => ?_)
    have h := bnd_h e_c_q2_n_7 h
    refine va_putN (D := D) (ci := 7) (v := .long c_q2_n_7) (ty := .long) (C := RX8) (T := TX8) (N := 2) hx hb hts hinX8 tyX8 tyX8_ok nmX8 hown hK hP hD hS 0 rfl rfl 0 (by decide) hfl13 (fun _ h9 => h9) rfl (by decide +kernel) rfl rfl (Nat.le_of_ble_eq_true rfl) dL_start_7 (fun H locs hP hD hS => ?_)
    have hP : va_P D vwCl [(a_q2, .inr (7, [.long c_q2_n_7, c_q2_s])), (a_q0, .inr (6, [.ref a_q0_forms, .ref a_q0_roll, .ref a_q0_row, .ref a_q0_rows, .ref a_q0_factors, .ref a_q0_found, .ref a_q0_foundOtherwise, .int c_q0_acts_3, .int c_q0_refusals_3, .int c_q0_knocks])), (a_q0_forms, .inl (cyJ, 6, .inr (.inl f_q0_forms))), (a_q0_row, .inr (5, [.long c_q0_row_taps_3, .long c_q0_row_cells_3]))] H := hP
    have hD : va_D A [(a_q2, .inr (7, [.long c_q2_n_7, c_q2_s])), (a_q0, .inr (6, [.ref a_q0_forms, .ref a_q0_roll, .ref a_q0_row, .ref a_q0_rows, .ref a_q0_factors, .ref a_q0_found, .ref a_q0_foundOtherwise, .int c_q0_acts_3, .int c_q0_refusals_3, .int c_q0_knocks])), (a_q0_forms, .inl (cyJ, 6, .inr (.inl f_q0_forms))), (a_q0_row, .inr (5, [.long c_q0_row_taps_3, .long c_q0_row_cells_3]))] := hD
    refine lv_goto (tgt := 16) hx hb dL_start_10 (by decide) ?_
    refine lv_iconst (v := 0) hx hb dL_start_16 (by decide) ?_
    obtain ⟨e0, e1, e2, e3, e4, e5⟩ := tup6 h
    subst e0
    subst e1
    subst e2
    subst e3
    subst e4
    subst e5
    have hP9 : va_P D vwCl [(a_q0, .inr (6, [.ref a_q0_forms, .ref a_q0_roll, .ref a_q0_row, .ref a_q0_rows, .ref a_q0_factors, .ref a_q0_found, .ref a_q0_foundOtherwise, .int c_q0_acts_3, .int c_q0_refusals_3, .int c_q0_knocks])), (a_q0_forms, .inl (cyJ, 6, .inr (.inl f_q0_forms))), (a_q0_row, .inr (5, [.long c_q0_row_taps_3, .long c_q0_row_cells_3])), (a_q2, .inr (7, [.long c_q2_n_7, c_q2_s]))] H := hP.sub [1, 2, 3, 0] rfl
    have hD9 : va_D A [(a_q0, .inr (6, [.ref a_q0_forms, .ref a_q0_roll, .ref a_q0_row, .ref a_q0_rows, .ref a_q0_factors, .ref a_q0_found, .ref a_q0_foundOtherwise, .int c_q0_acts_3, .int c_q0_refusals_3, .int c_q0_knocks])), (a_q0_forms, .inl (cyJ, 6, .inr (.inl f_q0_forms))), (a_q0_row, .inr (5, [.long c_q0_row_taps_3, .long c_q0_row_cells_3])), (a_q2, .inr (7, [.long c_q2_n_7, c_q2_s]))] := hD.sub [1, 2, 3, 0] (by decide) rfl
    refine vx_ret ?_
    exact W.iret hx hb hr (fun t ht hW => ⟨⟨_, (), rfl, rfl, wQA_of ht hP9 hD9⟩, hS.F ht⟩) hS.2.2 dL_start_17

noncomputable abbrev rmL_step : Room := { frames := 10, cells := 1, slots := 6, locals := 143 }
theorem ydL_step : yL_step.cls ≠ "java/lang/invoke/MethodHandle" ∧ yL_step.cls ≠ "java/lang/invoke/VarHandle" ∧ (parseMethodDescriptor yL_step.desc).map (fun d => d.parameters.length) = some 3 := by decide +kernel
noncomputable def F_L_step (c_q0_acts : Int32) (c_q0_row_taps : Int64) (c_q0_row_cells : Int64) (c_q2_n : Int64) (p1 : Int32) : Option (Int32 × Int32 × Int64 × Int64) :=
 obn4 (F_X7_step c_q0_acts c_q0_row_taps c_q0_row_cells p1) (fun xc3 r3 c_q0_acts_3 c_q0_row_cells_3 =>
 if xc3 = 0 then
 bnd r3.toInt64 (fun c_q2_n_7 =>
 some ((0 : Int32), c_q0_acts_3, c_q0_row_cells_3, c_q2_n_7))
else
 (if xc3 = 2 then
 some ((1 : Int32), c_q0_acts_3, c_q0_row_cells_3, c_q2_n)
else
 none))
set_option maxHeartbeats 4000000 in
set_option maxRecDepth 100000 in
theorem c_L_step (l : Launch) (hfl : l.stackTraces = false) (D : va_G) (cyJ : ClassId) (sz : Nat) (a_q0 : Nat) (a_q2 : Nat) (a_q0_forms : Nat) (a_q0_roll : Nat) (a_q0_row : Nat) (a_q0_rows : Nat) (a_q0_factors : Nat) (a_q0_found : Nat) (a_q0_foundOtherwise : Nat) (c_q0_acts : Int32) (c_q0_refusals : Int32) (c_q0_knocks : Int32) (c_q0_row_taps : Int64) (c_q0_row_cells : Int64) (c_q2_n : Int64) (c_q2_s : Value) (p1 : Int32) (r0 : Int32) (o_c_q0_acts : Int32) (o_c_q0_row_cells : Int64) (o_c_q2_n : Int64) (hF : F_L_step c_q0_acts c_q0_row_taps c_q0_row_cells c_q2_n p1 = some (r0, o_c_q0_acts, o_c_q0_row_cells, o_c_q2_n)) : vx_Met l yL_step wsL_step rmL_step (va_Pc [.ref a_q0, .int p1, .ref a_q2] (wPL D [(cyJ, .long)] [(a_q0, .inr (6, [.ref a_q0_forms, .ref a_q0_roll, .ref a_q0_row, .ref a_q0_rows, .ref a_q0_factors, .ref a_q0_found, .ref a_q0_foundOtherwise, .int c_q0_acts, .int c_q0_refusals, .int c_q0_knocks])), (a_q0_row, .inr (5, [.long c_q0_row_taps, .long c_q0_row_cells])), (a_q2, .inr (7, [.long c_q2_n, c_q2_s]))] sz)) (va_Qi (fun (r : Int32) (_ : Unit) => r = r0) (fun _ t => wQA D [(a_q0, .inr (6, [.ref a_q0_forms, .ref a_q0_roll, .ref a_q0_row, .ref a_q0_rows, .ref a_q0_factors, .ref a_q0_found, .ref a_q0_foundOtherwise, .int o_c_q0_acts, .int c_q0_refusals, .int c_q0_knocks])), (a_q0_row, .inr (5, [.long c_q0_row_taps, .long o_c_q0_row_cells])), (a_q2, .inr (7, [.long o_c_q2_n, c_q2_s]))] (va_A [(a_q0, .inr (6, [.ref a_q0_forms, .ref a_q0_roll, .ref a_q0_row, .ref a_q0_rows, .ref a_q0_factors, .ref a_q0_found, .ref a_q0_foundOtherwise, .int c_q0_acts, .int c_q0_refusals, .int c_q0_knocks])), (a_q0_row, .inr (5, [.long c_q0_row_taps, .long c_q0_row_cells])), (a_q2, .inr (7, [.long c_q2_n, c_q2_s]))] sz) t) (va_A [(a_q0, .inr (6, [.ref a_q0_forms, .ref a_q0_roll, .ref a_q0_row, .ref a_q0_rows, .ref a_q0_factors, .ref a_q0_found, .ref a_q0_foundOtherwise, .int c_q0_acts, .int c_q0_refusals, .int c_q0_knocks])), (a_q0_row, .inr (5, [.long c_q0_row_taps, .long c_q0_row_cells])), (a_q2, .inr (7, [.long c_q2_n, c_q2_s]))] sz)) (fun _ _ _ => False) 1 6 (va_A [(a_q0, .inr (6, [.ref a_q0_forms, .ref a_q0_roll, .ref a_q0_row, .ref a_q0_rows, .ref a_q0_factors, .ref a_q0_found, .ref a_q0_foundOtherwise, .int c_q0_acts, .int c_q0_refusals, .int c_q0_knocks])), (a_q0_row, .inr (5, [.long c_q0_row_taps, .long c_q0_row_cells])), (a_q2, .inr (7, [.long c_q2_n, c_q2_s]))] sz) := by
  refine vx_ofWH (cc := cL_step) (maxL := 4) (ret := (some .int)) (hh := [(0, 10, 13, 21)]) (by decide) rfl ?_
  intro p e s m args below meth c s₁ B hml hv
  obtain ⟨rfl, ⟨⟨hsz, hP, hK, hD0, hnw⟩, hE⟩, hNc⟩ := hv
  have hx := B.exec
  have hb := B.bytes
  have hr := B.returns
  have hts := atoms_spec (ws := wsL_step) B.pre
  have hown : s.vm.findClass RL = some m.cls := findClass_of_methodNamed B.named
  have hlocks := B.notSynchronized
  have hcf : CallFix _ _ _ _ _ _ _ _ _ := ⟨hx, hb, hml, hown, hts⟩
  have hxt : c.exceptionTable.toList = tableOf [(0, 10, 13, 21)] := vx_table (x := yL_step) B (hts _ List.mem_cons_self)
  have hinX8 : ∀ w ∈ u_ws RX8 TX8 2, w ∈ wsL_step := by decide +kernel
  have hfl13 := hnw.use (A := ([.ref a_q0, .int p1, .ref a_q2] : List Value).toArray) (w := .fieldLinkNest RL 13 "FormwheelLaw$Out" "n" "J" "FormwheelLaw") (by decide +kernel)
  subst hsz
  have hD := hD0.self (sz := s.heap.size)
  generalize hAe : va_A [(a_q0, .inr (6, [.ref a_q0_forms, .ref a_q0_roll, .ref a_q0_row, .ref a_q0_rows, .ref a_q0_factors, .ref a_q0_found, .ref a_q0_foundOtherwise, .int c_q0_acts, .int c_q0_refusals, .int c_q0_knocks])), (a_q0_row, .inr (5, [.long c_q0_row_taps, .long c_q0_row_cells])), (a_q2, .inr (7, [.long c_q2_n, c_q2_s]))] s.heap.size = A at hD hE ⊢
  have hA : ∀ q : Nat, s.heap.size ≤ q → A q := fun q h => by rw [← hAe]; exact Or.inr h
  have hS : va_S A s.heap s.heap [] := va_S.rf
  have hP : va_P D vwCl [(a_q0, .inr (6, [.ref a_q0_forms, .ref a_q0_roll, .ref a_q0_row, .ref a_q0_rows, .ref a_q0_factors, .ref a_q0_found, .ref a_q0_foundOtherwise, .int c_q0_acts, .int c_q0_refusals, .int c_q0_knocks])), (a_q0_row, .inr (5, [.long c_q0_row_taps, .long c_q0_row_cells])), (a_q2, .inr (7, [.long c_q2_n, c_q2_s]))] s.heap := hP
  have hK0 := hK
  have hl := lv_entry ([.ref a_q0, .int p1, .ref a_q2]) (n := 4) (Nat.le_of_ble_eq_true rfl)
  rw [lg_entry_eq]
  generalize (lg_sl ([.ref a_q0, .int p1, .ref a_q2]) ++ List.replicate (4 - (lg_sl ([.ref a_q0, .int p1, .ref a_q2])).length) Slot.unset).toArray = ls at hl ⊢
  have hl : lv_has ls 4 [(0, .ref a_q0), (1, .int p1), (2, .ref a_q2)] := hl
  have h := hF
  clear hF
  unfold F_L_step at h
  refine lv_aload_n hx hb dL_step_0 rfl (lv_at hl 2 rfl) ?_
  refine lv_aload_n hx hb dL_step_1 rfl (lv_at hl 0 rfl) ?_
  refine lv_iload_n hx hb dL_step_2 rfl (lv_at hl 1 rfl) ?_
  obtain ⟨xc3, r3, c_q0_acts_3, c_q0_row_cells_3, hc3, h⟩ := obn4_h h
  have hPc := hP.sub (ws' := [(a_q0, .inr (6, [.ref a_q0_forms, .ref a_q0_roll, .ref a_q0_row, .ref a_q0_rows, .ref a_q0_factors, .ref a_q0_found, .ref a_q0_foundOtherwise, .int c_q0_acts, .int c_q0_refusals, .int c_q0_knocks])), (a_q0_row, .inr (5, [.long c_q0_row_taps, .long c_q0_row_cells]))]) [0, 1] rfl
  have hDc := hD.sub (ws' := [(a_q0, .inr (6, [.ref a_q0_forms, .ref a_q0_roll, .ref a_q0_row, .ref a_q0_rows, .ref a_q0_factors, .ref a_q0_found, .ref a_q0_foundOtherwise, .int c_q0_acts, .int c_q0_refusals, .int c_q0_knocks])), (a_q0_row, .inr (5, [.long c_q0_row_taps, .long c_q0_row_cells]))]) [0, 1] (by decide) rfl
  refine hx_i (w1 := [(a_q0, .inr (6, [.ref a_q0_forms, .ref a_q0_roll, .ref a_q0_row, .ref a_q0_rows, .ref a_q0_factors, .ref a_q0_found, .ref a_q0_foundOtherwise, .int c_q0_acts_3, .int c_q0_refusals, .int c_q0_knocks])), (a_q0_row, .inr (5, [.long c_q0_row_taps, .long c_q0_row_cells_3]))]) (wr := [(a_q2, .inr (7, [.long c_q2_n, c_q2_s]))]) (vx_runV (As := [.int p1]) (rest := [.ref a_q2]) hcf (c_X7_step l hfl D cyJ s.heap.size a_q0 a_q0_forms a_q0_roll a_q0_row a_q0_rows a_q0_factors a_q0_found a_q0_foundOtherwise c_q0_acts c_q0_refusals c_q0_knocks c_q0_row_taps c_q0_row_cells p1 xc3 r3 c_q0_acts_3 c_q0_row_cells_3 hc3) (cwV 1 hts gL_step_X7_step rfl rfl rfl ydX7_step ⟨Nat.le_of_ble_eq_true rfl, Nat.le_of_ble_eq_true rfl⟩) ⟨bl_PX, va_recv hK hP (ci := 6) (q0 := 0) rfl rfl, pr_PX hPc hK0 hDc hnw hE hS (va_free hD hS hA [0, 1] rfl)⟩ rfl rfl hl.1 rfl (lv_room (Nat.le_of_ble_eq_true rfl)) dL_step_3 ⟨Nat.le_of_ble_eq_true rfl, Nat.le_of_ble_eq_true rfl⟩) hP hD hS hA [0, 1] [2] rfl rfl (by decide) (by decide) (fun E9 ce9 q9 H locs hx9 hE9 hP hD hS hce9 hcv9 hcl9 => ?_) (fun hx9 H locs hP hD hS => ?_)
  · have h := if_ hx9 h
    have hP : va_P D vwCl [(a_q2, .inr (7, [.long c_q2_n, c_q2_s])), (a_q0, .inr (6, [.ref a_q0_forms, .ref a_q0_roll, .ref a_q0_row, .ref a_q0_rows, .ref a_q0_factors, .ref a_q0_found, .ref a_q0_foundOtherwise, .int c_q0_acts_3, .int c_q0_refusals, .int c_q0_knocks])), (a_q0_row, .inr (5, [.long c_q0_row_taps, .long c_q0_row_cells_3]))] H := hP
    have hD : va_D A [(a_q2, .inr (7, [.long c_q2_n, c_q2_s])), (a_q0, .inr (6, [.ref a_q0_forms, .ref a_q0_roll, .ref a_q0_row, .ref a_q0_rows, .ref a_q0_factors, .ref a_q0_found, .ref a_q0_foundOtherwise, .int c_q0_acts_3, .int c_q0_refusals, .int c_q0_knocks])), (a_q0_row, .inr (5, [.long c_q0_row_taps, .long c_q0_row_cells_3]))] := hD
    by_cases cx0 : xc3 = 2
    · have h := it_ cx0 h
      have hE1 : E9 = "java/lang/IllegalArgumentException" := by rw [hE9, cx0]; rfl
      subst hE1
      refine vx_catch (name := "java/lang/IllegalArgumentException") hown (tableOf []) ⟨0, 10, 13, 21⟩ (tableOf []) hxt (fun z hz => absurd hz List.not_mem_nil) (by decide) (by decide) (hts (.classLink RL 21 "java/lang/IllegalArgumentException") (by decide +kernel)) (va_Nw.use rfl (hE.2.1 (.castable "java/lang/IllegalArgumentException" "java/lang/IllegalArgumentException") (by decide +kernel))) hce9 hcv9 hcl9 ?_
      refine lv_astore_n (lv' := [(3, .ref q9), (0, .ref a_q0), (1, .int p1), (2, .ref a_q2)]) hx hb dL_step_13 rfl hl (by decide) rfl (fun ls hl => ?_)
      refine lv_iconst (v := 1) hx hb dL_step_14 (by decide) ?_
      obtain ⟨e0, e1, e2, e3⟩ := tup4 h
      subst e0
      subst e1
      subst e2
      subst e3
      have hP9 : va_P D vwCl [(a_q0, .inr (6, [.ref a_q0_forms, .ref a_q0_roll, .ref a_q0_row, .ref a_q0_rows, .ref a_q0_factors, .ref a_q0_found, .ref a_q0_foundOtherwise, .int c_q0_acts_3, .int c_q0_refusals, .int c_q0_knocks])), (a_q0_row, .inr (5, [.long c_q0_row_taps, .long c_q0_row_cells_3])), (a_q2, .inr (7, [.long c_q2_n, c_q2_s]))] H := hP.sub [1, 2, 0] rfl
      have hD9 : va_D A [(a_q0, .inr (6, [.ref a_q0_forms, .ref a_q0_roll, .ref a_q0_row, .ref a_q0_rows, .ref a_q0_factors, .ref a_q0_found, .ref a_q0_foundOtherwise, .int c_q0_acts_3, .int c_q0_refusals, .int c_q0_knocks])), (a_q0_row, .inr (5, [.long c_q0_row_taps, .long c_q0_row_cells_3])), (a_q2, .inr (7, [.long c_q2_n, c_q2_s]))] := hD.sub [1, 2, 0] (by decide) rfl
      refine vx_ret ?_
      exact W.iret hx hb hr (fun t ht hW => ⟨⟨_, (), rfl, rfl, wQA_of ht hP9 hD9⟩, hS.F ht⟩) hS.2.2 dL_step_15
    have h := if_ cx0 h
    cases h
  · have h := it_ hx9 h
    have hP : va_P D vwCl [(a_q2, .inr (7, [.long c_q2_n, c_q2_s])), (a_q0, .inr (6, [.ref a_q0_forms, .ref a_q0_roll, .ref a_q0_row, .ref a_q0_rows, .ref a_q0_factors, .ref a_q0_found, .ref a_q0_foundOtherwise, .int c_q0_acts_3, .int c_q0_refusals, .int c_q0_knocks])), (a_q0_row, .inr (5, [.long c_q0_row_taps, .long c_q0_row_cells_3]))] H := hP
    have hD : va_D A [(a_q2, .inr (7, [.long c_q2_n, c_q2_s])), (a_q0, .inr (6, [.ref a_q0_forms, .ref a_q0_roll, .ref a_q0_row, .ref a_q0_rows, .ref a_q0_factors, .ref a_q0_found, .ref a_q0_foundOtherwise, .int c_q0_acts_3, .int c_q0_refusals, .int c_q0_knocks])), (a_q0_row, .inr (5, [.long c_q0_row_taps, .long c_q0_row_cells_3]))] := hD
    refine lv_i2l (v := r3.toInt64) hx hb dL_step_6 rfl ?_
    refine lv_topl (fun c_q2_n_7 e_c_q2_n_7 => ?_)
    have h := bnd_h e_c_q2_n_7 h
    refine va_putN (D := D) (ci := 7) (v := .long c_q2_n_7) (ty := .long) (C := RX8) (T := TX8) (N := 2) hx hb hts hinX8 tyX8 tyX8_ok nmX8 hown hK hP hD hS 0 rfl rfl 0 (by decide) hfl13 (fun _ h9 => h9) rfl (by decide +kernel) rfl rfl (Nat.le_of_ble_eq_true rfl) dL_step_7 (fun H locs hP hD hS => ?_)
    have hP : va_P D vwCl [(a_q2, .inr (7, [.long c_q2_n_7, c_q2_s])), (a_q0, .inr (6, [.ref a_q0_forms, .ref a_q0_roll, .ref a_q0_row, .ref a_q0_rows, .ref a_q0_factors, .ref a_q0_found, .ref a_q0_foundOtherwise, .int c_q0_acts_3, .int c_q0_refusals, .int c_q0_knocks])), (a_q0_row, .inr (5, [.long c_q0_row_taps, .long c_q0_row_cells_3]))] H := hP
    have hD : va_D A [(a_q2, .inr (7, [.long c_q2_n_7, c_q2_s])), (a_q0, .inr (6, [.ref a_q0_forms, .ref a_q0_roll, .ref a_q0_row, .ref a_q0_rows, .ref a_q0_factors, .ref a_q0_found, .ref a_q0_foundOtherwise, .int c_q0_acts_3, .int c_q0_refusals, .int c_q0_knocks])), (a_q0_row, .inr (5, [.long c_q0_row_taps, .long c_q0_row_cells_3]))] := hD
    refine lv_goto (tgt := 16) hx hb dL_step_10 (by decide) ?_
    refine lv_iconst (v := 0) hx hb dL_step_16 (by decide) ?_
    obtain ⟨e0, e1, e2, e3⟩ := tup4 h
    subst e0
    subst e1
    subst e2
    subst e3
    have hP9 : va_P D vwCl [(a_q0, .inr (6, [.ref a_q0_forms, .ref a_q0_roll, .ref a_q0_row, .ref a_q0_rows, .ref a_q0_factors, .ref a_q0_found, .ref a_q0_foundOtherwise, .int c_q0_acts_3, .int c_q0_refusals, .int c_q0_knocks])), (a_q0_row, .inr (5, [.long c_q0_row_taps, .long c_q0_row_cells_3])), (a_q2, .inr (7, [.long c_q2_n_7, c_q2_s]))] H := hP.sub [1, 2, 0] rfl
    have hD9 : va_D A [(a_q0, .inr (6, [.ref a_q0_forms, .ref a_q0_roll, .ref a_q0_row, .ref a_q0_rows, .ref a_q0_factors, .ref a_q0_found, .ref a_q0_foundOtherwise, .int c_q0_acts_3, .int c_q0_refusals, .int c_q0_knocks])), (a_q0_row, .inr (5, [.long c_q0_row_taps, .long c_q0_row_cells_3])), (a_q2, .inr (7, [.long c_q2_n_7, c_q2_s]))] := hD.sub [1, 2, 0] (by decide) rfl
    refine vx_ret ?_
    exact W.iret hx hb hr (fun t ht hW => ⟨⟨_, (), rfl, rfl, wQA_of ht hP9 hD9⟩, hS.F ht⟩) hS.2.2 dL_step_17

noncomputable abbrev rmL_load : Room := { frames := 10, cells := 1, slots := 6, locals := 144 }
theorem ydL_load : yL_load.cls ≠ "java/lang/invoke/MethodHandle" ∧ yL_load.cls ≠ "java/lang/invoke/VarHandle" ∧ (parseMethodDescriptor yL_load.desc).map (fun d => d.parameters.length) = some 3 := by decide +kernel
noncomputable def F_L_load (c_q0_acts : Int32) (c_q0_refusals : Int32) (c_q0_row_taps : Int64) (c_q0_row_cells : Int64) (c_q2_n : Int64) (p1 : Int32) : Option (Int32 × Int32 × Int32 × Int64 × Int64) :=
 obn5 (F_X7_load c_q0_acts c_q0_refusals c_q0_row_taps c_q0_row_cells p1) (fun xc3 r3 c_q0_acts_3 c_q0_refusals_3 c_q0_row_cells_3 =>
 if xc3 = 0 then
 bnd r3.toInt64 (fun c_q2_n_7 =>
 some ((0 : Int32), c_q0_acts_3, c_q0_refusals_3, c_q0_row_cells_3, c_q2_n_7))
else
 (if xc3 = 2 then
 some ((1 : Int32), c_q0_acts_3, c_q0_refusals_3, c_q0_row_cells_3, c_q2_n)
else
 none))
set_option maxHeartbeats 4000000 in
set_option maxRecDepth 100000 in
theorem c_L_load (l : Launch) (hfl : l.stackTraces = false) (D : va_G) (cyJ : ClassId) (sz : Nat) (a_q0 : Nat) (a_q2 : Nat) (a_q0_forms : Nat) (a_q0_roll : Nat) (a_q0_row : Nat) (a_q0_rows : Nat) (a_q0_factors : Nat) (a_q0_found : Nat) (a_q0_foundOtherwise : Nat) (c_q0_acts : Int32) (c_q0_refusals : Int32) (c_q0_knocks : Int32) (c_q0_row_taps : Int64) (c_q0_row_cells : Int64) (c_q2_n : Int64) (c_q2_s : Value) (p1 : Int32) (r0 : Int32) (o_c_q0_acts : Int32) (o_c_q0_refusals : Int32) (o_c_q0_row_cells : Int64) (o_c_q2_n : Int64) (hF : F_L_load c_q0_acts c_q0_refusals c_q0_row_taps c_q0_row_cells c_q2_n p1 = some (r0, o_c_q0_acts, o_c_q0_refusals, o_c_q0_row_cells, o_c_q2_n)) : vx_Met l yL_load wsL_load rmL_load (va_Pc [.ref a_q0, .int p1, .ref a_q2] (wPL D [(cyJ, .long)] [(a_q0, .inr (6, [.ref a_q0_forms, .ref a_q0_roll, .ref a_q0_row, .ref a_q0_rows, .ref a_q0_factors, .ref a_q0_found, .ref a_q0_foundOtherwise, .int c_q0_acts, .int c_q0_refusals, .int c_q0_knocks])), (a_q0_row, .inr (5, [.long c_q0_row_taps, .long c_q0_row_cells])), (a_q2, .inr (7, [.long c_q2_n, c_q2_s]))] sz)) (va_Qi (fun (r : Int32) (_ : Unit) => r = r0) (fun _ t => wQA D [(a_q0, .inr (6, [.ref a_q0_forms, .ref a_q0_roll, .ref a_q0_row, .ref a_q0_rows, .ref a_q0_factors, .ref a_q0_found, .ref a_q0_foundOtherwise, .int o_c_q0_acts, .int o_c_q0_refusals, .int c_q0_knocks])), (a_q0_row, .inr (5, [.long c_q0_row_taps, .long o_c_q0_row_cells])), (a_q2, .inr (7, [.long o_c_q2_n, c_q2_s]))] (va_A [(a_q0, .inr (6, [.ref a_q0_forms, .ref a_q0_roll, .ref a_q0_row, .ref a_q0_rows, .ref a_q0_factors, .ref a_q0_found, .ref a_q0_foundOtherwise, .int c_q0_acts, .int c_q0_refusals, .int c_q0_knocks])), (a_q0_row, .inr (5, [.long c_q0_row_taps, .long c_q0_row_cells])), (a_q2, .inr (7, [.long c_q2_n, c_q2_s]))] sz) t) (va_A [(a_q0, .inr (6, [.ref a_q0_forms, .ref a_q0_roll, .ref a_q0_row, .ref a_q0_rows, .ref a_q0_factors, .ref a_q0_found, .ref a_q0_foundOtherwise, .int c_q0_acts, .int c_q0_refusals, .int c_q0_knocks])), (a_q0_row, .inr (5, [.long c_q0_row_taps, .long c_q0_row_cells])), (a_q2, .inr (7, [.long c_q2_n, c_q2_s]))] sz)) (fun _ _ _ => False) 1 6 (va_A [(a_q0, .inr (6, [.ref a_q0_forms, .ref a_q0_roll, .ref a_q0_row, .ref a_q0_rows, .ref a_q0_factors, .ref a_q0_found, .ref a_q0_foundOtherwise, .int c_q0_acts, .int c_q0_refusals, .int c_q0_knocks])), (a_q0_row, .inr (5, [.long c_q0_row_taps, .long c_q0_row_cells])), (a_q2, .inr (7, [.long c_q2_n, c_q2_s]))] sz) := by
  refine vx_ofWH (cc := cL_load) (maxL := 4) (ret := (some .int)) (hh := [(0, 10, 13, 21)]) (by decide) rfl ?_
  intro p e s m args below meth c s₁ B hml hv
  obtain ⟨rfl, ⟨⟨hsz, hP, hK, hD0, hnw⟩, hE⟩, hNc⟩ := hv
  have hx := B.exec
  have hb := B.bytes
  have hr := B.returns
  have hts := atoms_spec (ws := wsL_load) B.pre
  have hown : s.vm.findClass RL = some m.cls := findClass_of_methodNamed B.named
  have hlocks := B.notSynchronized
  have hcf : CallFix _ _ _ _ _ _ _ _ _ := ⟨hx, hb, hml, hown, hts⟩
  have hxt : c.exceptionTable.toList = tableOf [(0, 10, 13, 21)] := vx_table (x := yL_load) B (hts _ List.mem_cons_self)
  have hinX8 : ∀ w ∈ u_ws RX8 TX8 2, w ∈ wsL_load := by decide +kernel
  have hfl13 := hnw.use (A := ([.ref a_q0, .int p1, .ref a_q2] : List Value).toArray) (w := .fieldLinkNest RL 13 "FormwheelLaw$Out" "n" "J" "FormwheelLaw") (by decide +kernel)
  subst hsz
  have hD := hD0.self (sz := s.heap.size)
  generalize hAe : va_A [(a_q0, .inr (6, [.ref a_q0_forms, .ref a_q0_roll, .ref a_q0_row, .ref a_q0_rows, .ref a_q0_factors, .ref a_q0_found, .ref a_q0_foundOtherwise, .int c_q0_acts, .int c_q0_refusals, .int c_q0_knocks])), (a_q0_row, .inr (5, [.long c_q0_row_taps, .long c_q0_row_cells])), (a_q2, .inr (7, [.long c_q2_n, c_q2_s]))] s.heap.size = A at hD hE ⊢
  have hA : ∀ q : Nat, s.heap.size ≤ q → A q := fun q h => by rw [← hAe]; exact Or.inr h
  have hS : va_S A s.heap s.heap [] := va_S.rf
  have hP : va_P D vwCl [(a_q0, .inr (6, [.ref a_q0_forms, .ref a_q0_roll, .ref a_q0_row, .ref a_q0_rows, .ref a_q0_factors, .ref a_q0_found, .ref a_q0_foundOtherwise, .int c_q0_acts, .int c_q0_refusals, .int c_q0_knocks])), (a_q0_row, .inr (5, [.long c_q0_row_taps, .long c_q0_row_cells])), (a_q2, .inr (7, [.long c_q2_n, c_q2_s]))] s.heap := hP
  have hK0 := hK
  have hl := lv_entry ([.ref a_q0, .int p1, .ref a_q2]) (n := 4) (Nat.le_of_ble_eq_true rfl)
  rw [lg_entry_eq]
  generalize (lg_sl ([.ref a_q0, .int p1, .ref a_q2]) ++ List.replicate (4 - (lg_sl ([.ref a_q0, .int p1, .ref a_q2])).length) Slot.unset).toArray = ls at hl ⊢
  have hl : lv_has ls 4 [(0, .ref a_q0), (1, .int p1), (2, .ref a_q2)] := hl
  have h := hF
  clear hF
  unfold F_L_load at h
  refine lv_aload_n hx hb dL_load_0 rfl (lv_at hl 2 rfl) ?_
  refine lv_aload_n hx hb dL_load_1 rfl (lv_at hl 0 rfl) ?_
  refine lv_iload_n hx hb dL_load_2 rfl (lv_at hl 1 rfl) ?_
  obtain ⟨xc3, r3, c_q0_acts_3, c_q0_refusals_3, c_q0_row_cells_3, hc3, h⟩ := obn5_h h
  have hPc := hP.sub (ws' := [(a_q0, .inr (6, [.ref a_q0_forms, .ref a_q0_roll, .ref a_q0_row, .ref a_q0_rows, .ref a_q0_factors, .ref a_q0_found, .ref a_q0_foundOtherwise, .int c_q0_acts, .int c_q0_refusals, .int c_q0_knocks])), (a_q0_row, .inr (5, [.long c_q0_row_taps, .long c_q0_row_cells]))]) [0, 1] rfl
  have hDc := hD.sub (ws' := [(a_q0, .inr (6, [.ref a_q0_forms, .ref a_q0_roll, .ref a_q0_row, .ref a_q0_rows, .ref a_q0_factors, .ref a_q0_found, .ref a_q0_foundOtherwise, .int c_q0_acts, .int c_q0_refusals, .int c_q0_knocks])), (a_q0_row, .inr (5, [.long c_q0_row_taps, .long c_q0_row_cells]))]) [0, 1] (by decide) rfl
  refine hx_i (w1 := [(a_q0, .inr (6, [.ref a_q0_forms, .ref a_q0_roll, .ref a_q0_row, .ref a_q0_rows, .ref a_q0_factors, .ref a_q0_found, .ref a_q0_foundOtherwise, .int c_q0_acts_3, .int c_q0_refusals_3, .int c_q0_knocks])), (a_q0_row, .inr (5, [.long c_q0_row_taps, .long c_q0_row_cells_3]))]) (wr := [(a_q2, .inr (7, [.long c_q2_n, c_q2_s]))]) (vx_runV (As := [.int p1]) (rest := [.ref a_q2]) hcf (c_X7_load l hfl D cyJ s.heap.size a_q0 a_q0_forms a_q0_roll a_q0_row a_q0_rows a_q0_factors a_q0_found a_q0_foundOtherwise c_q0_acts c_q0_refusals c_q0_knocks c_q0_row_taps c_q0_row_cells p1 xc3 r3 c_q0_acts_3 c_q0_refusals_3 c_q0_row_cells_3 hc3) (cwV 1 hts gL_load_X7_load rfl rfl rfl ydX7_load ⟨Nat.le_of_ble_eq_true rfl, Nat.le_of_ble_eq_true rfl⟩) ⟨bl_PX, va_recv hK hP (ci := 6) (q0 := 0) rfl rfl, pr_PX hPc hK0 hDc hnw hE hS (va_free hD hS hA [0, 1] rfl)⟩ rfl rfl hl.1 rfl (lv_room (Nat.le_of_ble_eq_true rfl)) dL_load_3 ⟨Nat.le_of_ble_eq_true rfl, Nat.le_of_ble_eq_true rfl⟩) hP hD hS hA [0, 1] [2] rfl rfl (by decide) (by decide) (fun E9 ce9 q9 H locs hx9 hE9 hP hD hS hce9 hcv9 hcl9 => ?_) (fun hx9 H locs hP hD hS => ?_)
  · have h := if_ hx9 h
    have hP : va_P D vwCl [(a_q2, .inr (7, [.long c_q2_n, c_q2_s])), (a_q0, .inr (6, [.ref a_q0_forms, .ref a_q0_roll, .ref a_q0_row, .ref a_q0_rows, .ref a_q0_factors, .ref a_q0_found, .ref a_q0_foundOtherwise, .int c_q0_acts_3, .int c_q0_refusals_3, .int c_q0_knocks])), (a_q0_row, .inr (5, [.long c_q0_row_taps, .long c_q0_row_cells_3]))] H := hP
    have hD : va_D A [(a_q2, .inr (7, [.long c_q2_n, c_q2_s])), (a_q0, .inr (6, [.ref a_q0_forms, .ref a_q0_roll, .ref a_q0_row, .ref a_q0_rows, .ref a_q0_factors, .ref a_q0_found, .ref a_q0_foundOtherwise, .int c_q0_acts_3, .int c_q0_refusals_3, .int c_q0_knocks])), (a_q0_row, .inr (5, [.long c_q0_row_taps, .long c_q0_row_cells_3]))] := hD
    by_cases cx0 : xc3 = 2
    · have h := it_ cx0 h
      have hE1 : E9 = "java/lang/IllegalArgumentException" := by rw [hE9, cx0]; rfl
      subst hE1
      refine vx_catch (name := "java/lang/IllegalArgumentException") hown (tableOf []) ⟨0, 10, 13, 21⟩ (tableOf []) hxt (fun z hz => absurd hz List.not_mem_nil) (by decide) (by decide) (hts (.classLink RL 21 "java/lang/IllegalArgumentException") (by decide +kernel)) (va_Nw.use rfl (hE.2.1 (.castable "java/lang/IllegalArgumentException" "java/lang/IllegalArgumentException") (by decide +kernel))) hce9 hcv9 hcl9 ?_
      refine lv_astore_n (lv' := [(3, .ref q9), (0, .ref a_q0), (1, .int p1), (2, .ref a_q2)]) hx hb dL_load_13 rfl hl (by decide) rfl (fun ls hl => ?_)
      refine lv_iconst (v := 1) hx hb dL_load_14 (by decide) ?_
      obtain ⟨e0, e1, e2, e3, e4⟩ := tup5 h
      subst e0
      subst e1
      subst e2
      subst e3
      subst e4
      have hP9 : va_P D vwCl [(a_q0, .inr (6, [.ref a_q0_forms, .ref a_q0_roll, .ref a_q0_row, .ref a_q0_rows, .ref a_q0_factors, .ref a_q0_found, .ref a_q0_foundOtherwise, .int c_q0_acts_3, .int c_q0_refusals_3, .int c_q0_knocks])), (a_q0_row, .inr (5, [.long c_q0_row_taps, .long c_q0_row_cells_3])), (a_q2, .inr (7, [.long c_q2_n, c_q2_s]))] H := hP.sub [1, 2, 0] rfl
      have hD9 : va_D A [(a_q0, .inr (6, [.ref a_q0_forms, .ref a_q0_roll, .ref a_q0_row, .ref a_q0_rows, .ref a_q0_factors, .ref a_q0_found, .ref a_q0_foundOtherwise, .int c_q0_acts_3, .int c_q0_refusals_3, .int c_q0_knocks])), (a_q0_row, .inr (5, [.long c_q0_row_taps, .long c_q0_row_cells_3])), (a_q2, .inr (7, [.long c_q2_n, c_q2_s]))] := hD.sub [1, 2, 0] (by decide) rfl
      refine vx_ret ?_
      exact W.iret hx hb hr (fun t ht hW => ⟨⟨_, (), rfl, rfl, wQA_of ht hP9 hD9⟩, hS.F ht⟩) hS.2.2 dL_load_15
    have h := if_ cx0 h
    cases h
  · have h := it_ hx9 h
    have hP : va_P D vwCl [(a_q2, .inr (7, [.long c_q2_n, c_q2_s])), (a_q0, .inr (6, [.ref a_q0_forms, .ref a_q0_roll, .ref a_q0_row, .ref a_q0_rows, .ref a_q0_factors, .ref a_q0_found, .ref a_q0_foundOtherwise, .int c_q0_acts_3, .int c_q0_refusals_3, .int c_q0_knocks])), (a_q0_row, .inr (5, [.long c_q0_row_taps, .long c_q0_row_cells_3]))] H := hP
    have hD : va_D A [(a_q2, .inr (7, [.long c_q2_n, c_q2_s])), (a_q0, .inr (6, [.ref a_q0_forms, .ref a_q0_roll, .ref a_q0_row, .ref a_q0_rows, .ref a_q0_factors, .ref a_q0_found, .ref a_q0_foundOtherwise, .int c_q0_acts_3, .int c_q0_refusals_3, .int c_q0_knocks])), (a_q0_row, .inr (5, [.long c_q0_row_taps, .long c_q0_row_cells_3]))] := hD
    refine lv_i2l (v := r3.toInt64) hx hb dL_load_6 rfl ?_
    refine lv_topl (fun c_q2_n_7 e_c_q2_n_7 => ?_)
    have h := bnd_h e_c_q2_n_7 h
    refine va_putN (D := D) (ci := 7) (v := .long c_q2_n_7) (ty := .long) (C := RX8) (T := TX8) (N := 2) hx hb hts hinX8 tyX8 tyX8_ok nmX8 hown hK hP hD hS 0 rfl rfl 0 (by decide) hfl13 (fun _ h9 => h9) rfl (by decide +kernel) rfl rfl (Nat.le_of_ble_eq_true rfl) dL_load_7 (fun H locs hP hD hS => ?_)
    have hP : va_P D vwCl [(a_q2, .inr (7, [.long c_q2_n_7, c_q2_s])), (a_q0, .inr (6, [.ref a_q0_forms, .ref a_q0_roll, .ref a_q0_row, .ref a_q0_rows, .ref a_q0_factors, .ref a_q0_found, .ref a_q0_foundOtherwise, .int c_q0_acts_3, .int c_q0_refusals_3, .int c_q0_knocks])), (a_q0_row, .inr (5, [.long c_q0_row_taps, .long c_q0_row_cells_3]))] H := hP
    have hD : va_D A [(a_q2, .inr (7, [.long c_q2_n_7, c_q2_s])), (a_q0, .inr (6, [.ref a_q0_forms, .ref a_q0_roll, .ref a_q0_row, .ref a_q0_rows, .ref a_q0_factors, .ref a_q0_found, .ref a_q0_foundOtherwise, .int c_q0_acts_3, .int c_q0_refusals_3, .int c_q0_knocks])), (a_q0_row, .inr (5, [.long c_q0_row_taps, .long c_q0_row_cells_3]))] := hD
    refine lv_goto (tgt := 16) hx hb dL_load_10 (by decide) ?_
    refine lv_iconst (v := 0) hx hb dL_load_16 (by decide) ?_
    obtain ⟨e0, e1, e2, e3, e4⟩ := tup5 h
    subst e0
    subst e1
    subst e2
    subst e3
    subst e4
    have hP9 : va_P D vwCl [(a_q0, .inr (6, [.ref a_q0_forms, .ref a_q0_roll, .ref a_q0_row, .ref a_q0_rows, .ref a_q0_factors, .ref a_q0_found, .ref a_q0_foundOtherwise, .int c_q0_acts_3, .int c_q0_refusals_3, .int c_q0_knocks])), (a_q0_row, .inr (5, [.long c_q0_row_taps, .long c_q0_row_cells_3])), (a_q2, .inr (7, [.long c_q2_n_7, c_q2_s]))] H := hP.sub [1, 2, 0] rfl
    have hD9 : va_D A [(a_q0, .inr (6, [.ref a_q0_forms, .ref a_q0_roll, .ref a_q0_row, .ref a_q0_rows, .ref a_q0_factors, .ref a_q0_found, .ref a_q0_foundOtherwise, .int c_q0_acts_3, .int c_q0_refusals_3, .int c_q0_knocks])), (a_q0_row, .inr (5, [.long c_q0_row_taps, .long c_q0_row_cells_3])), (a_q2, .inr (7, [.long c_q2_n_7, c_q2_s]))] := hD.sub [1, 2, 0] (by decide) rfl
    refine vx_ret ?_
    exact W.iret hx hb hr (fun t ht hW => ⟨⟨_, (), rfl, rfl, wQA_of ht hP9 hD9⟩, hS.F ht⟩) hS.2.2 dL_load_17

noncomputable abbrev rmL_degree : Room := { frames := 10, cells := 1, slots := 6, locals := 141 }
theorem ydL_degree : yL_degree.cls ≠ "java/lang/invoke/MethodHandle" ∧ yL_degree.cls ≠ "java/lang/invoke/VarHandle" ∧ (parseMethodDescriptor yL_degree.desc).map (fun d => d.parameters.length) = some 3 := by decide +kernel
noncomputable def F_L_degree (f_q0_forms : Nat → Int64) (c_q2_n : Int64) (p1 : Int32) : Option (Int32 × Int64) :=
 obn2 (F_X7_degree f_q0_forms p1) (fun xc3 r3 =>
 if xc3 = 0 then
 bnd r3.toInt64 (fun c_q2_n_7 =>
 some ((0 : Int32), c_q2_n_7))
else
 (if xc3 = 1 then
 some ((1 : Int32), c_q2_n)
else
 none))
set_option maxHeartbeats 4000000 in
set_option maxRecDepth 100000 in
theorem c_L_degree (l : Launch) (hfl : l.stackTraces = false) (D : va_G) (cyJ : ClassId) (sz : Nat) (a_q0 : Nat) (a_q2 : Nat) (a_q0_forms : Nat) (a_q0_roll : Nat) (a_q0_row : Nat) (a_q0_rows : Nat) (a_q0_factors : Nat) (a_q0_found : Nat) (a_q0_foundOtherwise : Nat) (c_q0_acts : Int32) (c_q0_refusals : Int32) (c_q0_knocks : Int32) (f_q0_forms : Nat → Int64) (c_q2_n : Int64) (c_q2_s : Value) (p1 : Int32) (r0 : Int32) (o_c_q2_n : Int64) (hF : F_L_degree f_q0_forms c_q2_n p1 = some (r0, o_c_q2_n)) : vx_Met l yL_degree wsL_degree rmL_degree (va_Pc [.ref a_q0, .int p1, .ref a_q2] (wPL D [(cyJ, .long)] [(a_q0, .inr (6, [.ref a_q0_forms, .ref a_q0_roll, .ref a_q0_row, .ref a_q0_rows, .ref a_q0_factors, .ref a_q0_found, .ref a_q0_foundOtherwise, .int c_q0_acts, .int c_q0_refusals, .int c_q0_knocks])), (a_q0_forms, .inl (cyJ, 6, .inr (.inl f_q0_forms))), (a_q2, .inr (7, [.long c_q2_n, c_q2_s]))] sz)) (va_Qi (fun (r : Int32) (_ : Unit) => r = r0) (fun _ t => wQA D [(a_q0, .inr (6, [.ref a_q0_forms, .ref a_q0_roll, .ref a_q0_row, .ref a_q0_rows, .ref a_q0_factors, .ref a_q0_found, .ref a_q0_foundOtherwise, .int c_q0_acts, .int c_q0_refusals, .int c_q0_knocks])), (a_q0_forms, .inl (cyJ, 6, .inr (.inl f_q0_forms))), (a_q2, .inr (7, [.long o_c_q2_n, c_q2_s]))] (va_A [(a_q0, .inr (6, [.ref a_q0_forms, .ref a_q0_roll, .ref a_q0_row, .ref a_q0_rows, .ref a_q0_factors, .ref a_q0_found, .ref a_q0_foundOtherwise, .int c_q0_acts, .int c_q0_refusals, .int c_q0_knocks])), (a_q0_forms, .inl (cyJ, 6, .inr (.inl f_q0_forms))), (a_q2, .inr (7, [.long c_q2_n, c_q2_s]))] sz) t) (va_A [(a_q0, .inr (6, [.ref a_q0_forms, .ref a_q0_roll, .ref a_q0_row, .ref a_q0_rows, .ref a_q0_factors, .ref a_q0_found, .ref a_q0_foundOtherwise, .int c_q0_acts, .int c_q0_refusals, .int c_q0_knocks])), (a_q0_forms, .inl (cyJ, 6, .inr (.inl f_q0_forms))), (a_q2, .inr (7, [.long c_q2_n, c_q2_s]))] sz)) (fun _ _ _ => False) 1 6 (va_A [(a_q0, .inr (6, [.ref a_q0_forms, .ref a_q0_roll, .ref a_q0_row, .ref a_q0_rows, .ref a_q0_factors, .ref a_q0_found, .ref a_q0_foundOtherwise, .int c_q0_acts, .int c_q0_refusals, .int c_q0_knocks])), (a_q0_forms, .inl (cyJ, 6, .inr (.inl f_q0_forms))), (a_q2, .inr (7, [.long c_q2_n, c_q2_s]))] sz) := by
  refine vx_ofWH (cc := cL_degree) (maxL := 4) (ret := (some .int)) (hh := [(0, 10, 13, 19)]) (by decide) rfl ?_
  intro p e s m args below meth c s₁ B hml hv
  obtain ⟨rfl, ⟨⟨hsz, hP, hK, hD0, hnw⟩, hE⟩, hNc⟩ := hv
  have hx := B.exec
  have hb := B.bytes
  have hr := B.returns
  have hts := atoms_spec (ws := wsL_degree) B.pre
  have hown : s.vm.findClass RL = some m.cls := findClass_of_methodNamed B.named
  have hlocks := B.notSynchronized
  have hcf : CallFix _ _ _ _ _ _ _ _ _ := ⟨hx, hb, hml, hown, hts⟩
  have hxt : c.exceptionTable.toList = tableOf [(0, 10, 13, 19)] := vx_table (x := yL_degree) B (hts _ List.mem_cons_self)
  have hinX8 : ∀ w ∈ u_ws RX8 TX8 2, w ∈ wsL_degree := by decide +kernel
  have hfl13 := hnw.use (A := ([.ref a_q0, .int p1, .ref a_q2] : List Value).toArray) (w := .fieldLinkNest RL 13 "FormwheelLaw$Out" "n" "J" "FormwheelLaw") (by decide +kernel)
  subst hsz
  have hD := hD0.self (sz := s.heap.size)
  generalize hAe : va_A [(a_q0, .inr (6, [.ref a_q0_forms, .ref a_q0_roll, .ref a_q0_row, .ref a_q0_rows, .ref a_q0_factors, .ref a_q0_found, .ref a_q0_foundOtherwise, .int c_q0_acts, .int c_q0_refusals, .int c_q0_knocks])), (a_q0_forms, .inl (cyJ, 6, .inr (.inl f_q0_forms))), (a_q2, .inr (7, [.long c_q2_n, c_q2_s]))] s.heap.size = A at hD hE ⊢
  have hA : ∀ q : Nat, s.heap.size ≤ q → A q := fun q h => by rw [← hAe]; exact Or.inr h
  have hS : va_S A s.heap s.heap [] := va_S.rf
  have hP : va_P D vwCl [(a_q0, .inr (6, [.ref a_q0_forms, .ref a_q0_roll, .ref a_q0_row, .ref a_q0_rows, .ref a_q0_factors, .ref a_q0_found, .ref a_q0_foundOtherwise, .int c_q0_acts, .int c_q0_refusals, .int c_q0_knocks])), (a_q0_forms, .inl (cyJ, 6, .inr (.inl f_q0_forms))), (a_q2, .inr (7, [.long c_q2_n, c_q2_s]))] s.heap := hP
  have hK0 := hK
  have hl := lv_entry ([.ref a_q0, .int p1, .ref a_q2]) (n := 4) (Nat.le_of_ble_eq_true rfl)
  rw [lg_entry_eq]
  generalize (lg_sl ([.ref a_q0, .int p1, .ref a_q2]) ++ List.replicate (4 - (lg_sl ([.ref a_q0, .int p1, .ref a_q2])).length) Slot.unset).toArray = ls at hl ⊢
  have hl : lv_has ls 4 [(0, .ref a_q0), (1, .int p1), (2, .ref a_q2)] := hl
  have h := hF
  clear hF
  unfold F_L_degree at h
  refine lv_aload_n hx hb dL_degree_0 rfl (lv_at hl 2 rfl) ?_
  refine lv_aload_n hx hb dL_degree_1 rfl (lv_at hl 0 rfl) ?_
  refine lv_iload_n hx hb dL_degree_2 rfl (lv_at hl 1 rfl) ?_
  obtain ⟨xc3, r3, hc3, h⟩ := obn2_h h
  have hPc := hP.sub (ws' := [(a_q0, .inr (6, [.ref a_q0_forms, .ref a_q0_roll, .ref a_q0_row, .ref a_q0_rows, .ref a_q0_factors, .ref a_q0_found, .ref a_q0_foundOtherwise, .int c_q0_acts, .int c_q0_refusals, .int c_q0_knocks])), (a_q0_forms, .inl (cyJ, 6, .inr (.inl f_q0_forms)))]) [0, 1] rfl
  have hDc := hD.sub (ws' := [(a_q0, .inr (6, [.ref a_q0_forms, .ref a_q0_roll, .ref a_q0_row, .ref a_q0_rows, .ref a_q0_factors, .ref a_q0_found, .ref a_q0_foundOtherwise, .int c_q0_acts, .int c_q0_refusals, .int c_q0_knocks])), (a_q0_forms, .inl (cyJ, 6, .inr (.inl f_q0_forms)))]) [0, 1] (by decide) rfl
  refine hx_i (w1 := [(a_q0, .inr (6, [.ref a_q0_forms, .ref a_q0_roll, .ref a_q0_row, .ref a_q0_rows, .ref a_q0_factors, .ref a_q0_found, .ref a_q0_foundOtherwise, .int c_q0_acts, .int c_q0_refusals, .int c_q0_knocks])), (a_q0_forms, .inl (cyJ, 6, .inr (.inl f_q0_forms)))]) (wr := [(a_q2, .inr (7, [.long c_q2_n, c_q2_s]))]) (vx_runV (As := [.int p1]) (rest := [.ref a_q2]) hcf (c_X7_degree l hfl D cyJ s.heap.size a_q0 a_q0_forms a_q0_roll a_q0_row a_q0_rows a_q0_factors a_q0_found a_q0_foundOtherwise c_q0_acts c_q0_refusals c_q0_knocks f_q0_forms p1 xc3 r3 hc3) (cwV 1 hts gL_degree_X7_degree rfl rfl rfl ydX7_degree ⟨Nat.le_of_ble_eq_true rfl, Nat.le_of_ble_eq_true rfl⟩) ⟨bl_PX, va_recv hK hP (ci := 6) (q0 := 0) rfl rfl, pr_PX hPc hK0 hDc hnw hE hS (va_free hD hS hA [0, 1] rfl)⟩ rfl rfl hl.1 rfl (lv_room (Nat.le_of_ble_eq_true rfl)) dL_degree_3 ⟨Nat.le_of_ble_eq_true rfl, Nat.le_of_ble_eq_true rfl⟩) hP hD hS hA [0, 1] [2] rfl rfl (by decide) (by decide) (fun E9 ce9 q9 H locs hx9 hE9 hP hD hS hce9 hcv9 hcl9 => ?_) (fun hx9 H locs hP hD hS => ?_)
  · have h := if_ hx9 h
    have hP : va_P D vwCl [(a_q2, .inr (7, [.long c_q2_n, c_q2_s])), (a_q0, .inr (6, [.ref a_q0_forms, .ref a_q0_roll, .ref a_q0_row, .ref a_q0_rows, .ref a_q0_factors, .ref a_q0_found, .ref a_q0_foundOtherwise, .int c_q0_acts, .int c_q0_refusals, .int c_q0_knocks])), (a_q0_forms, .inl (cyJ, 6, .inr (.inl f_q0_forms)))] H := hP
    have hD : va_D A [(a_q2, .inr (7, [.long c_q2_n, c_q2_s])), (a_q0, .inr (6, [.ref a_q0_forms, .ref a_q0_roll, .ref a_q0_row, .ref a_q0_rows, .ref a_q0_factors, .ref a_q0_found, .ref a_q0_foundOtherwise, .int c_q0_acts, .int c_q0_refusals, .int c_q0_knocks])), (a_q0_forms, .inl (cyJ, 6, .inr (.inl f_q0_forms)))] := hD
    by_cases cx0 : xc3 = 1
    · have h := it_ cx0 h
      have hE1 : E9 = "java/lang/IndexOutOfBoundsException" := by rw [hE9, cx0]; rfl
      subst hE1
      refine vx_catch (name := "java/lang/IndexOutOfBoundsException") hown (tableOf []) ⟨0, 10, 13, 19⟩ (tableOf []) hxt (fun z hz => absurd hz List.not_mem_nil) (by decide) (by decide) (hts (.classLink RL 19 "java/lang/IndexOutOfBoundsException") (by decide +kernel)) (va_Nw.use rfl (hE.2.1 (.castable "java/lang/IndexOutOfBoundsException" "java/lang/IndexOutOfBoundsException") (by decide +kernel))) hce9 hcv9 hcl9 ?_
      refine lv_astore_n (lv' := [(3, .ref q9), (0, .ref a_q0), (1, .int p1), (2, .ref a_q2)]) hx hb dL_degree_13 rfl hl (by decide) rfl (fun ls hl => ?_)
      refine lv_iconst (v := 1) hx hb dL_degree_14 (by decide) ?_
      obtain ⟨e0, e1⟩ := tup2 h
      subst e0
      subst e1
      have hP9 : va_P D vwCl [(a_q0, .inr (6, [.ref a_q0_forms, .ref a_q0_roll, .ref a_q0_row, .ref a_q0_rows, .ref a_q0_factors, .ref a_q0_found, .ref a_q0_foundOtherwise, .int c_q0_acts, .int c_q0_refusals, .int c_q0_knocks])), (a_q0_forms, .inl (cyJ, 6, .inr (.inl f_q0_forms))), (a_q2, .inr (7, [.long c_q2_n, c_q2_s]))] H := hP.sub [1, 2, 0] rfl
      have hD9 : va_D A [(a_q0, .inr (6, [.ref a_q0_forms, .ref a_q0_roll, .ref a_q0_row, .ref a_q0_rows, .ref a_q0_factors, .ref a_q0_found, .ref a_q0_foundOtherwise, .int c_q0_acts, .int c_q0_refusals, .int c_q0_knocks])), (a_q0_forms, .inl (cyJ, 6, .inr (.inl f_q0_forms))), (a_q2, .inr (7, [.long c_q2_n, c_q2_s]))] := hD.sub [1, 2, 0] (by decide) rfl
      refine vx_ret ?_
      exact W.iret hx hb hr (fun t ht hW => ⟨⟨_, (), rfl, rfl, wQA_of ht hP9 hD9⟩, hS.F ht⟩) hS.2.2 dL_degree_15
    have h := if_ cx0 h
    cases h
  · have h := it_ hx9 h
    have hP : va_P D vwCl [(a_q2, .inr (7, [.long c_q2_n, c_q2_s])), (a_q0, .inr (6, [.ref a_q0_forms, .ref a_q0_roll, .ref a_q0_row, .ref a_q0_rows, .ref a_q0_factors, .ref a_q0_found, .ref a_q0_foundOtherwise, .int c_q0_acts, .int c_q0_refusals, .int c_q0_knocks])), (a_q0_forms, .inl (cyJ, 6, .inr (.inl f_q0_forms)))] H := hP
    have hD : va_D A [(a_q2, .inr (7, [.long c_q2_n, c_q2_s])), (a_q0, .inr (6, [.ref a_q0_forms, .ref a_q0_roll, .ref a_q0_row, .ref a_q0_rows, .ref a_q0_factors, .ref a_q0_found, .ref a_q0_foundOtherwise, .int c_q0_acts, .int c_q0_refusals, .int c_q0_knocks])), (a_q0_forms, .inl (cyJ, 6, .inr (.inl f_q0_forms)))] := hD
    refine lv_i2l (v := r3.toInt64) hx hb dL_degree_6 rfl ?_
    refine lv_topl (fun c_q2_n_7 e_c_q2_n_7 => ?_)
    have h := bnd_h e_c_q2_n_7 h
    refine va_putN (D := D) (ci := 7) (v := .long c_q2_n_7) (ty := .long) (C := RX8) (T := TX8) (N := 2) hx hb hts hinX8 tyX8 tyX8_ok nmX8 hown hK hP hD hS 0 rfl rfl 0 (by decide) hfl13 (fun _ h9 => h9) rfl (by decide +kernel) rfl rfl (Nat.le_of_ble_eq_true rfl) dL_degree_7 (fun H locs hP hD hS => ?_)
    have hP : va_P D vwCl [(a_q2, .inr (7, [.long c_q2_n_7, c_q2_s])), (a_q0, .inr (6, [.ref a_q0_forms, .ref a_q0_roll, .ref a_q0_row, .ref a_q0_rows, .ref a_q0_factors, .ref a_q0_found, .ref a_q0_foundOtherwise, .int c_q0_acts, .int c_q0_refusals, .int c_q0_knocks])), (a_q0_forms, .inl (cyJ, 6, .inr (.inl f_q0_forms)))] H := hP
    have hD : va_D A [(a_q2, .inr (7, [.long c_q2_n_7, c_q2_s])), (a_q0, .inr (6, [.ref a_q0_forms, .ref a_q0_roll, .ref a_q0_row, .ref a_q0_rows, .ref a_q0_factors, .ref a_q0_found, .ref a_q0_foundOtherwise, .int c_q0_acts, .int c_q0_refusals, .int c_q0_knocks])), (a_q0_forms, .inl (cyJ, 6, .inr (.inl f_q0_forms)))] := hD
    refine lv_goto (tgt := 16) hx hb dL_degree_10 (by decide) ?_
    refine lv_iconst (v := 0) hx hb dL_degree_16 (by decide) ?_
    obtain ⟨e0, e1⟩ := tup2 h
    subst e0
    subst e1
    have hP9 : va_P D vwCl [(a_q0, .inr (6, [.ref a_q0_forms, .ref a_q0_roll, .ref a_q0_row, .ref a_q0_rows, .ref a_q0_factors, .ref a_q0_found, .ref a_q0_foundOtherwise, .int c_q0_acts, .int c_q0_refusals, .int c_q0_knocks])), (a_q0_forms, .inl (cyJ, 6, .inr (.inl f_q0_forms))), (a_q2, .inr (7, [.long c_q2_n_7, c_q2_s]))] H := hP.sub [1, 2, 0] rfl
    have hD9 : va_D A [(a_q0, .inr (6, [.ref a_q0_forms, .ref a_q0_roll, .ref a_q0_row, .ref a_q0_rows, .ref a_q0_factors, .ref a_q0_found, .ref a_q0_foundOtherwise, .int c_q0_acts, .int c_q0_refusals, .int c_q0_knocks])), (a_q0_forms, .inl (cyJ, 6, .inr (.inl f_q0_forms))), (a_q2, .inr (7, [.long c_q2_n_7, c_q2_s]))] := hD.sub [1, 2, 0] (by decide) rfl
    refine vx_ret ?_
    exact W.iret hx hb hr (fun t ht hW => ⟨⟨_, (), rfl, rfl, wQA_of ht hP9 hD9⟩, hS.F ht⟩) hS.2.2 dL_degree_17

noncomputable abbrev rmL_code : Room := { frames := 10, cells := 1, slots := 6, locals := 141 }
theorem ydL_code : yL_code.cls ≠ "java/lang/invoke/MethodHandle" ∧ yL_code.cls ≠ "java/lang/invoke/VarHandle" ∧ (parseMethodDescriptor yL_code.desc).map (fun d => d.parameters.length) = some 3 := by decide +kernel
noncomputable def F_L_code (f_q0_forms : Nat → Int64) (c_q2_n : Int64) (p1 : Int32) : Option (Int32 × Int64) :=
 obn2 (F_X7_code f_q0_forms p1) (fun xc3 r3 =>
 if xc3 = 0 then
 bnd r3.toInt64 (fun c_q2_n_7 =>
 some ((0 : Int32), c_q2_n_7))
else
 (if xc3 = 1 then
 some ((1 : Int32), c_q2_n)
else
 none))
set_option maxHeartbeats 4000000 in
set_option maxRecDepth 100000 in
theorem c_L_code (l : Launch) (hfl : l.stackTraces = false) (D : va_G) (cyJ : ClassId) (sz : Nat) (a_q0 : Nat) (a_q2 : Nat) (a_q0_forms : Nat) (a_q0_roll : Nat) (a_q0_row : Nat) (a_q0_rows : Nat) (a_q0_factors : Nat) (a_q0_found : Nat) (a_q0_foundOtherwise : Nat) (c_q0_acts : Int32) (c_q0_refusals : Int32) (c_q0_knocks : Int32) (f_q0_forms : Nat → Int64) (c_q2_n : Int64) (c_q2_s : Value) (p1 : Int32) (r0 : Int32) (o_c_q2_n : Int64) (hF : F_L_code f_q0_forms c_q2_n p1 = some (r0, o_c_q2_n)) : vx_Met l yL_code wsL_code rmL_code (va_Pc [.ref a_q0, .int p1, .ref a_q2] (wPL D [(cyJ, .long)] [(a_q0, .inr (6, [.ref a_q0_forms, .ref a_q0_roll, .ref a_q0_row, .ref a_q0_rows, .ref a_q0_factors, .ref a_q0_found, .ref a_q0_foundOtherwise, .int c_q0_acts, .int c_q0_refusals, .int c_q0_knocks])), (a_q0_forms, .inl (cyJ, 6, .inr (.inl f_q0_forms))), (a_q2, .inr (7, [.long c_q2_n, c_q2_s]))] sz)) (va_Qi (fun (r : Int32) (_ : Unit) => r = r0) (fun _ t => wQA D [(a_q0, .inr (6, [.ref a_q0_forms, .ref a_q0_roll, .ref a_q0_row, .ref a_q0_rows, .ref a_q0_factors, .ref a_q0_found, .ref a_q0_foundOtherwise, .int c_q0_acts, .int c_q0_refusals, .int c_q0_knocks])), (a_q0_forms, .inl (cyJ, 6, .inr (.inl f_q0_forms))), (a_q2, .inr (7, [.long o_c_q2_n, c_q2_s]))] (va_A [(a_q0, .inr (6, [.ref a_q0_forms, .ref a_q0_roll, .ref a_q0_row, .ref a_q0_rows, .ref a_q0_factors, .ref a_q0_found, .ref a_q0_foundOtherwise, .int c_q0_acts, .int c_q0_refusals, .int c_q0_knocks])), (a_q0_forms, .inl (cyJ, 6, .inr (.inl f_q0_forms))), (a_q2, .inr (7, [.long c_q2_n, c_q2_s]))] sz) t) (va_A [(a_q0, .inr (6, [.ref a_q0_forms, .ref a_q0_roll, .ref a_q0_row, .ref a_q0_rows, .ref a_q0_factors, .ref a_q0_found, .ref a_q0_foundOtherwise, .int c_q0_acts, .int c_q0_refusals, .int c_q0_knocks])), (a_q0_forms, .inl (cyJ, 6, .inr (.inl f_q0_forms))), (a_q2, .inr (7, [.long c_q2_n, c_q2_s]))] sz)) (fun _ _ _ => False) 1 6 (va_A [(a_q0, .inr (6, [.ref a_q0_forms, .ref a_q0_roll, .ref a_q0_row, .ref a_q0_rows, .ref a_q0_factors, .ref a_q0_found, .ref a_q0_foundOtherwise, .int c_q0_acts, .int c_q0_refusals, .int c_q0_knocks])), (a_q0_forms, .inl (cyJ, 6, .inr (.inl f_q0_forms))), (a_q2, .inr (7, [.long c_q2_n, c_q2_s]))] sz) := by
  refine vx_ofWH (cc := cL_code) (maxL := 4) (ret := (some .int)) (hh := [(0, 10, 13, 19)]) (by decide) rfl ?_
  intro p e s m args below meth c s₁ B hml hv
  obtain ⟨rfl, ⟨⟨hsz, hP, hK, hD0, hnw⟩, hE⟩, hNc⟩ := hv
  have hx := B.exec
  have hb := B.bytes
  have hr := B.returns
  have hts := atoms_spec (ws := wsL_code) B.pre
  have hown : s.vm.findClass RL = some m.cls := findClass_of_methodNamed B.named
  have hlocks := B.notSynchronized
  have hcf : CallFix _ _ _ _ _ _ _ _ _ := ⟨hx, hb, hml, hown, hts⟩
  have hxt : c.exceptionTable.toList = tableOf [(0, 10, 13, 19)] := vx_table (x := yL_code) B (hts _ List.mem_cons_self)
  have hinX8 : ∀ w ∈ u_ws RX8 TX8 2, w ∈ wsL_code := by decide +kernel
  have hfl13 := hnw.use (A := ([.ref a_q0, .int p1, .ref a_q2] : List Value).toArray) (w := .fieldLinkNest RL 13 "FormwheelLaw$Out" "n" "J" "FormwheelLaw") (by decide +kernel)
  subst hsz
  have hD := hD0.self (sz := s.heap.size)
  generalize hAe : va_A [(a_q0, .inr (6, [.ref a_q0_forms, .ref a_q0_roll, .ref a_q0_row, .ref a_q0_rows, .ref a_q0_factors, .ref a_q0_found, .ref a_q0_foundOtherwise, .int c_q0_acts, .int c_q0_refusals, .int c_q0_knocks])), (a_q0_forms, .inl (cyJ, 6, .inr (.inl f_q0_forms))), (a_q2, .inr (7, [.long c_q2_n, c_q2_s]))] s.heap.size = A at hD hE ⊢
  have hA : ∀ q : Nat, s.heap.size ≤ q → A q := fun q h => by rw [← hAe]; exact Or.inr h
  have hS : va_S A s.heap s.heap [] := va_S.rf
  have hP : va_P D vwCl [(a_q0, .inr (6, [.ref a_q0_forms, .ref a_q0_roll, .ref a_q0_row, .ref a_q0_rows, .ref a_q0_factors, .ref a_q0_found, .ref a_q0_foundOtherwise, .int c_q0_acts, .int c_q0_refusals, .int c_q0_knocks])), (a_q0_forms, .inl (cyJ, 6, .inr (.inl f_q0_forms))), (a_q2, .inr (7, [.long c_q2_n, c_q2_s]))] s.heap := hP
  have hK0 := hK
  have hl := lv_entry ([.ref a_q0, .int p1, .ref a_q2]) (n := 4) (Nat.le_of_ble_eq_true rfl)
  rw [lg_entry_eq]
  generalize (lg_sl ([.ref a_q0, .int p1, .ref a_q2]) ++ List.replicate (4 - (lg_sl ([.ref a_q0, .int p1, .ref a_q2])).length) Slot.unset).toArray = ls at hl ⊢
  have hl : lv_has ls 4 [(0, .ref a_q0), (1, .int p1), (2, .ref a_q2)] := hl
  have h := hF
  clear hF
  unfold F_L_code at h
  refine lv_aload_n hx hb dL_code_0 rfl (lv_at hl 2 rfl) ?_
  refine lv_aload_n hx hb dL_code_1 rfl (lv_at hl 0 rfl) ?_
  refine lv_iload_n hx hb dL_code_2 rfl (lv_at hl 1 rfl) ?_
  obtain ⟨xc3, r3, hc3, h⟩ := obn2_h h
  have hPc := hP.sub (ws' := [(a_q0, .inr (6, [.ref a_q0_forms, .ref a_q0_roll, .ref a_q0_row, .ref a_q0_rows, .ref a_q0_factors, .ref a_q0_found, .ref a_q0_foundOtherwise, .int c_q0_acts, .int c_q0_refusals, .int c_q0_knocks])), (a_q0_forms, .inl (cyJ, 6, .inr (.inl f_q0_forms)))]) [0, 1] rfl
  have hDc := hD.sub (ws' := [(a_q0, .inr (6, [.ref a_q0_forms, .ref a_q0_roll, .ref a_q0_row, .ref a_q0_rows, .ref a_q0_factors, .ref a_q0_found, .ref a_q0_foundOtherwise, .int c_q0_acts, .int c_q0_refusals, .int c_q0_knocks])), (a_q0_forms, .inl (cyJ, 6, .inr (.inl f_q0_forms)))]) [0, 1] (by decide) rfl
  refine hx_i (w1 := [(a_q0, .inr (6, [.ref a_q0_forms, .ref a_q0_roll, .ref a_q0_row, .ref a_q0_rows, .ref a_q0_factors, .ref a_q0_found, .ref a_q0_foundOtherwise, .int c_q0_acts, .int c_q0_refusals, .int c_q0_knocks])), (a_q0_forms, .inl (cyJ, 6, .inr (.inl f_q0_forms)))]) (wr := [(a_q2, .inr (7, [.long c_q2_n, c_q2_s]))]) (vx_runV (As := [.int p1]) (rest := [.ref a_q2]) hcf (c_X7_code l hfl D cyJ s.heap.size a_q0 a_q0_forms a_q0_roll a_q0_row a_q0_rows a_q0_factors a_q0_found a_q0_foundOtherwise c_q0_acts c_q0_refusals c_q0_knocks f_q0_forms p1 xc3 r3 hc3) (cwV 1 hts gL_code_X7_code rfl rfl rfl ydX7_code ⟨Nat.le_of_ble_eq_true rfl, Nat.le_of_ble_eq_true rfl⟩) ⟨bl_PX, va_recv hK hP (ci := 6) (q0 := 0) rfl rfl, pr_PX hPc hK0 hDc hnw hE hS (va_free hD hS hA [0, 1] rfl)⟩ rfl rfl hl.1 rfl (lv_room (Nat.le_of_ble_eq_true rfl)) dL_code_3 ⟨Nat.le_of_ble_eq_true rfl, Nat.le_of_ble_eq_true rfl⟩) hP hD hS hA [0, 1] [2] rfl rfl (by decide) (by decide) (fun E9 ce9 q9 H locs hx9 hE9 hP hD hS hce9 hcv9 hcl9 => ?_) (fun hx9 H locs hP hD hS => ?_)
  · have h := if_ hx9 h
    have hP : va_P D vwCl [(a_q2, .inr (7, [.long c_q2_n, c_q2_s])), (a_q0, .inr (6, [.ref a_q0_forms, .ref a_q0_roll, .ref a_q0_row, .ref a_q0_rows, .ref a_q0_factors, .ref a_q0_found, .ref a_q0_foundOtherwise, .int c_q0_acts, .int c_q0_refusals, .int c_q0_knocks])), (a_q0_forms, .inl (cyJ, 6, .inr (.inl f_q0_forms)))] H := hP
    have hD : va_D A [(a_q2, .inr (7, [.long c_q2_n, c_q2_s])), (a_q0, .inr (6, [.ref a_q0_forms, .ref a_q0_roll, .ref a_q0_row, .ref a_q0_rows, .ref a_q0_factors, .ref a_q0_found, .ref a_q0_foundOtherwise, .int c_q0_acts, .int c_q0_refusals, .int c_q0_knocks])), (a_q0_forms, .inl (cyJ, 6, .inr (.inl f_q0_forms)))] := hD
    by_cases cx0 : xc3 = 1
    · have h := it_ cx0 h
      have hE1 : E9 = "java/lang/IndexOutOfBoundsException" := by rw [hE9, cx0]; rfl
      subst hE1
      refine vx_catch (name := "java/lang/IndexOutOfBoundsException") hown (tableOf []) ⟨0, 10, 13, 19⟩ (tableOf []) hxt (fun z hz => absurd hz List.not_mem_nil) (by decide) (by decide) (hts (.classLink RL 19 "java/lang/IndexOutOfBoundsException") (by decide +kernel)) (va_Nw.use rfl (hE.2.1 (.castable "java/lang/IndexOutOfBoundsException" "java/lang/IndexOutOfBoundsException") (by decide +kernel))) hce9 hcv9 hcl9 ?_
      refine lv_astore_n (lv' := [(3, .ref q9), (0, .ref a_q0), (1, .int p1), (2, .ref a_q2)]) hx hb dL_code_13 rfl hl (by decide) rfl (fun ls hl => ?_)
      refine lv_iconst (v := 1) hx hb dL_code_14 (by decide) ?_
      obtain ⟨e0, e1⟩ := tup2 h
      subst e0
      subst e1
      have hP9 : va_P D vwCl [(a_q0, .inr (6, [.ref a_q0_forms, .ref a_q0_roll, .ref a_q0_row, .ref a_q0_rows, .ref a_q0_factors, .ref a_q0_found, .ref a_q0_foundOtherwise, .int c_q0_acts, .int c_q0_refusals, .int c_q0_knocks])), (a_q0_forms, .inl (cyJ, 6, .inr (.inl f_q0_forms))), (a_q2, .inr (7, [.long c_q2_n, c_q2_s]))] H := hP.sub [1, 2, 0] rfl
      have hD9 : va_D A [(a_q0, .inr (6, [.ref a_q0_forms, .ref a_q0_roll, .ref a_q0_row, .ref a_q0_rows, .ref a_q0_factors, .ref a_q0_found, .ref a_q0_foundOtherwise, .int c_q0_acts, .int c_q0_refusals, .int c_q0_knocks])), (a_q0_forms, .inl (cyJ, 6, .inr (.inl f_q0_forms))), (a_q2, .inr (7, [.long c_q2_n, c_q2_s]))] := hD.sub [1, 2, 0] (by decide) rfl
      refine vx_ret ?_
      exact W.iret hx hb hr (fun t ht hW => ⟨⟨_, (), rfl, rfl, wQA_of ht hP9 hD9⟩, hS.F ht⟩) hS.2.2 dL_code_15
    have h := if_ cx0 h
    cases h
  · have h := it_ hx9 h
    have hP : va_P D vwCl [(a_q2, .inr (7, [.long c_q2_n, c_q2_s])), (a_q0, .inr (6, [.ref a_q0_forms, .ref a_q0_roll, .ref a_q0_row, .ref a_q0_rows, .ref a_q0_factors, .ref a_q0_found, .ref a_q0_foundOtherwise, .int c_q0_acts, .int c_q0_refusals, .int c_q0_knocks])), (a_q0_forms, .inl (cyJ, 6, .inr (.inl f_q0_forms)))] H := hP
    have hD : va_D A [(a_q2, .inr (7, [.long c_q2_n, c_q2_s])), (a_q0, .inr (6, [.ref a_q0_forms, .ref a_q0_roll, .ref a_q0_row, .ref a_q0_rows, .ref a_q0_factors, .ref a_q0_found, .ref a_q0_foundOtherwise, .int c_q0_acts, .int c_q0_refusals, .int c_q0_knocks])), (a_q0_forms, .inl (cyJ, 6, .inr (.inl f_q0_forms)))] := hD
    refine lv_i2l (v := r3.toInt64) hx hb dL_code_6 rfl ?_
    refine lv_topl (fun c_q2_n_7 e_c_q2_n_7 => ?_)
    have h := bnd_h e_c_q2_n_7 h
    refine va_putN (D := D) (ci := 7) (v := .long c_q2_n_7) (ty := .long) (C := RX8) (T := TX8) (N := 2) hx hb hts hinX8 tyX8 tyX8_ok nmX8 hown hK hP hD hS 0 rfl rfl 0 (by decide) hfl13 (fun _ h9 => h9) rfl (by decide +kernel) rfl rfl (Nat.le_of_ble_eq_true rfl) dL_code_7 (fun H locs hP hD hS => ?_)
    have hP : va_P D vwCl [(a_q2, .inr (7, [.long c_q2_n_7, c_q2_s])), (a_q0, .inr (6, [.ref a_q0_forms, .ref a_q0_roll, .ref a_q0_row, .ref a_q0_rows, .ref a_q0_factors, .ref a_q0_found, .ref a_q0_foundOtherwise, .int c_q0_acts, .int c_q0_refusals, .int c_q0_knocks])), (a_q0_forms, .inl (cyJ, 6, .inr (.inl f_q0_forms)))] H := hP
    have hD : va_D A [(a_q2, .inr (7, [.long c_q2_n_7, c_q2_s])), (a_q0, .inr (6, [.ref a_q0_forms, .ref a_q0_roll, .ref a_q0_row, .ref a_q0_rows, .ref a_q0_factors, .ref a_q0_found, .ref a_q0_foundOtherwise, .int c_q0_acts, .int c_q0_refusals, .int c_q0_knocks])), (a_q0_forms, .inl (cyJ, 6, .inr (.inl f_q0_forms)))] := hD
    refine lv_goto (tgt := 16) hx hb dL_code_10 (by decide) ?_
    refine lv_iconst (v := 0) hx hb dL_code_16 (by decide) ?_
    obtain ⟨e0, e1⟩ := tup2 h
    subst e0
    subst e1
    have hP9 : va_P D vwCl [(a_q0, .inr (6, [.ref a_q0_forms, .ref a_q0_roll, .ref a_q0_row, .ref a_q0_rows, .ref a_q0_factors, .ref a_q0_found, .ref a_q0_foundOtherwise, .int c_q0_acts, .int c_q0_refusals, .int c_q0_knocks])), (a_q0_forms, .inl (cyJ, 6, .inr (.inl f_q0_forms))), (a_q2, .inr (7, [.long c_q2_n_7, c_q2_s]))] H := hP.sub [1, 2, 0] rfl
    have hD9 : va_D A [(a_q0, .inr (6, [.ref a_q0_forms, .ref a_q0_roll, .ref a_q0_row, .ref a_q0_rows, .ref a_q0_factors, .ref a_q0_found, .ref a_q0_foundOtherwise, .int c_q0_acts, .int c_q0_refusals, .int c_q0_knocks])), (a_q0_forms, .inl (cyJ, 6, .inr (.inl f_q0_forms))), (a_q2, .inr (7, [.long c_q2_n_7, c_q2_s]))] := hD.sub [1, 2, 0] (by decide) rfl
    refine vx_ret ?_
    exact W.iret hx hb hr (fun t ht hW => ⟨⟨_, (), rfl, rfl, wQA_of ht hP9 hD9⟩, hS.F ht⟩) hS.2.2 dL_code_17

noncomputable abbrev rmL_has : Room := { frames := 10, cells := 2, slots := 12, locals := 142 }
theorem ydL_has : yL_has.cls ≠ "java/lang/invoke/MethodHandle" ∧ yL_has.cls ≠ "java/lang/invoke/VarHandle" ∧ (parseMethodDescriptor yL_has.desc).map (fun d => d.parameters.length) = some 4 := by decide +kernel
noncomputable def F_L_has (f_q0_forms : Nat → Int64) (c_q3_n : Int64) (p1 : Int32) (p2 : Int32) : Option (Int32 × Int64) :=
 obn2 (F_X7_has f_q0_forms p1 p2) (fun xc4 r4 =>
 if xc4 = 0 then
 (if r4 = 0 then
 some ((0 : Int32), (0 : Int64))
else
 some ((0 : Int32), (1 : Int64)))
else
 (if xc4 = 1 then
 some ((1 : Int32), c_q3_n)
else
 none))
set_option maxHeartbeats 4000000 in
set_option maxRecDepth 100000 in
theorem c_L_has (l : Launch) (hfl : l.stackTraces = false) (D : va_G) (cyJ : ClassId) (sz : Nat) (a_q0 : Nat) (a_q3 : Nat) (a_q0_forms : Nat) (a_q0_roll : Nat) (a_q0_row : Nat) (a_q0_rows : Nat) (a_q0_factors : Nat) (a_q0_found : Nat) (a_q0_foundOtherwise : Nat) (c_q0_acts : Int32) (c_q0_refusals : Int32) (c_q0_knocks : Int32) (f_q0_forms : Nat → Int64) (c_q3_n : Int64) (c_q3_s : Value) (p1 : Int32) (p2 : Int32) (r0 : Int32) (o_c_q3_n : Int64) (hF : F_L_has f_q0_forms c_q3_n p1 p2 = some (r0, o_c_q3_n)) : vx_Met l yL_has wsL_has rmL_has (va_Pc [.ref a_q0, .int p1, .int p2, .ref a_q3] (wPL D [(cyJ, .long)] [(a_q0, .inr (6, [.ref a_q0_forms, .ref a_q0_roll, .ref a_q0_row, .ref a_q0_rows, .ref a_q0_factors, .ref a_q0_found, .ref a_q0_foundOtherwise, .int c_q0_acts, .int c_q0_refusals, .int c_q0_knocks])), (a_q0_forms, .inl (cyJ, 6, .inr (.inl f_q0_forms))), (a_q3, .inr (7, [.long c_q3_n, c_q3_s]))] sz)) (va_Qi (fun (r : Int32) (_ : Unit) => r = r0) (fun _ t => wQA D [(a_q0, .inr (6, [.ref a_q0_forms, .ref a_q0_roll, .ref a_q0_row, .ref a_q0_rows, .ref a_q0_factors, .ref a_q0_found, .ref a_q0_foundOtherwise, .int c_q0_acts, .int c_q0_refusals, .int c_q0_knocks])), (a_q0_forms, .inl (cyJ, 6, .inr (.inl f_q0_forms))), (a_q3, .inr (7, [.long o_c_q3_n, c_q3_s]))] (va_A [(a_q0, .inr (6, [.ref a_q0_forms, .ref a_q0_roll, .ref a_q0_row, .ref a_q0_rows, .ref a_q0_factors, .ref a_q0_found, .ref a_q0_foundOtherwise, .int c_q0_acts, .int c_q0_refusals, .int c_q0_knocks])), (a_q0_forms, .inl (cyJ, 6, .inr (.inl f_q0_forms))), (a_q3, .inr (7, [.long c_q3_n, c_q3_s]))] sz) t) (va_A [(a_q0, .inr (6, [.ref a_q0_forms, .ref a_q0_roll, .ref a_q0_row, .ref a_q0_rows, .ref a_q0_factors, .ref a_q0_found, .ref a_q0_foundOtherwise, .int c_q0_acts, .int c_q0_refusals, .int c_q0_knocks])), (a_q0_forms, .inl (cyJ, 6, .inr (.inl f_q0_forms))), (a_q3, .inr (7, [.long c_q3_n, c_q3_s]))] sz)) (fun _ _ _ => False) 2 12 (va_A [(a_q0, .inr (6, [.ref a_q0_forms, .ref a_q0_roll, .ref a_q0_row, .ref a_q0_rows, .ref a_q0_factors, .ref a_q0_found, .ref a_q0_foundOtherwise, .int c_q0_acts, .int c_q0_refusals, .int c_q0_knocks])), (a_q0_forms, .inl (cyJ, 6, .inr (.inl f_q0_forms))), (a_q3, .inr (7, [.long c_q3_n, c_q3_s]))] sz) := by
  refine vx_ofWH (cc := cL_has) (maxL := 5) (ret := (some .int)) (hh := [(0, 18, 21, 19)]) (by decide) rfl ?_
  intro p e s m args below meth c s₁ B hml hv
  obtain ⟨rfl, ⟨⟨hsz, hP, hK, hD0, hnw⟩, hE⟩, hNc⟩ := hv
  have hx := B.exec
  have hb := B.bytes
  have hr := B.returns
  have hts := atoms_spec (ws := wsL_has) B.pre
  have hown : s.vm.findClass RL = some m.cls := findClass_of_methodNamed B.named
  have hlocks := B.notSynchronized
  have hcf : CallFix _ _ _ _ _ _ _ _ _ := ⟨hx, hb, hml, hown, hts⟩
  have hxt : c.exceptionTable.toList = tableOf [(0, 18, 21, 19)] := vx_table (x := yL_has) B (hts _ List.mem_cons_self)
  have hinX8 : ∀ w ∈ u_ws RX8 TX8 2, w ∈ wsL_has := by decide +kernel
  have hfl13 := hnw.use (A := ([.ref a_q0, .int p1, .int p2, .ref a_q3] : List Value).toArray) (w := .fieldLinkNest RL 13 "FormwheelLaw$Out" "n" "J" "FormwheelLaw") (by decide +kernel)
  subst hsz
  have hD := hD0.self (sz := s.heap.size)
  generalize hAe : va_A [(a_q0, .inr (6, [.ref a_q0_forms, .ref a_q0_roll, .ref a_q0_row, .ref a_q0_rows, .ref a_q0_factors, .ref a_q0_found, .ref a_q0_foundOtherwise, .int c_q0_acts, .int c_q0_refusals, .int c_q0_knocks])), (a_q0_forms, .inl (cyJ, 6, .inr (.inl f_q0_forms))), (a_q3, .inr (7, [.long c_q3_n, c_q3_s]))] s.heap.size = A at hD hE ⊢
  have hA : ∀ q : Nat, s.heap.size ≤ q → A q := fun q h => by rw [← hAe]; exact Or.inr h
  have hS : va_S A s.heap s.heap [] := va_S.rf
  have hP : va_P D vwCl [(a_q0, .inr (6, [.ref a_q0_forms, .ref a_q0_roll, .ref a_q0_row, .ref a_q0_rows, .ref a_q0_factors, .ref a_q0_found, .ref a_q0_foundOtherwise, .int c_q0_acts, .int c_q0_refusals, .int c_q0_knocks])), (a_q0_forms, .inl (cyJ, 6, .inr (.inl f_q0_forms))), (a_q3, .inr (7, [.long c_q3_n, c_q3_s]))] s.heap := hP
  have hK0 := hK
  have hl := lv_entry ([.ref a_q0, .int p1, .int p2, .ref a_q3]) (n := 5) (Nat.le_of_ble_eq_true rfl)
  rw [lg_entry_eq]
  generalize (lg_sl ([.ref a_q0, .int p1, .int p2, .ref a_q3]) ++ List.replicate (5 - (lg_sl ([.ref a_q0, .int p1, .int p2, .ref a_q3])).length) Slot.unset).toArray = ls at hl ⊢
  have hl : lv_has ls 5 [(0, .ref a_q0), (1, .int p1), (2, .int p2), (3, .ref a_q3)] := hl
  have h := hF
  clear hF
  unfold F_L_has at h
  refine lv_aload_n hx hb dL_has_0 rfl (lv_at hl 3 rfl) ?_
  refine lv_aload_n hx hb dL_has_1 rfl (lv_at hl 0 rfl) ?_
  refine lv_iload_n hx hb dL_has_2 rfl (lv_at hl 1 rfl) ?_
  refine lv_iload_n hx hb dL_has_3 rfl (lv_at hl 2 rfl) ?_
  obtain ⟨xc4, r4, hc4, h⟩ := obn2_h h
  have hPc := hP.sub (ws' := [(a_q0, .inr (6, [.ref a_q0_forms, .ref a_q0_roll, .ref a_q0_row, .ref a_q0_rows, .ref a_q0_factors, .ref a_q0_found, .ref a_q0_foundOtherwise, .int c_q0_acts, .int c_q0_refusals, .int c_q0_knocks])), (a_q0_forms, .inl (cyJ, 6, .inr (.inl f_q0_forms)))]) [0, 1] rfl
  have hDc := hD.sub (ws' := [(a_q0, .inr (6, [.ref a_q0_forms, .ref a_q0_roll, .ref a_q0_row, .ref a_q0_rows, .ref a_q0_factors, .ref a_q0_found, .ref a_q0_foundOtherwise, .int c_q0_acts, .int c_q0_refusals, .int c_q0_knocks])), (a_q0_forms, .inl (cyJ, 6, .inr (.inl f_q0_forms)))]) [0, 1] (by decide) rfl
  refine hx_i (w1 := [(a_q0, .inr (6, [.ref a_q0_forms, .ref a_q0_roll, .ref a_q0_row, .ref a_q0_rows, .ref a_q0_factors, .ref a_q0_found, .ref a_q0_foundOtherwise, .int c_q0_acts, .int c_q0_refusals, .int c_q0_knocks])), (a_q0_forms, .inl (cyJ, 6, .inr (.inl f_q0_forms)))]) (wr := [(a_q3, .inr (7, [.long c_q3_n, c_q3_s]))]) (vx_runV (As := [.int p1, .int p2]) (rest := [.ref a_q3]) hcf (c_X7_has l hfl D cyJ s.heap.size a_q0 a_q0_forms a_q0_roll a_q0_row a_q0_rows a_q0_factors a_q0_found a_q0_foundOtherwise c_q0_acts c_q0_refusals c_q0_knocks f_q0_forms p1 p2 xc4 r4 hc4) (cwV 2 hts gL_has_X7_has rfl rfl rfl ydX7_has ⟨Nat.le_of_ble_eq_true rfl, Nat.le_of_ble_eq_true rfl⟩) ⟨bl_PX, va_recv hK hP (ci := 6) (q0 := 0) rfl rfl, pr_PX hPc hK0 hDc hnw hE hS (va_free hD hS hA [0, 1] rfl)⟩ rfl rfl hl.1 rfl (lv_room (Nat.le_of_ble_eq_true rfl)) dL_has_4 ⟨Nat.le_of_ble_eq_true rfl, Nat.le_of_ble_eq_true rfl⟩) hP hD hS hA [0, 1] [2] rfl rfl (by decide) (by decide) (fun E9 ce9 q9 H locs hx9 hE9 hP hD hS hce9 hcv9 hcl9 => ?_) (fun hx9 H locs hP hD hS => ?_)
  · have h := if_ hx9 h
    have hP : va_P D vwCl [(a_q3, .inr (7, [.long c_q3_n, c_q3_s])), (a_q0, .inr (6, [.ref a_q0_forms, .ref a_q0_roll, .ref a_q0_row, .ref a_q0_rows, .ref a_q0_factors, .ref a_q0_found, .ref a_q0_foundOtherwise, .int c_q0_acts, .int c_q0_refusals, .int c_q0_knocks])), (a_q0_forms, .inl (cyJ, 6, .inr (.inl f_q0_forms)))] H := hP
    have hD : va_D A [(a_q3, .inr (7, [.long c_q3_n, c_q3_s])), (a_q0, .inr (6, [.ref a_q0_forms, .ref a_q0_roll, .ref a_q0_row, .ref a_q0_rows, .ref a_q0_factors, .ref a_q0_found, .ref a_q0_foundOtherwise, .int c_q0_acts, .int c_q0_refusals, .int c_q0_knocks])), (a_q0_forms, .inl (cyJ, 6, .inr (.inl f_q0_forms)))] := hD
    by_cases cx0 : xc4 = 1
    · have h := it_ cx0 h
      have hE1 : E9 = "java/lang/IndexOutOfBoundsException" := by rw [hE9, cx0]; rfl
      subst hE1
      refine vx_catch (name := "java/lang/IndexOutOfBoundsException") hown (tableOf []) ⟨0, 18, 21, 19⟩ (tableOf []) hxt (fun z hz => absurd hz List.not_mem_nil) (by decide) (by decide) (hts (.classLink RL 19 "java/lang/IndexOutOfBoundsException") (by decide +kernel)) (va_Nw.use rfl (hE.2.1 (.castable "java/lang/IndexOutOfBoundsException" "java/lang/IndexOutOfBoundsException") (by decide +kernel))) hce9 hcv9 hcl9 ?_
      refine lv_astore (lv' := [(4, .ref q9), (0, .ref a_q0), (1, .int p1), (2, .int p2), (3, .ref a_q3)]) hx hb dL_has_21 hl (by decide) rfl (fun ls hl => ?_)
      refine lv_iconst (v := 1) hx hb dL_has_23 (by decide) ?_
      obtain ⟨e0, e1⟩ := tup2 h
      subst e0
      subst e1
      have hP9 : va_P D vwCl [(a_q0, .inr (6, [.ref a_q0_forms, .ref a_q0_roll, .ref a_q0_row, .ref a_q0_rows, .ref a_q0_factors, .ref a_q0_found, .ref a_q0_foundOtherwise, .int c_q0_acts, .int c_q0_refusals, .int c_q0_knocks])), (a_q0_forms, .inl (cyJ, 6, .inr (.inl f_q0_forms))), (a_q3, .inr (7, [.long c_q3_n, c_q3_s]))] H := hP.sub [1, 2, 0] rfl
      have hD9 : va_D A [(a_q0, .inr (6, [.ref a_q0_forms, .ref a_q0_roll, .ref a_q0_row, .ref a_q0_rows, .ref a_q0_factors, .ref a_q0_found, .ref a_q0_foundOtherwise, .int c_q0_acts, .int c_q0_refusals, .int c_q0_knocks])), (a_q0_forms, .inl (cyJ, 6, .inr (.inl f_q0_forms))), (a_q3, .inr (7, [.long c_q3_n, c_q3_s]))] := hD.sub [1, 2, 0] (by decide) rfl
      refine vx_ret ?_
      exact W.iret hx hb hr (fun t ht hW => ⟨⟨_, (), rfl, rfl, wQA_of ht hP9 hD9⟩, hS.F ht⟩) hS.2.2 dL_has_24
    have h := if_ cx0 h
    cases h
  · have h := it_ hx9 h
    have hP : va_P D vwCl [(a_q3, .inr (7, [.long c_q3_n, c_q3_s])), (a_q0, .inr (6, [.ref a_q0_forms, .ref a_q0_roll, .ref a_q0_row, .ref a_q0_rows, .ref a_q0_factors, .ref a_q0_found, .ref a_q0_foundOtherwise, .int c_q0_acts, .int c_q0_refusals, .int c_q0_knocks])), (a_q0_forms, .inl (cyJ, 6, .inr (.inl f_q0_forms)))] H := hP
    have hD : va_D A [(a_q3, .inr (7, [.long c_q3_n, c_q3_s])), (a_q0, .inr (6, [.ref a_q0_forms, .ref a_q0_roll, .ref a_q0_row, .ref a_q0_rows, .ref a_q0_factors, .ref a_q0_found, .ref a_q0_foundOtherwise, .int c_q0_acts, .int c_q0_refusals, .int c_q0_knocks])), (a_q0_forms, .inl (cyJ, 6, .inr (.inl f_q0_forms)))] := hD
    refine lv_if_eq (tgt := 14) hx hb dL_has_7 (by decide) (fun c7 => ?_) (fun c7 => ?_)
    · have h := it_ c7 h
      refine lv_lconst (v := 0) hx hb dL_has_14 (by decide) ?_
      refine va_putN (D := D) (ci := 7) (v := .long (0 : Int64)) (ty := .long) (C := RX8) (T := TX8) (N := 2) hx hb hts hinX8 tyX8 tyX8_ok nmX8 hown hK hP hD hS 0 rfl rfl 0 (by decide) hfl13 (fun _ h9 => h9) rfl (by decide +kernel) rfl rfl (Nat.le_of_ble_eq_true rfl) dL_has_15 (fun H locs hP hD hS => ?_)
      have hP : va_P D vwCl [(a_q3, .inr (7, [.long (0 : Int64), c_q3_s])), (a_q0, .inr (6, [.ref a_q0_forms, .ref a_q0_roll, .ref a_q0_row, .ref a_q0_rows, .ref a_q0_factors, .ref a_q0_found, .ref a_q0_foundOtherwise, .int c_q0_acts, .int c_q0_refusals, .int c_q0_knocks])), (a_q0_forms, .inl (cyJ, 6, .inr (.inl f_q0_forms)))] H := hP
      have hD : va_D A [(a_q3, .inr (7, [.long (0 : Int64), c_q3_s])), (a_q0, .inr (6, [.ref a_q0_forms, .ref a_q0_roll, .ref a_q0_row, .ref a_q0_rows, .ref a_q0_factors, .ref a_q0_found, .ref a_q0_foundOtherwise, .int c_q0_acts, .int c_q0_refusals, .int c_q0_knocks])), (a_q0_forms, .inl (cyJ, 6, .inr (.inl f_q0_forms)))] := hD
      refine lv_goto (tgt := 25) hx hb dL_has_18 (by decide) ?_
      refine lv_iconst (v := 0) hx hb dL_has_25 (by decide) ?_
      obtain ⟨e0, e1⟩ := tup2 h
      subst e0
      subst e1
      have hP9 : va_P D vwCl [(a_q0, .inr (6, [.ref a_q0_forms, .ref a_q0_roll, .ref a_q0_row, .ref a_q0_rows, .ref a_q0_factors, .ref a_q0_found, .ref a_q0_foundOtherwise, .int c_q0_acts, .int c_q0_refusals, .int c_q0_knocks])), (a_q0_forms, .inl (cyJ, 6, .inr (.inl f_q0_forms))), (a_q3, .inr (7, [.long (0 : Int64), c_q3_s]))] H := hP.sub [1, 2, 0] rfl
      have hD9 : va_D A [(a_q0, .inr (6, [.ref a_q0_forms, .ref a_q0_roll, .ref a_q0_row, .ref a_q0_rows, .ref a_q0_factors, .ref a_q0_found, .ref a_q0_foundOtherwise, .int c_q0_acts, .int c_q0_refusals, .int c_q0_knocks])), (a_q0_forms, .inl (cyJ, 6, .inr (.inl f_q0_forms))), (a_q3, .inr (7, [.long (0 : Int64), c_q3_s]))] := hD.sub [1, 2, 0] (by decide) rfl
      refine vx_ret ?_
      exact W.iret hx hb hr (fun t ht hW => ⟨⟨_, (), rfl, rfl, wQA_of ht hP9 hD9⟩, hS.F ht⟩) hS.2.2 dL_has_26
    · have h := if_ c7 h
      refine lv_lconst (v := 1) hx hb dL_has_10 (by decide) ?_
      refine lv_goto (tgt := 15) hx hb dL_has_11 (by decide) ?_
      refine va_putN (D := D) (ci := 7) (v := .long (1 : Int64)) (ty := .long) (C := RX8) (T := TX8) (N := 2) hx hb hts hinX8 tyX8 tyX8_ok nmX8 hown hK hP hD hS 0 rfl rfl 0 (by decide) hfl13 (fun _ h9 => h9) rfl (by decide +kernel) rfl rfl (Nat.le_of_ble_eq_true rfl) dL_has_15 (fun H locs hP hD hS => ?_)
      have hP : va_P D vwCl [(a_q3, .inr (7, [.long (1 : Int64), c_q3_s])), (a_q0, .inr (6, [.ref a_q0_forms, .ref a_q0_roll, .ref a_q0_row, .ref a_q0_rows, .ref a_q0_factors, .ref a_q0_found, .ref a_q0_foundOtherwise, .int c_q0_acts, .int c_q0_refusals, .int c_q0_knocks])), (a_q0_forms, .inl (cyJ, 6, .inr (.inl f_q0_forms)))] H := hP
      have hD : va_D A [(a_q3, .inr (7, [.long (1 : Int64), c_q3_s])), (a_q0, .inr (6, [.ref a_q0_forms, .ref a_q0_roll, .ref a_q0_row, .ref a_q0_rows, .ref a_q0_factors, .ref a_q0_found, .ref a_q0_foundOtherwise, .int c_q0_acts, .int c_q0_refusals, .int c_q0_knocks])), (a_q0_forms, .inl (cyJ, 6, .inr (.inl f_q0_forms)))] := hD
      refine lv_goto (tgt := 25) hx hb dL_has_18 (by decide) ?_
      refine lv_iconst (v := 0) hx hb dL_has_25 (by decide) ?_
      obtain ⟨e0, e1⟩ := tup2 h
      subst e0
      subst e1
      have hP9 : va_P D vwCl [(a_q0, .inr (6, [.ref a_q0_forms, .ref a_q0_roll, .ref a_q0_row, .ref a_q0_rows, .ref a_q0_factors, .ref a_q0_found, .ref a_q0_foundOtherwise, .int c_q0_acts, .int c_q0_refusals, .int c_q0_knocks])), (a_q0_forms, .inl (cyJ, 6, .inr (.inl f_q0_forms))), (a_q3, .inr (7, [.long (1 : Int64), c_q3_s]))] H := hP.sub [1, 2, 0] rfl
      have hD9 : va_D A [(a_q0, .inr (6, [.ref a_q0_forms, .ref a_q0_roll, .ref a_q0_row, .ref a_q0_rows, .ref a_q0_factors, .ref a_q0_found, .ref a_q0_foundOtherwise, .int c_q0_acts, .int c_q0_refusals, .int c_q0_knocks])), (a_q0_forms, .inl (cyJ, 6, .inr (.inl f_q0_forms))), (a_q3, .inr (7, [.long (1 : Int64), c_q3_s]))] := hD.sub [1, 2, 0] (by decide) rfl
      refine vx_ret ?_
      exact W.iret hx hb hr (fun t ht hW => ⟨⟨_, (), rfl, rfl, wQA_of ht hP9 hD9⟩, hS.F ht⟩) hS.2.2 dL_has_26
