noncomputable abbrev rmL_set : Room := { frames := 10, cells := 2, slots := 12, locals := 145 }
theorem ydL_set : yL_set.cls ≠ "java/lang/invoke/MethodHandle" ∧ yL_set.cls ≠ "java/lang/invoke/VarHandle" ∧ (parseMethodDescriptor yL_set.desc).map (fun d => d.parameters.length) = some 4 := by decide +kernel
noncomputable def F_L_set (c_q0_acts : Int32) (f_q0_forms : Nat → Int64) (c_q3_n : Int64) (p1 : Int32) (p2 : Int32) : Option (Int32 × Int32 × (Nat → Int64) × Int64) :=
 obn4 (F_X7_set c_q0_acts f_q0_forms p1 p2) (fun xc4 r4 c_q0_acts_4 f_q0_forms_4 =>
 if xc4 = 0 then
 bnd r4.toInt64 (fun c_q3_n_8 =>
 some ((0 : Int32), c_q0_acts_4, f_q0_forms_4, c_q3_n_8))
else
 (if xc4 = 1 then
 some ((1 : Int32), c_q0_acts_4, f_q0_forms_4, c_q3_n)
else
 (if xc4 = 2 then
 some ((2 : Int32), c_q0_acts_4, f_q0_forms_4, c_q3_n)
else
 none)))
set_option maxHeartbeats 4000000 in
set_option maxRecDepth 100000 in
theorem c_L_set (l : Launch) (hfl : l.stackTraces = false) (D : va_G) (cyJ : ClassId) (sz : Nat) (a_q0 : Nat) (a_q3 : Nat) (a_q0_forms : Nat) (a_q0_roll : Nat) (a_q0_row : Nat) (a_q0_rows : Nat) (a_q0_factors : Nat) (a_q0_found : Nat) (a_q0_foundOtherwise : Nat) (c_q0_acts : Int32) (c_q0_refusals : Int32) (c_q0_knocks : Int32) (f_q0_forms : Nat → Int64) (c_q3_n : Int64) (c_q3_s : Value) (p1 : Int32) (p2 : Int32) (r0 : Int32) (o_c_q0_acts : Int32) (o_f_q0_forms : Nat → Int64) (o_c_q3_n : Int64) (hF : F_L_set c_q0_acts f_q0_forms c_q3_n p1 p2 = some (r0, o_c_q0_acts, o_f_q0_forms, o_c_q3_n)) : vx_Met l yL_set wsL_set rmL_set (va_Pc [.ref a_q0, .int p1, .int p2, .ref a_q3] (wPL D [(cyJ, .long)] [(a_q0, .inr (6, [.ref a_q0_forms, .ref a_q0_roll, .ref a_q0_row, .ref a_q0_rows, .ref a_q0_factors, .ref a_q0_found, .ref a_q0_foundOtherwise, .int c_q0_acts, .int c_q0_refusals, .int c_q0_knocks])), (a_q0_forms, .inl (cyJ, 6, .inr (.inl f_q0_forms))), (a_q3, .inr (7, [.long c_q3_n, c_q3_s]))] sz)) (va_Qi (fun (r : Int32) (_ : Unit) => r = r0) (fun _ t => wQA D [(a_q0, .inr (6, [.ref a_q0_forms, .ref a_q0_roll, .ref a_q0_row, .ref a_q0_rows, .ref a_q0_factors, .ref a_q0_found, .ref a_q0_foundOtherwise, .int o_c_q0_acts, .int c_q0_refusals, .int c_q0_knocks])), (a_q0_forms, .inl (cyJ, 6, .inr (.inl o_f_q0_forms))), (a_q3, .inr (7, [.long o_c_q3_n, c_q3_s]))] (va_A [(a_q0, .inr (6, [.ref a_q0_forms, .ref a_q0_roll, .ref a_q0_row, .ref a_q0_rows, .ref a_q0_factors, .ref a_q0_found, .ref a_q0_foundOtherwise, .int c_q0_acts, .int c_q0_refusals, .int c_q0_knocks])), (a_q0_forms, .inl (cyJ, 6, .inr (.inl f_q0_forms))), (a_q3, .inr (7, [.long c_q3_n, c_q3_s]))] sz) t) (va_A [(a_q0, .inr (6, [.ref a_q0_forms, .ref a_q0_roll, .ref a_q0_row, .ref a_q0_rows, .ref a_q0_factors, .ref a_q0_found, .ref a_q0_foundOtherwise, .int c_q0_acts, .int c_q0_refusals, .int c_q0_knocks])), (a_q0_forms, .inl (cyJ, 6, .inr (.inl f_q0_forms))), (a_q3, .inr (7, [.long c_q3_n, c_q3_s]))] sz)) (fun _ _ _ => False) 2 12 (va_A [(a_q0, .inr (6, [.ref a_q0_forms, .ref a_q0_roll, .ref a_q0_row, .ref a_q0_rows, .ref a_q0_factors, .ref a_q0_found, .ref a_q0_foundOtherwise, .int c_q0_acts, .int c_q0_refusals, .int c_q0_knocks])), (a_q0_forms, .inl (cyJ, 6, .inr (.inl f_q0_forms))), (a_q3, .inr (7, [.long c_q3_n, c_q3_s]))] sz) := by
  refine vx_ofWH (cc := cL_set) (maxL := 5) (ret := (some .int)) (hh := [(0, 11, 14, 19), (0, 11, 18, 21)]) (by decide) rfl ?_
  intro p e s m args below meth c s₁ B hml hv
  obtain ⟨rfl, ⟨⟨hsz, hP, hK, hD0, hnw⟩, hE⟩, hNc⟩ := hv
  have hx := B.exec
  have hb := B.bytes
  have hr := B.returns
  have hts := atoms_spec (ws := wsL_set) B.pre
  have hown : s.vm.findClass RL = some m.cls := findClass_of_methodNamed B.named
  have hlocks := B.notSynchronized
  have hcf : CallFix _ _ _ _ _ _ _ _ _ := ⟨hx, hb, hml, hown, hts⟩
  have hxt : c.exceptionTable.toList = tableOf [(0, 11, 14, 19), (0, 11, 18, 21)] := vx_table (x := yL_set) B (hts _ List.mem_cons_self)
  have hinX8 : ∀ w ∈ u_ws RX8 TX8 2, w ∈ wsL_set := by decide +kernel
  have hfl13 := hnw.use (A := ([.ref a_q0, .int p1, .int p2, .ref a_q3] : List Value).toArray) (w := .fieldLinkNest RL 13 "FormwheelLaw$Out" "n" "J" "FormwheelLaw") (by decide +kernel)
  subst hsz
  have hD := hD0.self (sz := s.heap.size)
  generalize hAe : va_A [(a_q0, .inr (6, [.ref a_q0_forms, .ref a_q0_roll, .ref a_q0_row, .ref a_q0_rows, .ref a_q0_factors, .ref a_q0_found, .ref a_q0_foundOtherwise, .int c_q0_acts, .int c_q0_refusals, .int c_q0_knocks])), (a_q0_forms, .inl (cyJ, 6, .inr (.inl f_q0_forms))), (a_q3, .inr (7, [.long c_q3_n, c_q3_s]))] s.heap.size = A at hD hE ⊢
  have hA : ∀ q : Nat, s.heap.size ≤ q → A q := fun q h => by rw [← hAe]; exact Or.inr h
  have hS : va_S A s.heap s.heap [] := va_S.rf
  have hP : va_P D vwCl [(a_q0, .inr (6, [.ref a_q0_forms, .ref a_q0_roll, .ref a_q0_row, .ref a_q0_rows, .ref a_q0_factors, .ref a_q0_found, .ref a_q0_foundOtherwise, .int c_q0_acts, .int c_q0_refusals, .int c_q0_knocks])), (a_q0_forms, .inl (cyJ, 6, .inr (.inl f_q0_forms))), (a_q3, .inr (7, [.long c_q3_n, c_q3_s]))] s.heap := hP
  have hK0 := hK
  have hl := lv_entry ([.ref a_q0, .int p1, .int p2, .ref a_q3]) (n := 5) (Nat.le_of_ble_eq_true rfl)
  rw [lg_entry_eq]
  generalize (lg_sl ([.ref a_q0, .int p1, .int p2, .ref a_q3]) ++ List.replicate (5 - (lg_sl ([.ref a_q0, .int p1, .int p2, .ref a_q3])).length) Slot.unset).toArray = ls at hl ⊢
  have hl : lv_has ls 5 [(0, .ref a_q0), (1, .int p1), (2, .int p2), (3, .ref a_q3)] := hl
  have h := hF
  clear hF
  unfold F_L_set at h
  refine lv_aload_n hx hb dL_set_0 rfl (lv_at hl 3 rfl) ?_
  refine lv_aload_n hx hb dL_set_1 rfl (lv_at hl 0 rfl) ?_
  refine lv_iload_n hx hb dL_set_2 rfl (lv_at hl 1 rfl) ?_
  refine lv_iload_n hx hb dL_set_3 rfl (lv_at hl 2 rfl) ?_
  obtain ⟨xc4, r4, c_q0_acts_4, f_q0_forms_4, hc4, h⟩ := obn4_h h
  have hPc := hP.sub (ws' := [(a_q0, .inr (6, [.ref a_q0_forms, .ref a_q0_roll, .ref a_q0_row, .ref a_q0_rows, .ref a_q0_factors, .ref a_q0_found, .ref a_q0_foundOtherwise, .int c_q0_acts, .int c_q0_refusals, .int c_q0_knocks])), (a_q0_forms, .inl (cyJ, 6, .inr (.inl f_q0_forms)))]) [0, 1] rfl
  have hDc := hD.sub (ws' := [(a_q0, .inr (6, [.ref a_q0_forms, .ref a_q0_roll, .ref a_q0_row, .ref a_q0_rows, .ref a_q0_factors, .ref a_q0_found, .ref a_q0_foundOtherwise, .int c_q0_acts, .int c_q0_refusals, .int c_q0_knocks])), (a_q0_forms, .inl (cyJ, 6, .inr (.inl f_q0_forms)))]) [0, 1] (by decide) rfl
  refine hx_i (w1 := [(a_q0, .inr (6, [.ref a_q0_forms, .ref a_q0_roll, .ref a_q0_row, .ref a_q0_rows, .ref a_q0_factors, .ref a_q0_found, .ref a_q0_foundOtherwise, .int c_q0_acts_4, .int c_q0_refusals, .int c_q0_knocks])), (a_q0_forms, .inl (cyJ, 6, .inr (.inl f_q0_forms_4)))]) (wr := [(a_q3, .inr (7, [.long c_q3_n, c_q3_s]))]) (vx_runV (As := [.int p1, .int p2]) (rest := [.ref a_q3]) hcf (c_X7_set l hfl D cyJ s.heap.size a_q0 a_q0_forms a_q0_roll a_q0_row a_q0_rows a_q0_factors a_q0_found a_q0_foundOtherwise c_q0_acts c_q0_refusals c_q0_knocks f_q0_forms p1 p2 xc4 r4 c_q0_acts_4 f_q0_forms_4 hc4) (cwV 2 hts gL_set_X7_set rfl rfl rfl ydX7_set ⟨Nat.le_of_ble_eq_true rfl, Nat.le_of_ble_eq_true rfl⟩) ⟨bl_PX, va_recv hK hP (ci := 6) (q0 := 0) rfl rfl, pr_PX hPc hK0 hDc hnw hE hS (va_free hD hS hA [0, 1] rfl)⟩ rfl rfl hl.1 rfl (lv_room (Nat.le_of_ble_eq_true rfl)) dL_set_4 ⟨Nat.le_of_ble_eq_true rfl, Nat.le_of_ble_eq_true rfl⟩) hP hD hS hA [0, 1] [2] rfl rfl (by decide) (by decide) (fun E9 ce9 q9 H locs hx9 hE9 hP hD hS hce9 hcv9 hcl9 => ?_) (fun hx9 H locs hP hD hS => ?_)
  · have h := if_ hx9 h
    have hP : va_P D vwCl [(a_q3, .inr (7, [.long c_q3_n, c_q3_s])), (a_q0, .inr (6, [.ref a_q0_forms, .ref a_q0_roll, .ref a_q0_row, .ref a_q0_rows, .ref a_q0_factors, .ref a_q0_found, .ref a_q0_foundOtherwise, .int c_q0_acts_4, .int c_q0_refusals, .int c_q0_knocks])), (a_q0_forms, .inl (cyJ, 6, .inr (.inl f_q0_forms_4)))] H := hP
    have hD : va_D A [(a_q3, .inr (7, [.long c_q3_n, c_q3_s])), (a_q0, .inr (6, [.ref a_q0_forms, .ref a_q0_roll, .ref a_q0_row, .ref a_q0_rows, .ref a_q0_factors, .ref a_q0_found, .ref a_q0_foundOtherwise, .int c_q0_acts_4, .int c_q0_refusals, .int c_q0_knocks])), (a_q0_forms, .inl (cyJ, 6, .inr (.inl f_q0_forms_4)))] := hD
    by_cases cx0 : xc4 = 1
    · have h := it_ cx0 h
      have hE1 : E9 = "java/lang/IndexOutOfBoundsException" := by rw [hE9, cx0]; rfl
      subst hE1
      refine vx_catch (name := "java/lang/IndexOutOfBoundsException") hown (tableOf []) ⟨0, 11, 14, 19⟩ (tableOf [(0, 11, 18, 21)]) hxt (fun z hz => absurd hz List.not_mem_nil) (by decide) (by decide) (hts (.classLink RL 19 "java/lang/IndexOutOfBoundsException") (by decide +kernel)) (va_Nw.use rfl (hE.2.1 (.castable "java/lang/IndexOutOfBoundsException" "java/lang/IndexOutOfBoundsException") (by decide +kernel))) hce9 hcv9 hcl9 ?_
      refine lv_astore (lv' := [(4, .ref q9), (0, .ref a_q0), (1, .int p1), (2, .int p2), (3, .ref a_q3)]) hx hb dL_set_14 hl (by decide) rfl (fun ls hl => ?_)
      refine lv_iconst (v := 1) hx hb dL_set_16 (by decide) ?_
      obtain ⟨e0, e1, e2, e3⟩ := tup4 h
      subst e0
      subst e1
      subst e2
      subst e3
      have hP9 : va_P D vwCl [(a_q0, .inr (6, [.ref a_q0_forms, .ref a_q0_roll, .ref a_q0_row, .ref a_q0_rows, .ref a_q0_factors, .ref a_q0_found, .ref a_q0_foundOtherwise, .int c_q0_acts_4, .int c_q0_refusals, .int c_q0_knocks])), (a_q0_forms, .inl (cyJ, 6, .inr (.inl f_q0_forms_4))), (a_q3, .inr (7, [.long c_q3_n, c_q3_s]))] H := hP.sub [1, 2, 0] rfl
      have hD9 : va_D A [(a_q0, .inr (6, [.ref a_q0_forms, .ref a_q0_roll, .ref a_q0_row, .ref a_q0_rows, .ref a_q0_factors, .ref a_q0_found, .ref a_q0_foundOtherwise, .int c_q0_acts_4, .int c_q0_refusals, .int c_q0_knocks])), (a_q0_forms, .inl (cyJ, 6, .inr (.inl f_q0_forms_4))), (a_q3, .inr (7, [.long c_q3_n, c_q3_s]))] := hD.sub [1, 2, 0] (by decide) rfl
      refine vx_ret ?_
      exact W.iret hx hb hr (fun t ht hW => ⟨⟨_, (), rfl, rfl, wQA_of ht hP9 hD9⟩, hS.F ht⟩) hS.2.2 dL_set_17
    have h := if_ cx0 h
    by_cases cx1 : xc4 = 2
    · have h := it_ cx1 h
      have hE1 : E9 = "java/lang/IllegalArgumentException" := by rw [hE9, cx1]; rfl
      subst hE1
      refine vx_catch (name := "java/lang/IllegalArgumentException") hown (tableOf [(0, 11, 14, 19)]) ⟨0, 11, 18, 21⟩ (tableOf []) hxt (fun z hz => by obtain rfl := List.mem_singleton.mp hz; exact Or.inr ⟨by decide, "java/lang/IndexOutOfBoundsException", hts (.classLink RL 19 "java/lang/IndexOutOfBoundsException") (by decide +kernel), hNc⟩) (by decide) (by decide) (hts (.classLink RL 21 "java/lang/IllegalArgumentException") (by decide +kernel)) (va_Nw.use rfl (hE.2.1 (.castable "java/lang/IllegalArgumentException" "java/lang/IllegalArgumentException") (by decide +kernel))) hce9 hcv9 hcl9 ?_
      refine lv_astore (lv' := [(4, .ref q9), (0, .ref a_q0), (1, .int p1), (2, .int p2), (3, .ref a_q3)]) hx hb dL_set_18 hl (by decide) rfl (fun ls hl => ?_)
      refine lv_iconst (v := 2) hx hb dL_set_20 (by decide) ?_
      obtain ⟨e0, e1, e2, e3⟩ := tup4 h
      subst e0
      subst e1
      subst e2
      subst e3
      have hP9 : va_P D vwCl [(a_q0, .inr (6, [.ref a_q0_forms, .ref a_q0_roll, .ref a_q0_row, .ref a_q0_rows, .ref a_q0_factors, .ref a_q0_found, .ref a_q0_foundOtherwise, .int c_q0_acts_4, .int c_q0_refusals, .int c_q0_knocks])), (a_q0_forms, .inl (cyJ, 6, .inr (.inl f_q0_forms_4))), (a_q3, .inr (7, [.long c_q3_n, c_q3_s]))] H := hP.sub [1, 2, 0] rfl
      have hD9 : va_D A [(a_q0, .inr (6, [.ref a_q0_forms, .ref a_q0_roll, .ref a_q0_row, .ref a_q0_rows, .ref a_q0_factors, .ref a_q0_found, .ref a_q0_foundOtherwise, .int c_q0_acts_4, .int c_q0_refusals, .int c_q0_knocks])), (a_q0_forms, .inl (cyJ, 6, .inr (.inl f_q0_forms_4))), (a_q3, .inr (7, [.long c_q3_n, c_q3_s]))] := hD.sub [1, 2, 0] (by decide) rfl
      refine vx_ret ?_
      exact W.iret hx hb hr (fun t ht hW => ⟨⟨_, (), rfl, rfl, wQA_of ht hP9 hD9⟩, hS.F ht⟩) hS.2.2 dL_set_21
    have h := if_ cx1 h
    cases h
  · have h := it_ hx9 h
    have hP : va_P D vwCl [(a_q3, .inr (7, [.long c_q3_n, c_q3_s])), (a_q0, .inr (6, [.ref a_q0_forms, .ref a_q0_roll, .ref a_q0_row, .ref a_q0_rows, .ref a_q0_factors, .ref a_q0_found, .ref a_q0_foundOtherwise, .int c_q0_acts_4, .int c_q0_refusals, .int c_q0_knocks])), (a_q0_forms, .inl (cyJ, 6, .inr (.inl f_q0_forms_4)))] H := hP
    have hD : va_D A [(a_q3, .inr (7, [.long c_q3_n, c_q3_s])), (a_q0, .inr (6, [.ref a_q0_forms, .ref a_q0_roll, .ref a_q0_row, .ref a_q0_rows, .ref a_q0_factors, .ref a_q0_found, .ref a_q0_foundOtherwise, .int c_q0_acts_4, .int c_q0_refusals, .int c_q0_knocks])), (a_q0_forms, .inl (cyJ, 6, .inr (.inl f_q0_forms_4)))] := hD
    refine lv_i2l (v := r4.toInt64) hx hb dL_set_7 rfl ?_
    refine lv_topl (fun c_q3_n_8 e_c_q3_n_8 => ?_)
    have h := bnd_h e_c_q3_n_8 h
    refine va_putN (D := D) (ci := 7) (v := .long c_q3_n_8) (ty := .long) (C := RX8) (T := TX8) (N := 2) hx hb hts hinX8 tyX8 tyX8_ok nmX8 hown hK hP hD hS 0 rfl rfl 0 (by decide) hfl13 (fun _ h9 => h9) rfl (by decide +kernel) rfl rfl (Nat.le_of_ble_eq_true rfl) dL_set_8 (fun H locs hP hD hS => ?_)
    have hP : va_P D vwCl [(a_q3, .inr (7, [.long c_q3_n_8, c_q3_s])), (a_q0, .inr (6, [.ref a_q0_forms, .ref a_q0_roll, .ref a_q0_row, .ref a_q0_rows, .ref a_q0_factors, .ref a_q0_found, .ref a_q0_foundOtherwise, .int c_q0_acts_4, .int c_q0_refusals, .int c_q0_knocks])), (a_q0_forms, .inl (cyJ, 6, .inr (.inl f_q0_forms_4)))] H := hP
    have hD : va_D A [(a_q3, .inr (7, [.long c_q3_n_8, c_q3_s])), (a_q0, .inr (6, [.ref a_q0_forms, .ref a_q0_roll, .ref a_q0_row, .ref a_q0_rows, .ref a_q0_factors, .ref a_q0_found, .ref a_q0_foundOtherwise, .int c_q0_acts_4, .int c_q0_refusals, .int c_q0_knocks])), (a_q0_forms, .inl (cyJ, 6, .inr (.inl f_q0_forms_4)))] := hD
    refine lv_goto (tgt := 22) hx hb dL_set_11 (by decide) ?_
    refine lv_iconst (v := 0) hx hb dL_set_22 (by decide) ?_
    obtain ⟨e0, e1, e2, e3⟩ := tup4 h
    subst e0
    subst e1
    subst e2
    subst e3
    have hP9 : va_P D vwCl [(a_q0, .inr (6, [.ref a_q0_forms, .ref a_q0_roll, .ref a_q0_row, .ref a_q0_rows, .ref a_q0_factors, .ref a_q0_found, .ref a_q0_foundOtherwise, .int c_q0_acts_4, .int c_q0_refusals, .int c_q0_knocks])), (a_q0_forms, .inl (cyJ, 6, .inr (.inl f_q0_forms_4))), (a_q3, .inr (7, [.long c_q3_n_8, c_q3_s]))] H := hP.sub [1, 2, 0] rfl
    have hD9 : va_D A [(a_q0, .inr (6, [.ref a_q0_forms, .ref a_q0_roll, .ref a_q0_row, .ref a_q0_rows, .ref a_q0_factors, .ref a_q0_found, .ref a_q0_foundOtherwise, .int c_q0_acts_4, .int c_q0_refusals, .int c_q0_knocks])), (a_q0_forms, .inl (cyJ, 6, .inr (.inl f_q0_forms_4))), (a_q3, .inr (7, [.long c_q3_n_8, c_q3_s]))] := hD.sub [1, 2, 0] (by decide) rfl
    refine vx_ret ?_
    exact W.iret hx hb hr (fun t ht hW => ⟨⟨_, (), rfl, rfl, wQA_of ht hP9 hD9⟩, hS.F ht⟩) hS.2.2 dL_set_23

noncomputable abbrev rmL_digit : Room := { frames := 10, cells := 3, slots := 18, locals := 147 }
theorem ydL_digit : yL_digit.cls ≠ "java/lang/invoke/MethodHandle" ∧ yL_digit.cls ≠ "java/lang/invoke/VarHandle" ∧ (parseMethodDescriptor yL_digit.desc).map (fun d => d.parameters.length) = some 5 := by decide +kernel
noncomputable def F_L_digit (c_q0_acts : Int32) (f_q0_forms : Nat → Int64) (c_q4_n : Int64) (p1 : Int32) (p2 : Int32) (p3 : Int32) : Option (Int32 × Int32 × (Nat → Int64) × Int64) :=
 obn4 (F_X7_digit c_q0_acts f_q0_forms p1 p2 p3) (fun xc6 r6 c_q0_acts_6 f_q0_forms_6 =>
 if xc6 = 0 then
 bnd r6.toInt64 (fun c_q4_n_10 =>
 some ((0 : Int32), c_q0_acts_6, f_q0_forms_6, c_q4_n_10))
else
 (if xc6 = 1 then
 some ((1 : Int32), c_q0_acts_6, f_q0_forms_6, c_q4_n)
else
 (if xc6 = 2 then
 some ((2 : Int32), c_q0_acts_6, f_q0_forms_6, c_q4_n)
else
 none)))
set_option maxHeartbeats 4000000 in
set_option maxRecDepth 100000 in
theorem c_L_digit (l : Launch) (hfl : l.stackTraces = false) (D : va_G) (cyJ : ClassId) (sz : Nat) (a_q0 : Nat) (a_q4 : Nat) (a_q0_forms : Nat) (a_q0_roll : Nat) (a_q0_row : Nat) (a_q0_rows : Nat) (a_q0_factors : Nat) (a_q0_found : Nat) (a_q0_foundOtherwise : Nat) (c_q0_acts : Int32) (c_q0_refusals : Int32) (c_q0_knocks : Int32) (f_q0_forms : Nat → Int64) (c_q4_n : Int64) (c_q4_s : Value) (p1 : Int32) (p2 : Int32) (p3 : Int32) (r0 : Int32) (o_c_q0_acts : Int32) (o_f_q0_forms : Nat → Int64) (o_c_q4_n : Int64) (hF : F_L_digit c_q0_acts f_q0_forms c_q4_n p1 p2 p3 = some (r0, o_c_q0_acts, o_f_q0_forms, o_c_q4_n)) : vx_Met l yL_digit wsL_digit rmL_digit (va_Pc [.ref a_q0, .int p1, .int p2, .int p3, .ref a_q4] (wPL D [(cyJ, .long)] [(a_q0, .inr (6, [.ref a_q0_forms, .ref a_q0_roll, .ref a_q0_row, .ref a_q0_rows, .ref a_q0_factors, .ref a_q0_found, .ref a_q0_foundOtherwise, .int c_q0_acts, .int c_q0_refusals, .int c_q0_knocks])), (a_q0_forms, .inl (cyJ, 6, .inr (.inl f_q0_forms))), (a_q4, .inr (7, [.long c_q4_n, c_q4_s]))] sz)) (va_Qi (fun (r : Int32) (_ : Unit) => r = r0) (fun _ t => wQA D [(a_q0, .inr (6, [.ref a_q0_forms, .ref a_q0_roll, .ref a_q0_row, .ref a_q0_rows, .ref a_q0_factors, .ref a_q0_found, .ref a_q0_foundOtherwise, .int o_c_q0_acts, .int c_q0_refusals, .int c_q0_knocks])), (a_q0_forms, .inl (cyJ, 6, .inr (.inl o_f_q0_forms))), (a_q4, .inr (7, [.long o_c_q4_n, c_q4_s]))] (va_A [(a_q0, .inr (6, [.ref a_q0_forms, .ref a_q0_roll, .ref a_q0_row, .ref a_q0_rows, .ref a_q0_factors, .ref a_q0_found, .ref a_q0_foundOtherwise, .int c_q0_acts, .int c_q0_refusals, .int c_q0_knocks])), (a_q0_forms, .inl (cyJ, 6, .inr (.inl f_q0_forms))), (a_q4, .inr (7, [.long c_q4_n, c_q4_s]))] sz) t) (va_A [(a_q0, .inr (6, [.ref a_q0_forms, .ref a_q0_roll, .ref a_q0_row, .ref a_q0_rows, .ref a_q0_factors, .ref a_q0_found, .ref a_q0_foundOtherwise, .int c_q0_acts, .int c_q0_refusals, .int c_q0_knocks])), (a_q0_forms, .inl (cyJ, 6, .inr (.inl f_q0_forms))), (a_q4, .inr (7, [.long c_q4_n, c_q4_s]))] sz)) (fun _ _ _ => False) 3 18 (va_A [(a_q0, .inr (6, [.ref a_q0_forms, .ref a_q0_roll, .ref a_q0_row, .ref a_q0_rows, .ref a_q0_factors, .ref a_q0_found, .ref a_q0_foundOtherwise, .int c_q0_acts, .int c_q0_refusals, .int c_q0_knocks])), (a_q0_forms, .inl (cyJ, 6, .inr (.inl f_q0_forms))), (a_q4, .inr (7, [.long c_q4_n, c_q4_s]))] sz) := by
  refine vx_ofWH (cc := cL_digit) (maxL := 6) (ret := (some .int)) (hh := [(0, 13, 16, 19), (0, 13, 20, 21)]) (by decide) rfl ?_
  intro p e s m args below meth c s₁ B hml hv
  obtain ⟨rfl, ⟨⟨hsz, hP, hK, hD0, hnw⟩, hE⟩, hNc⟩ := hv
  have hx := B.exec
  have hb := B.bytes
  have hr := B.returns
  have hts := atoms_spec (ws := wsL_digit) B.pre
  have hown : s.vm.findClass RL = some m.cls := findClass_of_methodNamed B.named
  have hlocks := B.notSynchronized
  have hcf : CallFix _ _ _ _ _ _ _ _ _ := ⟨hx, hb, hml, hown, hts⟩
  have hxt : c.exceptionTable.toList = tableOf [(0, 13, 16, 19), (0, 13, 20, 21)] := vx_table (x := yL_digit) B (hts _ List.mem_cons_self)
  have hinX8 : ∀ w ∈ u_ws RX8 TX8 2, w ∈ wsL_digit := by decide +kernel
  have hfl13 := hnw.use (A := ([.ref a_q0, .int p1, .int p2, .int p3, .ref a_q4] : List Value).toArray) (w := .fieldLinkNest RL 13 "FormwheelLaw$Out" "n" "J" "FormwheelLaw") (by decide +kernel)
  subst hsz
  have hD := hD0.self (sz := s.heap.size)
  generalize hAe : va_A [(a_q0, .inr (6, [.ref a_q0_forms, .ref a_q0_roll, .ref a_q0_row, .ref a_q0_rows, .ref a_q0_factors, .ref a_q0_found, .ref a_q0_foundOtherwise, .int c_q0_acts, .int c_q0_refusals, .int c_q0_knocks])), (a_q0_forms, .inl (cyJ, 6, .inr (.inl f_q0_forms))), (a_q4, .inr (7, [.long c_q4_n, c_q4_s]))] s.heap.size = A at hD hE ⊢
  have hA : ∀ q : Nat, s.heap.size ≤ q → A q := fun q h => by rw [← hAe]; exact Or.inr h
  have hS : va_S A s.heap s.heap [] := va_S.rf
  have hP : va_P D vwCl [(a_q0, .inr (6, [.ref a_q0_forms, .ref a_q0_roll, .ref a_q0_row, .ref a_q0_rows, .ref a_q0_factors, .ref a_q0_found, .ref a_q0_foundOtherwise, .int c_q0_acts, .int c_q0_refusals, .int c_q0_knocks])), (a_q0_forms, .inl (cyJ, 6, .inr (.inl f_q0_forms))), (a_q4, .inr (7, [.long c_q4_n, c_q4_s]))] s.heap := hP
  have hK0 := hK
  have hl := lv_entry ([.ref a_q0, .int p1, .int p2, .int p3, .ref a_q4]) (n := 6) (Nat.le_of_ble_eq_true rfl)
  rw [lg_entry_eq]
  generalize (lg_sl ([.ref a_q0, .int p1, .int p2, .int p3, .ref a_q4]) ++ List.replicate (6 - (lg_sl ([.ref a_q0, .int p1, .int p2, .int p3, .ref a_q4])).length) Slot.unset).toArray = ls at hl ⊢
  have hl : lv_has ls 6 [(0, .ref a_q0), (1, .int p1), (2, .int p2), (3, .int p3), (4, .ref a_q4)] := hl
  have h := hF
  clear hF
  unfold F_L_digit at h
  refine lv_aload hx hb dL_digit_0 (lv_at hl 4 rfl) ?_
  refine lv_aload_n hx hb dL_digit_2 rfl (lv_at hl 0 rfl) ?_
  refine lv_iload_n hx hb dL_digit_3 rfl (lv_at hl 1 rfl) ?_
  refine lv_iload_n hx hb dL_digit_4 rfl (lv_at hl 2 rfl) ?_
  refine lv_iload_n hx hb dL_digit_5 rfl (lv_at hl 3 rfl) ?_
  obtain ⟨xc6, r6, c_q0_acts_6, f_q0_forms_6, hc6, h⟩ := obn4_h h
  have hPc := hP.sub (ws' := [(a_q0, .inr (6, [.ref a_q0_forms, .ref a_q0_roll, .ref a_q0_row, .ref a_q0_rows, .ref a_q0_factors, .ref a_q0_found, .ref a_q0_foundOtherwise, .int c_q0_acts, .int c_q0_refusals, .int c_q0_knocks])), (a_q0_forms, .inl (cyJ, 6, .inr (.inl f_q0_forms)))]) [0, 1] rfl
  have hDc := hD.sub (ws' := [(a_q0, .inr (6, [.ref a_q0_forms, .ref a_q0_roll, .ref a_q0_row, .ref a_q0_rows, .ref a_q0_factors, .ref a_q0_found, .ref a_q0_foundOtherwise, .int c_q0_acts, .int c_q0_refusals, .int c_q0_knocks])), (a_q0_forms, .inl (cyJ, 6, .inr (.inl f_q0_forms)))]) [0, 1] (by decide) rfl
  refine hx_i (w1 := [(a_q0, .inr (6, [.ref a_q0_forms, .ref a_q0_roll, .ref a_q0_row, .ref a_q0_rows, .ref a_q0_factors, .ref a_q0_found, .ref a_q0_foundOtherwise, .int c_q0_acts_6, .int c_q0_refusals, .int c_q0_knocks])), (a_q0_forms, .inl (cyJ, 6, .inr (.inl f_q0_forms_6)))]) (wr := [(a_q4, .inr (7, [.long c_q4_n, c_q4_s]))]) (vx_runV (As := [.int p1, .int p2, .int p3]) (rest := [.ref a_q4]) hcf (c_X7_digit l hfl D cyJ s.heap.size a_q0 a_q0_forms a_q0_roll a_q0_row a_q0_rows a_q0_factors a_q0_found a_q0_foundOtherwise c_q0_acts c_q0_refusals c_q0_knocks f_q0_forms p1 p2 p3 xc6 r6 c_q0_acts_6 f_q0_forms_6 hc6) (cwV 3 hts gL_digit_X7_digit rfl rfl rfl ydX7_digit ⟨Nat.le_of_ble_eq_true rfl, Nat.le_of_ble_eq_true rfl⟩) ⟨bl_PX, va_recv hK hP (ci := 6) (q0 := 0) rfl rfl, pr_PX hPc hK0 hDc hnw hE hS (va_free hD hS hA [0, 1] rfl)⟩ rfl rfl hl.1 rfl (lv_room (Nat.le_of_ble_eq_true rfl)) dL_digit_6 ⟨Nat.le_of_ble_eq_true rfl, Nat.le_of_ble_eq_true rfl⟩) hP hD hS hA [0, 1] [2] rfl rfl (by decide) (by decide) (fun E9 ce9 q9 H locs hx9 hE9 hP hD hS hce9 hcv9 hcl9 => ?_) (fun hx9 H locs hP hD hS => ?_)
  · have h := if_ hx9 h
    have hP : va_P D vwCl [(a_q4, .inr (7, [.long c_q4_n, c_q4_s])), (a_q0, .inr (6, [.ref a_q0_forms, .ref a_q0_roll, .ref a_q0_row, .ref a_q0_rows, .ref a_q0_factors, .ref a_q0_found, .ref a_q0_foundOtherwise, .int c_q0_acts_6, .int c_q0_refusals, .int c_q0_knocks])), (a_q0_forms, .inl (cyJ, 6, .inr (.inl f_q0_forms_6)))] H := hP
    have hD : va_D A [(a_q4, .inr (7, [.long c_q4_n, c_q4_s])), (a_q0, .inr (6, [.ref a_q0_forms, .ref a_q0_roll, .ref a_q0_row, .ref a_q0_rows, .ref a_q0_factors, .ref a_q0_found, .ref a_q0_foundOtherwise, .int c_q0_acts_6, .int c_q0_refusals, .int c_q0_knocks])), (a_q0_forms, .inl (cyJ, 6, .inr (.inl f_q0_forms_6)))] := hD
    by_cases cx0 : xc6 = 1
    · have h := it_ cx0 h
      have hE1 : E9 = "java/lang/IndexOutOfBoundsException" := by rw [hE9, cx0]; rfl
      subst hE1
      refine vx_catch (name := "java/lang/IndexOutOfBoundsException") hown (tableOf []) ⟨0, 13, 16, 19⟩ (tableOf [(0, 13, 20, 21)]) hxt (fun z hz => absurd hz List.not_mem_nil) (by decide) (by decide) (hts (.classLink RL 19 "java/lang/IndexOutOfBoundsException") (by decide +kernel)) (va_Nw.use rfl (hE.2.1 (.castable "java/lang/IndexOutOfBoundsException" "java/lang/IndexOutOfBoundsException") (by decide +kernel))) hce9 hcv9 hcl9 ?_
      refine lv_astore (lv' := [(5, .ref q9), (0, .ref a_q0), (1, .int p1), (2, .int p2), (3, .int p3), (4, .ref a_q4)]) hx hb dL_digit_16 hl (by decide) rfl (fun ls hl => ?_)
      refine lv_iconst (v := 1) hx hb dL_digit_18 (by decide) ?_
      obtain ⟨e0, e1, e2, e3⟩ := tup4 h
      subst e0
      subst e1
      subst e2
      subst e3
      have hP9 : va_P D vwCl [(a_q0, .inr (6, [.ref a_q0_forms, .ref a_q0_roll, .ref a_q0_row, .ref a_q0_rows, .ref a_q0_factors, .ref a_q0_found, .ref a_q0_foundOtherwise, .int c_q0_acts_6, .int c_q0_refusals, .int c_q0_knocks])), (a_q0_forms, .inl (cyJ, 6, .inr (.inl f_q0_forms_6))), (a_q4, .inr (7, [.long c_q4_n, c_q4_s]))] H := hP.sub [1, 2, 0] rfl
      have hD9 : va_D A [(a_q0, .inr (6, [.ref a_q0_forms, .ref a_q0_roll, .ref a_q0_row, .ref a_q0_rows, .ref a_q0_factors, .ref a_q0_found, .ref a_q0_foundOtherwise, .int c_q0_acts_6, .int c_q0_refusals, .int c_q0_knocks])), (a_q0_forms, .inl (cyJ, 6, .inr (.inl f_q0_forms_6))), (a_q4, .inr (7, [.long c_q4_n, c_q4_s]))] := hD.sub [1, 2, 0] (by decide) rfl
      refine vx_ret ?_
      exact W.iret hx hb hr (fun t ht hW => ⟨⟨_, (), rfl, rfl, wQA_of ht hP9 hD9⟩, hS.F ht⟩) hS.2.2 dL_digit_19
    have h := if_ cx0 h
    by_cases cx1 : xc6 = 2
    · have h := it_ cx1 h
      have hE1 : E9 = "java/lang/IllegalArgumentException" := by rw [hE9, cx1]; rfl
      subst hE1
      refine vx_catch (name := "java/lang/IllegalArgumentException") hown (tableOf [(0, 13, 16, 19)]) ⟨0, 13, 20, 21⟩ (tableOf []) hxt (fun z hz => by obtain rfl := List.mem_singleton.mp hz; exact Or.inr ⟨by decide, "java/lang/IndexOutOfBoundsException", hts (.classLink RL 19 "java/lang/IndexOutOfBoundsException") (by decide +kernel), hNc⟩) (by decide) (by decide) (hts (.classLink RL 21 "java/lang/IllegalArgumentException") (by decide +kernel)) (va_Nw.use rfl (hE.2.1 (.castable "java/lang/IllegalArgumentException" "java/lang/IllegalArgumentException") (by decide +kernel))) hce9 hcv9 hcl9 ?_
      refine lv_astore (lv' := [(5, .ref q9), (0, .ref a_q0), (1, .int p1), (2, .int p2), (3, .int p3), (4, .ref a_q4)]) hx hb dL_digit_20 hl (by decide) rfl (fun ls hl => ?_)
      refine lv_iconst (v := 2) hx hb dL_digit_22 (by decide) ?_
      obtain ⟨e0, e1, e2, e3⟩ := tup4 h
      subst e0
      subst e1
      subst e2
      subst e3
      have hP9 : va_P D vwCl [(a_q0, .inr (6, [.ref a_q0_forms, .ref a_q0_roll, .ref a_q0_row, .ref a_q0_rows, .ref a_q0_factors, .ref a_q0_found, .ref a_q0_foundOtherwise, .int c_q0_acts_6, .int c_q0_refusals, .int c_q0_knocks])), (a_q0_forms, .inl (cyJ, 6, .inr (.inl f_q0_forms_6))), (a_q4, .inr (7, [.long c_q4_n, c_q4_s]))] H := hP.sub [1, 2, 0] rfl
      have hD9 : va_D A [(a_q0, .inr (6, [.ref a_q0_forms, .ref a_q0_roll, .ref a_q0_row, .ref a_q0_rows, .ref a_q0_factors, .ref a_q0_found, .ref a_q0_foundOtherwise, .int c_q0_acts_6, .int c_q0_refusals, .int c_q0_knocks])), (a_q0_forms, .inl (cyJ, 6, .inr (.inl f_q0_forms_6))), (a_q4, .inr (7, [.long c_q4_n, c_q4_s]))] := hD.sub [1, 2, 0] (by decide) rfl
      refine vx_ret ?_
      exact W.iret hx hb hr (fun t ht hW => ⟨⟨_, (), rfl, rfl, wQA_of ht hP9 hD9⟩, hS.F ht⟩) hS.2.2 dL_digit_23
    have h := if_ cx1 h
    cases h
  · have h := it_ hx9 h
    have hP : va_P D vwCl [(a_q4, .inr (7, [.long c_q4_n, c_q4_s])), (a_q0, .inr (6, [.ref a_q0_forms, .ref a_q0_roll, .ref a_q0_row, .ref a_q0_rows, .ref a_q0_factors, .ref a_q0_found, .ref a_q0_foundOtherwise, .int c_q0_acts_6, .int c_q0_refusals, .int c_q0_knocks])), (a_q0_forms, .inl (cyJ, 6, .inr (.inl f_q0_forms_6)))] H := hP
    have hD : va_D A [(a_q4, .inr (7, [.long c_q4_n, c_q4_s])), (a_q0, .inr (6, [.ref a_q0_forms, .ref a_q0_roll, .ref a_q0_row, .ref a_q0_rows, .ref a_q0_factors, .ref a_q0_found, .ref a_q0_foundOtherwise, .int c_q0_acts_6, .int c_q0_refusals, .int c_q0_knocks])), (a_q0_forms, .inl (cyJ, 6, .inr (.inl f_q0_forms_6)))] := hD
    refine lv_i2l (v := r6.toInt64) hx hb dL_digit_9 rfl ?_
    refine lv_topl (fun c_q4_n_10 e_c_q4_n_10 => ?_)
    have h := bnd_h e_c_q4_n_10 h
    refine va_putN (D := D) (ci := 7) (v := .long c_q4_n_10) (ty := .long) (C := RX8) (T := TX8) (N := 2) hx hb hts hinX8 tyX8 tyX8_ok nmX8 hown hK hP hD hS 0 rfl rfl 0 (by decide) hfl13 (fun _ h9 => h9) rfl (by decide +kernel) rfl rfl (Nat.le_of_ble_eq_true rfl) dL_digit_10 (fun H locs hP hD hS => ?_)
    have hP : va_P D vwCl [(a_q4, .inr (7, [.long c_q4_n_10, c_q4_s])), (a_q0, .inr (6, [.ref a_q0_forms, .ref a_q0_roll, .ref a_q0_row, .ref a_q0_rows, .ref a_q0_factors, .ref a_q0_found, .ref a_q0_foundOtherwise, .int c_q0_acts_6, .int c_q0_refusals, .int c_q0_knocks])), (a_q0_forms, .inl (cyJ, 6, .inr (.inl f_q0_forms_6)))] H := hP
    have hD : va_D A [(a_q4, .inr (7, [.long c_q4_n_10, c_q4_s])), (a_q0, .inr (6, [.ref a_q0_forms, .ref a_q0_roll, .ref a_q0_row, .ref a_q0_rows, .ref a_q0_factors, .ref a_q0_found, .ref a_q0_foundOtherwise, .int c_q0_acts_6, .int c_q0_refusals, .int c_q0_knocks])), (a_q0_forms, .inl (cyJ, 6, .inr (.inl f_q0_forms_6)))] := hD
    refine lv_goto (tgt := 24) hx hb dL_digit_13 (by decide) ?_
    refine lv_iconst (v := 0) hx hb dL_digit_24 (by decide) ?_
    obtain ⟨e0, e1, e2, e3⟩ := tup4 h
    subst e0
    subst e1
    subst e2
    subst e3
    have hP9 : va_P D vwCl [(a_q0, .inr (6, [.ref a_q0_forms, .ref a_q0_roll, .ref a_q0_row, .ref a_q0_rows, .ref a_q0_factors, .ref a_q0_found, .ref a_q0_foundOtherwise, .int c_q0_acts_6, .int c_q0_refusals, .int c_q0_knocks])), (a_q0_forms, .inl (cyJ, 6, .inr (.inl f_q0_forms_6))), (a_q4, .inr (7, [.long c_q4_n_10, c_q4_s]))] H := hP.sub [1, 2, 0] rfl
    have hD9 : va_D A [(a_q0, .inr (6, [.ref a_q0_forms, .ref a_q0_roll, .ref a_q0_row, .ref a_q0_rows, .ref a_q0_factors, .ref a_q0_found, .ref a_q0_foundOtherwise, .int c_q0_acts_6, .int c_q0_refusals, .int c_q0_knocks])), (a_q0_forms, .inl (cyJ, 6, .inr (.inl f_q0_forms_6))), (a_q4, .inr (7, [.long c_q4_n_10, c_q4_s]))] := hD.sub [1, 2, 0] (by decide) rfl
    refine vx_ret ?_
    exact W.iret hx hb hr (fun t ht hW => ⟨⟨_, (), rfl, rfl, wQA_of ht hP9 hD9⟩, hS.F ht⟩) hS.2.2 dL_digit_25

noncomputable abbrev rmL_run : Room := { frames := 10, cells := 3, slots := 18, locals := 145 }
theorem ydL_run : yL_run.cls ≠ "java/lang/invoke/MethodHandle" ∧ yL_run.cls ≠ "java/lang/invoke/VarHandle" ∧ (parseMethodDescriptor yL_run.desc).map (fun d => d.parameters.length) = some 5 := by decide +kernel
noncomputable def F_L_run (c_q0_acts : Int32) (f_q0_forms : Nat → Int64) (c_q4_n : Int64) (p1 : Int32) (p2 : Int32) (p3 : Int32) : Option (Int32 × Int32 × (Nat → Int64) × Int64) :=
 obn4 (F_X7_run c_q0_acts f_q0_forms p1 p2 p3) (fun xc6 r6 c_q0_acts_6 f_q0_forms_6 =>
 if xc6 = 0 then
 bnd r6.toInt64 (fun c_q4_n_10 =>
 some ((0 : Int32), c_q0_acts_6, f_q0_forms_6, c_q4_n_10))
else
 (if xc6 = 1 then
 some ((1 : Int32), c_q0_acts_6, f_q0_forms_6, c_q4_n)
else
 (if xc6 = 2 then
 some ((2 : Int32), c_q0_acts_6, f_q0_forms_6, c_q4_n)
else
 none)))
set_option maxHeartbeats 4000000 in
set_option maxRecDepth 100000 in
theorem c_L_run (l : Launch) (hfl : l.stackTraces = false) (D : va_G) (cyJ : ClassId) (sz : Nat) (a_q0 : Nat) (a_q4 : Nat) (a_q0_forms : Nat) (a_q0_roll : Nat) (a_q0_row : Nat) (a_q0_rows : Nat) (a_q0_factors : Nat) (a_q0_found : Nat) (a_q0_foundOtherwise : Nat) (c_q0_acts : Int32) (c_q0_refusals : Int32) (c_q0_knocks : Int32) (f_q0_forms : Nat → Int64) (c_q4_n : Int64) (c_q4_s : Value) (p1 : Int32) (p2 : Int32) (p3 : Int32) (r0 : Int32) (o_c_q0_acts : Int32) (o_f_q0_forms : Nat → Int64) (o_c_q4_n : Int64) (hF : F_L_run c_q0_acts f_q0_forms c_q4_n p1 p2 p3 = some (r0, o_c_q0_acts, o_f_q0_forms, o_c_q4_n)) : vx_Met l yL_run wsL_run rmL_run (va_Pc [.ref a_q0, .int p1, .int p2, .int p3, .ref a_q4] (wPL D [(cyJ, .long)] [(a_q0, .inr (6, [.ref a_q0_forms, .ref a_q0_roll, .ref a_q0_row, .ref a_q0_rows, .ref a_q0_factors, .ref a_q0_found, .ref a_q0_foundOtherwise, .int c_q0_acts, .int c_q0_refusals, .int c_q0_knocks])), (a_q0_forms, .inl (cyJ, 6, .inr (.inl f_q0_forms))), (a_q4, .inr (7, [.long c_q4_n, c_q4_s]))] sz)) (va_Qi (fun (r : Int32) (_ : Unit) => r = r0) (fun _ t => wQA D [(a_q0, .inr (6, [.ref a_q0_forms, .ref a_q0_roll, .ref a_q0_row, .ref a_q0_rows, .ref a_q0_factors, .ref a_q0_found, .ref a_q0_foundOtherwise, .int o_c_q0_acts, .int c_q0_refusals, .int c_q0_knocks])), (a_q0_forms, .inl (cyJ, 6, .inr (.inl o_f_q0_forms))), (a_q4, .inr (7, [.long o_c_q4_n, c_q4_s]))] (va_A [(a_q0, .inr (6, [.ref a_q0_forms, .ref a_q0_roll, .ref a_q0_row, .ref a_q0_rows, .ref a_q0_factors, .ref a_q0_found, .ref a_q0_foundOtherwise, .int c_q0_acts, .int c_q0_refusals, .int c_q0_knocks])), (a_q0_forms, .inl (cyJ, 6, .inr (.inl f_q0_forms))), (a_q4, .inr (7, [.long c_q4_n, c_q4_s]))] sz) t) (va_A [(a_q0, .inr (6, [.ref a_q0_forms, .ref a_q0_roll, .ref a_q0_row, .ref a_q0_rows, .ref a_q0_factors, .ref a_q0_found, .ref a_q0_foundOtherwise, .int c_q0_acts, .int c_q0_refusals, .int c_q0_knocks])), (a_q0_forms, .inl (cyJ, 6, .inr (.inl f_q0_forms))), (a_q4, .inr (7, [.long c_q4_n, c_q4_s]))] sz)) (fun _ _ _ => False) 3 18 (va_A [(a_q0, .inr (6, [.ref a_q0_forms, .ref a_q0_roll, .ref a_q0_row, .ref a_q0_rows, .ref a_q0_factors, .ref a_q0_found, .ref a_q0_foundOtherwise, .int c_q0_acts, .int c_q0_refusals, .int c_q0_knocks])), (a_q0_forms, .inl (cyJ, 6, .inr (.inl f_q0_forms))), (a_q4, .inr (7, [.long c_q4_n, c_q4_s]))] sz) := by
  refine vx_ofWH (cc := cL_run) (maxL := 6) (ret := (some .int)) (hh := [(0, 13, 16, 19), (0, 13, 20, 21)]) (by decide) rfl ?_
  intro p e s m args below meth c s₁ B hml hv
  obtain ⟨rfl, ⟨⟨hsz, hP, hK, hD0, hnw⟩, hE⟩, hNc⟩ := hv
  have hx := B.exec
  have hb := B.bytes
  have hr := B.returns
  have hts := atoms_spec (ws := wsL_run) B.pre
  have hown : s.vm.findClass RL = some m.cls := findClass_of_methodNamed B.named
  have hlocks := B.notSynchronized
  have hcf : CallFix _ _ _ _ _ _ _ _ _ := ⟨hx, hb, hml, hown, hts⟩
  have hxt : c.exceptionTable.toList = tableOf [(0, 13, 16, 19), (0, 13, 20, 21)] := vx_table (x := yL_run) B (hts _ List.mem_cons_self)
  have hinX8 : ∀ w ∈ u_ws RX8 TX8 2, w ∈ wsL_run := by decide +kernel
  have hfl13 := hnw.use (A := ([.ref a_q0, .int p1, .int p2, .int p3, .ref a_q4] : List Value).toArray) (w := .fieldLinkNest RL 13 "FormwheelLaw$Out" "n" "J" "FormwheelLaw") (by decide +kernel)
  subst hsz
  have hD := hD0.self (sz := s.heap.size)
  generalize hAe : va_A [(a_q0, .inr (6, [.ref a_q0_forms, .ref a_q0_roll, .ref a_q0_row, .ref a_q0_rows, .ref a_q0_factors, .ref a_q0_found, .ref a_q0_foundOtherwise, .int c_q0_acts, .int c_q0_refusals, .int c_q0_knocks])), (a_q0_forms, .inl (cyJ, 6, .inr (.inl f_q0_forms))), (a_q4, .inr (7, [.long c_q4_n, c_q4_s]))] s.heap.size = A at hD hE ⊢
  have hA : ∀ q : Nat, s.heap.size ≤ q → A q := fun q h => by rw [← hAe]; exact Or.inr h
  have hS : va_S A s.heap s.heap [] := va_S.rf
  have hP : va_P D vwCl [(a_q0, .inr (6, [.ref a_q0_forms, .ref a_q0_roll, .ref a_q0_row, .ref a_q0_rows, .ref a_q0_factors, .ref a_q0_found, .ref a_q0_foundOtherwise, .int c_q0_acts, .int c_q0_refusals, .int c_q0_knocks])), (a_q0_forms, .inl (cyJ, 6, .inr (.inl f_q0_forms))), (a_q4, .inr (7, [.long c_q4_n, c_q4_s]))] s.heap := hP
  have hK0 := hK
  have hl := lv_entry ([.ref a_q0, .int p1, .int p2, .int p3, .ref a_q4]) (n := 6) (Nat.le_of_ble_eq_true rfl)
  rw [lg_entry_eq]
  generalize (lg_sl ([.ref a_q0, .int p1, .int p2, .int p3, .ref a_q4]) ++ List.replicate (6 - (lg_sl ([.ref a_q0, .int p1, .int p2, .int p3, .ref a_q4])).length) Slot.unset).toArray = ls at hl ⊢
  have hl : lv_has ls 6 [(0, .ref a_q0), (1, .int p1), (2, .int p2), (3, .int p3), (4, .ref a_q4)] := hl
  have h := hF
  clear hF
  unfold F_L_run at h
  refine lv_aload hx hb dL_run_0 (lv_at hl 4 rfl) ?_
  refine lv_aload_n hx hb dL_run_2 rfl (lv_at hl 0 rfl) ?_
  refine lv_iload_n hx hb dL_run_3 rfl (lv_at hl 1 rfl) ?_
  refine lv_iload_n hx hb dL_run_4 rfl (lv_at hl 2 rfl) ?_
  refine lv_iload_n hx hb dL_run_5 rfl (lv_at hl 3 rfl) ?_
  obtain ⟨xc6, r6, c_q0_acts_6, f_q0_forms_6, hc6, h⟩ := obn4_h h
  have hPc := hP.sub (ws' := [(a_q0, .inr (6, [.ref a_q0_forms, .ref a_q0_roll, .ref a_q0_row, .ref a_q0_rows, .ref a_q0_factors, .ref a_q0_found, .ref a_q0_foundOtherwise, .int c_q0_acts, .int c_q0_refusals, .int c_q0_knocks])), (a_q0_forms, .inl (cyJ, 6, .inr (.inl f_q0_forms)))]) [0, 1] rfl
  have hDc := hD.sub (ws' := [(a_q0, .inr (6, [.ref a_q0_forms, .ref a_q0_roll, .ref a_q0_row, .ref a_q0_rows, .ref a_q0_factors, .ref a_q0_found, .ref a_q0_foundOtherwise, .int c_q0_acts, .int c_q0_refusals, .int c_q0_knocks])), (a_q0_forms, .inl (cyJ, 6, .inr (.inl f_q0_forms)))]) [0, 1] (by decide) rfl
  refine hx_i (w1 := [(a_q0, .inr (6, [.ref a_q0_forms, .ref a_q0_roll, .ref a_q0_row, .ref a_q0_rows, .ref a_q0_factors, .ref a_q0_found, .ref a_q0_foundOtherwise, .int c_q0_acts_6, .int c_q0_refusals, .int c_q0_knocks])), (a_q0_forms, .inl (cyJ, 6, .inr (.inl f_q0_forms_6)))]) (wr := [(a_q4, .inr (7, [.long c_q4_n, c_q4_s]))]) (vx_runV (As := [.int p1, .int p2, .int p3]) (rest := [.ref a_q4]) hcf (c_X7_run l hfl D cyJ s.heap.size a_q0 a_q0_forms a_q0_roll a_q0_row a_q0_rows a_q0_factors a_q0_found a_q0_foundOtherwise c_q0_acts c_q0_refusals c_q0_knocks f_q0_forms p1 p2 p3 xc6 r6 c_q0_acts_6 f_q0_forms_6 hc6) (cwV 3 hts gL_run_X7_run rfl rfl rfl ydX7_run ⟨Nat.le_of_ble_eq_true rfl, Nat.le_of_ble_eq_true rfl⟩) ⟨bl_PX, va_recv hK hP (ci := 6) (q0 := 0) rfl rfl, pr_PX hPc hK0 hDc hnw hE hS (va_free hD hS hA [0, 1] rfl)⟩ rfl rfl hl.1 rfl (lv_room (Nat.le_of_ble_eq_true rfl)) dL_run_6 ⟨Nat.le_of_ble_eq_true rfl, Nat.le_of_ble_eq_true rfl⟩) hP hD hS hA [0, 1] [2] rfl rfl (by decide) (by decide) (fun E9 ce9 q9 H locs hx9 hE9 hP hD hS hce9 hcv9 hcl9 => ?_) (fun hx9 H locs hP hD hS => ?_)
  · have h := if_ hx9 h
    have hP : va_P D vwCl [(a_q4, .inr (7, [.long c_q4_n, c_q4_s])), (a_q0, .inr (6, [.ref a_q0_forms, .ref a_q0_roll, .ref a_q0_row, .ref a_q0_rows, .ref a_q0_factors, .ref a_q0_found, .ref a_q0_foundOtherwise, .int c_q0_acts_6, .int c_q0_refusals, .int c_q0_knocks])), (a_q0_forms, .inl (cyJ, 6, .inr (.inl f_q0_forms_6)))] H := hP
    have hD : va_D A [(a_q4, .inr (7, [.long c_q4_n, c_q4_s])), (a_q0, .inr (6, [.ref a_q0_forms, .ref a_q0_roll, .ref a_q0_row, .ref a_q0_rows, .ref a_q0_factors, .ref a_q0_found, .ref a_q0_foundOtherwise, .int c_q0_acts_6, .int c_q0_refusals, .int c_q0_knocks])), (a_q0_forms, .inl (cyJ, 6, .inr (.inl f_q0_forms_6)))] := hD
    by_cases cx0 : xc6 = 1
    · have h := it_ cx0 h
      have hE1 : E9 = "java/lang/IndexOutOfBoundsException" := by rw [hE9, cx0]; rfl
      subst hE1
      refine vx_catch (name := "java/lang/IndexOutOfBoundsException") hown (tableOf []) ⟨0, 13, 16, 19⟩ (tableOf [(0, 13, 20, 21)]) hxt (fun z hz => absurd hz List.not_mem_nil) (by decide) (by decide) (hts (.classLink RL 19 "java/lang/IndexOutOfBoundsException") (by decide +kernel)) (va_Nw.use rfl (hE.2.1 (.castable "java/lang/IndexOutOfBoundsException" "java/lang/IndexOutOfBoundsException") (by decide +kernel))) hce9 hcv9 hcl9 ?_
      refine lv_astore (lv' := [(5, .ref q9), (0, .ref a_q0), (1, .int p1), (2, .int p2), (3, .int p3), (4, .ref a_q4)]) hx hb dL_run_16 hl (by decide) rfl (fun ls hl => ?_)
      refine lv_iconst (v := 1) hx hb dL_run_18 (by decide) ?_
      obtain ⟨e0, e1, e2, e3⟩ := tup4 h
      subst e0
      subst e1
      subst e2
      subst e3
      have hP9 : va_P D vwCl [(a_q0, .inr (6, [.ref a_q0_forms, .ref a_q0_roll, .ref a_q0_row, .ref a_q0_rows, .ref a_q0_factors, .ref a_q0_found, .ref a_q0_foundOtherwise, .int c_q0_acts_6, .int c_q0_refusals, .int c_q0_knocks])), (a_q0_forms, .inl (cyJ, 6, .inr (.inl f_q0_forms_6))), (a_q4, .inr (7, [.long c_q4_n, c_q4_s]))] H := hP.sub [1, 2, 0] rfl
      have hD9 : va_D A [(a_q0, .inr (6, [.ref a_q0_forms, .ref a_q0_roll, .ref a_q0_row, .ref a_q0_rows, .ref a_q0_factors, .ref a_q0_found, .ref a_q0_foundOtherwise, .int c_q0_acts_6, .int c_q0_refusals, .int c_q0_knocks])), (a_q0_forms, .inl (cyJ, 6, .inr (.inl f_q0_forms_6))), (a_q4, .inr (7, [.long c_q4_n, c_q4_s]))] := hD.sub [1, 2, 0] (by decide) rfl
      refine vx_ret ?_
      exact W.iret hx hb hr (fun t ht hW => ⟨⟨_, (), rfl, rfl, wQA_of ht hP9 hD9⟩, hS.F ht⟩) hS.2.2 dL_run_19
    have h := if_ cx0 h
    by_cases cx1 : xc6 = 2
    · have h := it_ cx1 h
      have hE1 : E9 = "java/lang/IllegalArgumentException" := by rw [hE9, cx1]; rfl
      subst hE1
      refine vx_catch (name := "java/lang/IllegalArgumentException") hown (tableOf [(0, 13, 16, 19)]) ⟨0, 13, 20, 21⟩ (tableOf []) hxt (fun z hz => by obtain rfl := List.mem_singleton.mp hz; exact Or.inr ⟨by decide, "java/lang/IndexOutOfBoundsException", hts (.classLink RL 19 "java/lang/IndexOutOfBoundsException") (by decide +kernel), hNc⟩) (by decide) (by decide) (hts (.classLink RL 21 "java/lang/IllegalArgumentException") (by decide +kernel)) (va_Nw.use rfl (hE.2.1 (.castable "java/lang/IllegalArgumentException" "java/lang/IllegalArgumentException") (by decide +kernel))) hce9 hcv9 hcl9 ?_
      refine lv_astore (lv' := [(5, .ref q9), (0, .ref a_q0), (1, .int p1), (2, .int p2), (3, .int p3), (4, .ref a_q4)]) hx hb dL_run_20 hl (by decide) rfl (fun ls hl => ?_)
      refine lv_iconst (v := 2) hx hb dL_run_22 (by decide) ?_
      obtain ⟨e0, e1, e2, e3⟩ := tup4 h
      subst e0
      subst e1
      subst e2
      subst e3
      have hP9 : va_P D vwCl [(a_q0, .inr (6, [.ref a_q0_forms, .ref a_q0_roll, .ref a_q0_row, .ref a_q0_rows, .ref a_q0_factors, .ref a_q0_found, .ref a_q0_foundOtherwise, .int c_q0_acts_6, .int c_q0_refusals, .int c_q0_knocks])), (a_q0_forms, .inl (cyJ, 6, .inr (.inl f_q0_forms_6))), (a_q4, .inr (7, [.long c_q4_n, c_q4_s]))] H := hP.sub [1, 2, 0] rfl
      have hD9 : va_D A [(a_q0, .inr (6, [.ref a_q0_forms, .ref a_q0_roll, .ref a_q0_row, .ref a_q0_rows, .ref a_q0_factors, .ref a_q0_found, .ref a_q0_foundOtherwise, .int c_q0_acts_6, .int c_q0_refusals, .int c_q0_knocks])), (a_q0_forms, .inl (cyJ, 6, .inr (.inl f_q0_forms_6))), (a_q4, .inr (7, [.long c_q4_n, c_q4_s]))] := hD.sub [1, 2, 0] (by decide) rfl
      refine vx_ret ?_
      exact W.iret hx hb hr (fun t ht hW => ⟨⟨_, (), rfl, rfl, wQA_of ht hP9 hD9⟩, hS.F ht⟩) hS.2.2 dL_run_23
    have h := if_ cx1 h
    cases h
  · have h := it_ hx9 h
    have hP : va_P D vwCl [(a_q4, .inr (7, [.long c_q4_n, c_q4_s])), (a_q0, .inr (6, [.ref a_q0_forms, .ref a_q0_roll, .ref a_q0_row, .ref a_q0_rows, .ref a_q0_factors, .ref a_q0_found, .ref a_q0_foundOtherwise, .int c_q0_acts_6, .int c_q0_refusals, .int c_q0_knocks])), (a_q0_forms, .inl (cyJ, 6, .inr (.inl f_q0_forms_6)))] H := hP
    have hD : va_D A [(a_q4, .inr (7, [.long c_q4_n, c_q4_s])), (a_q0, .inr (6, [.ref a_q0_forms, .ref a_q0_roll, .ref a_q0_row, .ref a_q0_rows, .ref a_q0_factors, .ref a_q0_found, .ref a_q0_foundOtherwise, .int c_q0_acts_6, .int c_q0_refusals, .int c_q0_knocks])), (a_q0_forms, .inl (cyJ, 6, .inr (.inl f_q0_forms_6)))] := hD
    refine lv_i2l (v := r6.toInt64) hx hb dL_run_9 rfl ?_
    refine lv_topl (fun c_q4_n_10 e_c_q4_n_10 => ?_)
    have h := bnd_h e_c_q4_n_10 h
    refine va_putN (D := D) (ci := 7) (v := .long c_q4_n_10) (ty := .long) (C := RX8) (T := TX8) (N := 2) hx hb hts hinX8 tyX8 tyX8_ok nmX8 hown hK hP hD hS 0 rfl rfl 0 (by decide) hfl13 (fun _ h9 => h9) rfl (by decide +kernel) rfl rfl (Nat.le_of_ble_eq_true rfl) dL_run_10 (fun H locs hP hD hS => ?_)
    have hP : va_P D vwCl [(a_q4, .inr (7, [.long c_q4_n_10, c_q4_s])), (a_q0, .inr (6, [.ref a_q0_forms, .ref a_q0_roll, .ref a_q0_row, .ref a_q0_rows, .ref a_q0_factors, .ref a_q0_found, .ref a_q0_foundOtherwise, .int c_q0_acts_6, .int c_q0_refusals, .int c_q0_knocks])), (a_q0_forms, .inl (cyJ, 6, .inr (.inl f_q0_forms_6)))] H := hP
    have hD : va_D A [(a_q4, .inr (7, [.long c_q4_n_10, c_q4_s])), (a_q0, .inr (6, [.ref a_q0_forms, .ref a_q0_roll, .ref a_q0_row, .ref a_q0_rows, .ref a_q0_factors, .ref a_q0_found, .ref a_q0_foundOtherwise, .int c_q0_acts_6, .int c_q0_refusals, .int c_q0_knocks])), (a_q0_forms, .inl (cyJ, 6, .inr (.inl f_q0_forms_6)))] := hD
    refine lv_goto (tgt := 24) hx hb dL_run_13 (by decide) ?_
    refine lv_iconst (v := 0) hx hb dL_run_24 (by decide) ?_
    obtain ⟨e0, e1, e2, e3⟩ := tup4 h
    subst e0
    subst e1
    subst e2
    subst e3
    have hP9 : va_P D vwCl [(a_q0, .inr (6, [.ref a_q0_forms, .ref a_q0_roll, .ref a_q0_row, .ref a_q0_rows, .ref a_q0_factors, .ref a_q0_found, .ref a_q0_foundOtherwise, .int c_q0_acts_6, .int c_q0_refusals, .int c_q0_knocks])), (a_q0_forms, .inl (cyJ, 6, .inr (.inl f_q0_forms_6))), (a_q4, .inr (7, [.long c_q4_n_10, c_q4_s]))] H := hP.sub [1, 2, 0] rfl
    have hD9 : va_D A [(a_q0, .inr (6, [.ref a_q0_forms, .ref a_q0_roll, .ref a_q0_row, .ref a_q0_rows, .ref a_q0_factors, .ref a_q0_found, .ref a_q0_foundOtherwise, .int c_q0_acts_6, .int c_q0_refusals, .int c_q0_knocks])), (a_q0_forms, .inl (cyJ, 6, .inr (.inl f_q0_forms_6))), (a_q4, .inr (7, [.long c_q4_n_10, c_q4_s]))] := hD.sub [1, 2, 0] (by decide) rfl
    refine vx_ret ?_
    exact W.iret hx hb hr (fun t ht hW => ⟨⟨_, (), rfl, rfl, wQA_of ht hP9 hD9⟩, hS.F ht⟩) hS.2.2 dL_run_25

noncomputable abbrev rmL_copy : Room := { frames := 10, cells := 2, slots := 12, locals := 142 }
theorem ydL_copy : yL_copy.cls ≠ "java/lang/invoke/MethodHandle" ∧ yL_copy.cls ≠ "java/lang/invoke/VarHandle" ∧ (parseMethodDescriptor yL_copy.desc).map (fun d => d.parameters.length) = some 4 := by decide +kernel
noncomputable def F_L_copy (c_q0_acts : Int32) (f_q0_forms : Nat → Int64) (c_q3_n : Int64) (p1 : Int32) (p2 : Int32) : Option (Int32 × Int32 × (Nat → Int64) × Int64) :=
 obn4 (F_X7_copy c_q0_acts f_q0_forms p1 p2) (fun xc4 r4 c_q0_acts_4 f_q0_forms_4 =>
 if xc4 = 0 then
 bnd r4.toInt64 (fun c_q3_n_8 =>
 some ((0 : Int32), c_q0_acts_4, f_q0_forms_4, c_q3_n_8))
else
 (if xc4 = 1 then
 some ((1 : Int32), c_q0_acts_4, f_q0_forms_4, c_q3_n)
else
 none))
set_option maxHeartbeats 4000000 in
set_option maxRecDepth 100000 in
theorem c_L_copy (l : Launch) (hfl : l.stackTraces = false) (D : va_G) (cyJ : ClassId) (sz : Nat) (a_q0 : Nat) (a_q3 : Nat) (a_q0_forms : Nat) (a_q0_roll : Nat) (a_q0_row : Nat) (a_q0_rows : Nat) (a_q0_factors : Nat) (a_q0_found : Nat) (a_q0_foundOtherwise : Nat) (c_q0_acts : Int32) (c_q0_refusals : Int32) (c_q0_knocks : Int32) (f_q0_forms : Nat → Int64) (c_q3_n : Int64) (c_q3_s : Value) (p1 : Int32) (p2 : Int32) (r0 : Int32) (o_c_q0_acts : Int32) (o_f_q0_forms : Nat → Int64) (o_c_q3_n : Int64) (hF : F_L_copy c_q0_acts f_q0_forms c_q3_n p1 p2 = some (r0, o_c_q0_acts, o_f_q0_forms, o_c_q3_n)) : vx_Met l yL_copy wsL_copy rmL_copy (va_Pc [.ref a_q0, .int p1, .int p2, .ref a_q3] (wPL D [(cyJ, .long)] [(a_q0, .inr (6, [.ref a_q0_forms, .ref a_q0_roll, .ref a_q0_row, .ref a_q0_rows, .ref a_q0_factors, .ref a_q0_found, .ref a_q0_foundOtherwise, .int c_q0_acts, .int c_q0_refusals, .int c_q0_knocks])), (a_q0_forms, .inl (cyJ, 6, .inr (.inl f_q0_forms))), (a_q3, .inr (7, [.long c_q3_n, c_q3_s]))] sz)) (va_Qi (fun (r : Int32) (_ : Unit) => r = r0) (fun _ t => wQA D [(a_q0, .inr (6, [.ref a_q0_forms, .ref a_q0_roll, .ref a_q0_row, .ref a_q0_rows, .ref a_q0_factors, .ref a_q0_found, .ref a_q0_foundOtherwise, .int o_c_q0_acts, .int c_q0_refusals, .int c_q0_knocks])), (a_q0_forms, .inl (cyJ, 6, .inr (.inl o_f_q0_forms))), (a_q3, .inr (7, [.long o_c_q3_n, c_q3_s]))] (va_A [(a_q0, .inr (6, [.ref a_q0_forms, .ref a_q0_roll, .ref a_q0_row, .ref a_q0_rows, .ref a_q0_factors, .ref a_q0_found, .ref a_q0_foundOtherwise, .int c_q0_acts, .int c_q0_refusals, .int c_q0_knocks])), (a_q0_forms, .inl (cyJ, 6, .inr (.inl f_q0_forms))), (a_q3, .inr (7, [.long c_q3_n, c_q3_s]))] sz) t) (va_A [(a_q0, .inr (6, [.ref a_q0_forms, .ref a_q0_roll, .ref a_q0_row, .ref a_q0_rows, .ref a_q0_factors, .ref a_q0_found, .ref a_q0_foundOtherwise, .int c_q0_acts, .int c_q0_refusals, .int c_q0_knocks])), (a_q0_forms, .inl (cyJ, 6, .inr (.inl f_q0_forms))), (a_q3, .inr (7, [.long c_q3_n, c_q3_s]))] sz)) (fun _ _ _ => False) 2 12 (va_A [(a_q0, .inr (6, [.ref a_q0_forms, .ref a_q0_roll, .ref a_q0_row, .ref a_q0_rows, .ref a_q0_factors, .ref a_q0_found, .ref a_q0_foundOtherwise, .int c_q0_acts, .int c_q0_refusals, .int c_q0_knocks])), (a_q0_forms, .inl (cyJ, 6, .inr (.inl f_q0_forms))), (a_q3, .inr (7, [.long c_q3_n, c_q3_s]))] sz) := by
  refine vx_ofWH (cc := cL_copy) (maxL := 5) (ret := (some .int)) (hh := [(0, 11, 14, 19)]) (by decide) rfl ?_
  intro p e s m args below meth c s₁ B hml hv
  obtain ⟨rfl, ⟨⟨hsz, hP, hK, hD0, hnw⟩, hE⟩, hNc⟩ := hv
  have hx := B.exec
  have hb := B.bytes
  have hr := B.returns
  have hts := atoms_spec (ws := wsL_copy) B.pre
  have hown : s.vm.findClass RL = some m.cls := findClass_of_methodNamed B.named
  have hlocks := B.notSynchronized
  have hcf : CallFix _ _ _ _ _ _ _ _ _ := ⟨hx, hb, hml, hown, hts⟩
  have hxt : c.exceptionTable.toList = tableOf [(0, 11, 14, 19)] := vx_table (x := yL_copy) B (hts _ List.mem_cons_self)
  have hinX8 : ∀ w ∈ u_ws RX8 TX8 2, w ∈ wsL_copy := by decide +kernel
  have hfl13 := hnw.use (A := ([.ref a_q0, .int p1, .int p2, .ref a_q3] : List Value).toArray) (w := .fieldLinkNest RL 13 "FormwheelLaw$Out" "n" "J" "FormwheelLaw") (by decide +kernel)
  subst hsz
  have hD := hD0.self (sz := s.heap.size)
  generalize hAe : va_A [(a_q0, .inr (6, [.ref a_q0_forms, .ref a_q0_roll, .ref a_q0_row, .ref a_q0_rows, .ref a_q0_factors, .ref a_q0_found, .ref a_q0_foundOtherwise, .int c_q0_acts, .int c_q0_refusals, .int c_q0_knocks])), (a_q0_forms, .inl (cyJ, 6, .inr (.inl f_q0_forms))), (a_q3, .inr (7, [.long c_q3_n, c_q3_s]))] s.heap.size = A at hD hE ⊢
  have hA : ∀ q : Nat, s.heap.size ≤ q → A q := fun q h => by rw [← hAe]; exact Or.inr h
  have hS : va_S A s.heap s.heap [] := va_S.rf
  have hP : va_P D vwCl [(a_q0, .inr (6, [.ref a_q0_forms, .ref a_q0_roll, .ref a_q0_row, .ref a_q0_rows, .ref a_q0_factors, .ref a_q0_found, .ref a_q0_foundOtherwise, .int c_q0_acts, .int c_q0_refusals, .int c_q0_knocks])), (a_q0_forms, .inl (cyJ, 6, .inr (.inl f_q0_forms))), (a_q3, .inr (7, [.long c_q3_n, c_q3_s]))] s.heap := hP
  have hK0 := hK
  have hl := lv_entry ([.ref a_q0, .int p1, .int p2, .ref a_q3]) (n := 5) (Nat.le_of_ble_eq_true rfl)
  rw [lg_entry_eq]
  generalize (lg_sl ([.ref a_q0, .int p1, .int p2, .ref a_q3]) ++ List.replicate (5 - (lg_sl ([.ref a_q0, .int p1, .int p2, .ref a_q3])).length) Slot.unset).toArray = ls at hl ⊢
  have hl : lv_has ls 5 [(0, .ref a_q0), (1, .int p1), (2, .int p2), (3, .ref a_q3)] := hl
  have h := hF
  clear hF
  unfold F_L_copy at h
  refine lv_aload_n hx hb dL_copy_0 rfl (lv_at hl 3 rfl) ?_
  refine lv_aload_n hx hb dL_copy_1 rfl (lv_at hl 0 rfl) ?_
  refine lv_iload_n hx hb dL_copy_2 rfl (lv_at hl 1 rfl) ?_
  refine lv_iload_n hx hb dL_copy_3 rfl (lv_at hl 2 rfl) ?_
  obtain ⟨xc4, r4, c_q0_acts_4, f_q0_forms_4, hc4, h⟩ := obn4_h h
  have hPc := hP.sub (ws' := [(a_q0, .inr (6, [.ref a_q0_forms, .ref a_q0_roll, .ref a_q0_row, .ref a_q0_rows, .ref a_q0_factors, .ref a_q0_found, .ref a_q0_foundOtherwise, .int c_q0_acts, .int c_q0_refusals, .int c_q0_knocks])), (a_q0_forms, .inl (cyJ, 6, .inr (.inl f_q0_forms)))]) [0, 1] rfl
  have hDc := hD.sub (ws' := [(a_q0, .inr (6, [.ref a_q0_forms, .ref a_q0_roll, .ref a_q0_row, .ref a_q0_rows, .ref a_q0_factors, .ref a_q0_found, .ref a_q0_foundOtherwise, .int c_q0_acts, .int c_q0_refusals, .int c_q0_knocks])), (a_q0_forms, .inl (cyJ, 6, .inr (.inl f_q0_forms)))]) [0, 1] (by decide) rfl
  refine hx_i (w1 := [(a_q0, .inr (6, [.ref a_q0_forms, .ref a_q0_roll, .ref a_q0_row, .ref a_q0_rows, .ref a_q0_factors, .ref a_q0_found, .ref a_q0_foundOtherwise, .int c_q0_acts_4, .int c_q0_refusals, .int c_q0_knocks])), (a_q0_forms, .inl (cyJ, 6, .inr (.inl f_q0_forms_4)))]) (wr := [(a_q3, .inr (7, [.long c_q3_n, c_q3_s]))]) (vx_runV (As := [.int p1, .int p2]) (rest := [.ref a_q3]) hcf (c_X7_copy l hfl D cyJ s.heap.size a_q0 a_q0_forms a_q0_roll a_q0_row a_q0_rows a_q0_factors a_q0_found a_q0_foundOtherwise c_q0_acts c_q0_refusals c_q0_knocks f_q0_forms p1 p2 xc4 r4 c_q0_acts_4 f_q0_forms_4 hc4) (cwV 2 hts gL_copy_X7_copy rfl rfl rfl ydX7_copy ⟨Nat.le_of_ble_eq_true rfl, Nat.le_of_ble_eq_true rfl⟩) ⟨bl_PX, va_recv hK hP (ci := 6) (q0 := 0) rfl rfl, pr_PX hPc hK0 hDc hnw hE hS (va_free hD hS hA [0, 1] rfl)⟩ rfl rfl hl.1 rfl (lv_room (Nat.le_of_ble_eq_true rfl)) dL_copy_4 ⟨Nat.le_of_ble_eq_true rfl, Nat.le_of_ble_eq_true rfl⟩) hP hD hS hA [0, 1] [2] rfl rfl (by decide) (by decide) (fun E9 ce9 q9 H locs hx9 hE9 hP hD hS hce9 hcv9 hcl9 => ?_) (fun hx9 H locs hP hD hS => ?_)
  · have h := if_ hx9 h
    have hP : va_P D vwCl [(a_q3, .inr (7, [.long c_q3_n, c_q3_s])), (a_q0, .inr (6, [.ref a_q0_forms, .ref a_q0_roll, .ref a_q0_row, .ref a_q0_rows, .ref a_q0_factors, .ref a_q0_found, .ref a_q0_foundOtherwise, .int c_q0_acts_4, .int c_q0_refusals, .int c_q0_knocks])), (a_q0_forms, .inl (cyJ, 6, .inr (.inl f_q0_forms_4)))] H := hP
    have hD : va_D A [(a_q3, .inr (7, [.long c_q3_n, c_q3_s])), (a_q0, .inr (6, [.ref a_q0_forms, .ref a_q0_roll, .ref a_q0_row, .ref a_q0_rows, .ref a_q0_factors, .ref a_q0_found, .ref a_q0_foundOtherwise, .int c_q0_acts_4, .int c_q0_refusals, .int c_q0_knocks])), (a_q0_forms, .inl (cyJ, 6, .inr (.inl f_q0_forms_4)))] := hD
    by_cases cx0 : xc4 = 1
    · have h := it_ cx0 h
      have hE1 : E9 = "java/lang/IndexOutOfBoundsException" := by rw [hE9, cx0]; rfl
      subst hE1
      refine vx_catch (name := "java/lang/IndexOutOfBoundsException") hown (tableOf []) ⟨0, 11, 14, 19⟩ (tableOf []) hxt (fun z hz => absurd hz List.not_mem_nil) (by decide) (by decide) (hts (.classLink RL 19 "java/lang/IndexOutOfBoundsException") (by decide +kernel)) (va_Nw.use rfl (hE.2.1 (.castable "java/lang/IndexOutOfBoundsException" "java/lang/IndexOutOfBoundsException") (by decide +kernel))) hce9 hcv9 hcl9 ?_
      refine lv_astore (lv' := [(4, .ref q9), (0, .ref a_q0), (1, .int p1), (2, .int p2), (3, .ref a_q3)]) hx hb dL_copy_14 hl (by decide) rfl (fun ls hl => ?_)
      refine lv_iconst (v := 1) hx hb dL_copy_16 (by decide) ?_
      obtain ⟨e0, e1, e2, e3⟩ := tup4 h
      subst e0
      subst e1
      subst e2
      subst e3
      have hP9 : va_P D vwCl [(a_q0, .inr (6, [.ref a_q0_forms, .ref a_q0_roll, .ref a_q0_row, .ref a_q0_rows, .ref a_q0_factors, .ref a_q0_found, .ref a_q0_foundOtherwise, .int c_q0_acts_4, .int c_q0_refusals, .int c_q0_knocks])), (a_q0_forms, .inl (cyJ, 6, .inr (.inl f_q0_forms_4))), (a_q3, .inr (7, [.long c_q3_n, c_q3_s]))] H := hP.sub [1, 2, 0] rfl
      have hD9 : va_D A [(a_q0, .inr (6, [.ref a_q0_forms, .ref a_q0_roll, .ref a_q0_row, .ref a_q0_rows, .ref a_q0_factors, .ref a_q0_found, .ref a_q0_foundOtherwise, .int c_q0_acts_4, .int c_q0_refusals, .int c_q0_knocks])), (a_q0_forms, .inl (cyJ, 6, .inr (.inl f_q0_forms_4))), (a_q3, .inr (7, [.long c_q3_n, c_q3_s]))] := hD.sub [1, 2, 0] (by decide) rfl
      refine vx_ret ?_
      exact W.iret hx hb hr (fun t ht hW => ⟨⟨_, (), rfl, rfl, wQA_of ht hP9 hD9⟩, hS.F ht⟩) hS.2.2 dL_copy_17
    have h := if_ cx0 h
    cases h
  · have h := it_ hx9 h
    have hP : va_P D vwCl [(a_q3, .inr (7, [.long c_q3_n, c_q3_s])), (a_q0, .inr (6, [.ref a_q0_forms, .ref a_q0_roll, .ref a_q0_row, .ref a_q0_rows, .ref a_q0_factors, .ref a_q0_found, .ref a_q0_foundOtherwise, .int c_q0_acts_4, .int c_q0_refusals, .int c_q0_knocks])), (a_q0_forms, .inl (cyJ, 6, .inr (.inl f_q0_forms_4)))] H := hP
    have hD : va_D A [(a_q3, .inr (7, [.long c_q3_n, c_q3_s])), (a_q0, .inr (6, [.ref a_q0_forms, .ref a_q0_roll, .ref a_q0_row, .ref a_q0_rows, .ref a_q0_factors, .ref a_q0_found, .ref a_q0_foundOtherwise, .int c_q0_acts_4, .int c_q0_refusals, .int c_q0_knocks])), (a_q0_forms, .inl (cyJ, 6, .inr (.inl f_q0_forms_4)))] := hD
    refine lv_i2l (v := r4.toInt64) hx hb dL_copy_7 rfl ?_
    refine lv_topl (fun c_q3_n_8 e_c_q3_n_8 => ?_)
    have h := bnd_h e_c_q3_n_8 h
    refine va_putN (D := D) (ci := 7) (v := .long c_q3_n_8) (ty := .long) (C := RX8) (T := TX8) (N := 2) hx hb hts hinX8 tyX8 tyX8_ok nmX8 hown hK hP hD hS 0 rfl rfl 0 (by decide) hfl13 (fun _ h9 => h9) rfl (by decide +kernel) rfl rfl (Nat.le_of_ble_eq_true rfl) dL_copy_8 (fun H locs hP hD hS => ?_)
    have hP : va_P D vwCl [(a_q3, .inr (7, [.long c_q3_n_8, c_q3_s])), (a_q0, .inr (6, [.ref a_q0_forms, .ref a_q0_roll, .ref a_q0_row, .ref a_q0_rows, .ref a_q0_factors, .ref a_q0_found, .ref a_q0_foundOtherwise, .int c_q0_acts_4, .int c_q0_refusals, .int c_q0_knocks])), (a_q0_forms, .inl (cyJ, 6, .inr (.inl f_q0_forms_4)))] H := hP
    have hD : va_D A [(a_q3, .inr (7, [.long c_q3_n_8, c_q3_s])), (a_q0, .inr (6, [.ref a_q0_forms, .ref a_q0_roll, .ref a_q0_row, .ref a_q0_rows, .ref a_q0_factors, .ref a_q0_found, .ref a_q0_foundOtherwise, .int c_q0_acts_4, .int c_q0_refusals, .int c_q0_knocks])), (a_q0_forms, .inl (cyJ, 6, .inr (.inl f_q0_forms_4)))] := hD
    refine lv_goto (tgt := 18) hx hb dL_copy_11 (by decide) ?_
    refine lv_iconst (v := 0) hx hb dL_copy_18 (by decide) ?_
    obtain ⟨e0, e1, e2, e3⟩ := tup4 h
    subst e0
    subst e1
    subst e2
    subst e3
    have hP9 : va_P D vwCl [(a_q0, .inr (6, [.ref a_q0_forms, .ref a_q0_roll, .ref a_q0_row, .ref a_q0_rows, .ref a_q0_factors, .ref a_q0_found, .ref a_q0_foundOtherwise, .int c_q0_acts_4, .int c_q0_refusals, .int c_q0_knocks])), (a_q0_forms, .inl (cyJ, 6, .inr (.inl f_q0_forms_4))), (a_q3, .inr (7, [.long c_q3_n_8, c_q3_s]))] H := hP.sub [1, 2, 0] rfl
    have hD9 : va_D A [(a_q0, .inr (6, [.ref a_q0_forms, .ref a_q0_roll, .ref a_q0_row, .ref a_q0_rows, .ref a_q0_factors, .ref a_q0_found, .ref a_q0_foundOtherwise, .int c_q0_acts_4, .int c_q0_refusals, .int c_q0_knocks])), (a_q0_forms, .inl (cyJ, 6, .inr (.inl f_q0_forms_4))), (a_q3, .inr (7, [.long c_q3_n_8, c_q3_s]))] := hD.sub [1, 2, 0] (by decide) rfl
    refine vx_ret ?_
    exact W.iret hx hb hr (fun t ht hW => ⟨⟨_, (), rfl, rfl, wQA_of ht hP9 hD9⟩, hS.F ht⟩) hS.2.2 dL_copy_19

noncomputable abbrev rmL_swap : Room := { frames := 10, cells := 2, slots := 12, locals := 144 }
theorem ydL_swap : yL_swap.cls ≠ "java/lang/invoke/MethodHandle" ∧ yL_swap.cls ≠ "java/lang/invoke/VarHandle" ∧ (parseMethodDescriptor yL_swap.desc).map (fun d => d.parameters.length) = some 4 := by decide +kernel
noncomputable def F_L_swap (c_q0_acts : Int32) (f_q0_forms : Nat → Int64) (c_q3_n : Int64) (p1 : Int32) (p2 : Int32) : Option (Int32 × Int32 × (Nat → Int64) × Int64) :=
 obn4 (F_X7_swap c_q0_acts f_q0_forms p1 p2) (fun xc4 r4 c_q0_acts_4 f_q0_forms_4 =>
 if xc4 = 0 then
 bnd r4.toInt64 (fun c_q3_n_8 =>
 some ((0 : Int32), c_q0_acts_4, f_q0_forms_4, c_q3_n_8))
else
 (if xc4 = 1 then
 some ((1 : Int32), c_q0_acts_4, f_q0_forms_4, c_q3_n)
else
 none))
set_option maxHeartbeats 4000000 in
set_option maxRecDepth 100000 in
theorem c_L_swap (l : Launch) (hfl : l.stackTraces = false) (D : va_G) (cyJ : ClassId) (sz : Nat) (a_q0 : Nat) (a_q3 : Nat) (a_q0_forms : Nat) (a_q0_roll : Nat) (a_q0_row : Nat) (a_q0_rows : Nat) (a_q0_factors : Nat) (a_q0_found : Nat) (a_q0_foundOtherwise : Nat) (c_q0_acts : Int32) (c_q0_refusals : Int32) (c_q0_knocks : Int32) (f_q0_forms : Nat → Int64) (c_q3_n : Int64) (c_q3_s : Value) (p1 : Int32) (p2 : Int32) (r0 : Int32) (o_c_q0_acts : Int32) (o_f_q0_forms : Nat → Int64) (o_c_q3_n : Int64) (hF : F_L_swap c_q0_acts f_q0_forms c_q3_n p1 p2 = some (r0, o_c_q0_acts, o_f_q0_forms, o_c_q3_n)) : vx_Met l yL_swap wsL_swap rmL_swap (va_Pc [.ref a_q0, .int p1, .int p2, .ref a_q3] (wPL D [(cyJ, .long)] [(a_q0, .inr (6, [.ref a_q0_forms, .ref a_q0_roll, .ref a_q0_row, .ref a_q0_rows, .ref a_q0_factors, .ref a_q0_found, .ref a_q0_foundOtherwise, .int c_q0_acts, .int c_q0_refusals, .int c_q0_knocks])), (a_q0_forms, .inl (cyJ, 6, .inr (.inl f_q0_forms))), (a_q3, .inr (7, [.long c_q3_n, c_q3_s]))] sz)) (va_Qi (fun (r : Int32) (_ : Unit) => r = r0) (fun _ t => wQA D [(a_q0, .inr (6, [.ref a_q0_forms, .ref a_q0_roll, .ref a_q0_row, .ref a_q0_rows, .ref a_q0_factors, .ref a_q0_found, .ref a_q0_foundOtherwise, .int o_c_q0_acts, .int c_q0_refusals, .int c_q0_knocks])), (a_q0_forms, .inl (cyJ, 6, .inr (.inl o_f_q0_forms))), (a_q3, .inr (7, [.long o_c_q3_n, c_q3_s]))] (va_A [(a_q0, .inr (6, [.ref a_q0_forms, .ref a_q0_roll, .ref a_q0_row, .ref a_q0_rows, .ref a_q0_factors, .ref a_q0_found, .ref a_q0_foundOtherwise, .int c_q0_acts, .int c_q0_refusals, .int c_q0_knocks])), (a_q0_forms, .inl (cyJ, 6, .inr (.inl f_q0_forms))), (a_q3, .inr (7, [.long c_q3_n, c_q3_s]))] sz) t) (va_A [(a_q0, .inr (6, [.ref a_q0_forms, .ref a_q0_roll, .ref a_q0_row, .ref a_q0_rows, .ref a_q0_factors, .ref a_q0_found, .ref a_q0_foundOtherwise, .int c_q0_acts, .int c_q0_refusals, .int c_q0_knocks])), (a_q0_forms, .inl (cyJ, 6, .inr (.inl f_q0_forms))), (a_q3, .inr (7, [.long c_q3_n, c_q3_s]))] sz)) (fun _ _ _ => False) 2 12 (va_A [(a_q0, .inr (6, [.ref a_q0_forms, .ref a_q0_roll, .ref a_q0_row, .ref a_q0_rows, .ref a_q0_factors, .ref a_q0_found, .ref a_q0_foundOtherwise, .int c_q0_acts, .int c_q0_refusals, .int c_q0_knocks])), (a_q0_forms, .inl (cyJ, 6, .inr (.inl f_q0_forms))), (a_q3, .inr (7, [.long c_q3_n, c_q3_s]))] sz) := by
  refine vx_ofWH (cc := cL_swap) (maxL := 5) (ret := (some .int)) (hh := [(0, 11, 14, 19)]) (by decide) rfl ?_
  intro p e s m args below meth c s₁ B hml hv
  obtain ⟨rfl, ⟨⟨hsz, hP, hK, hD0, hnw⟩, hE⟩, hNc⟩ := hv
  have hx := B.exec
  have hb := B.bytes
  have hr := B.returns
  have hts := atoms_spec (ws := wsL_swap) B.pre
  have hown : s.vm.findClass RL = some m.cls := findClass_of_methodNamed B.named
  have hlocks := B.notSynchronized
  have hcf : CallFix _ _ _ _ _ _ _ _ _ := ⟨hx, hb, hml, hown, hts⟩
  have hxt : c.exceptionTable.toList = tableOf [(0, 11, 14, 19)] := vx_table (x := yL_swap) B (hts _ List.mem_cons_self)
  have hinX8 : ∀ w ∈ u_ws RX8 TX8 2, w ∈ wsL_swap := by decide +kernel
  have hfl13 := hnw.use (A := ([.ref a_q0, .int p1, .int p2, .ref a_q3] : List Value).toArray) (w := .fieldLinkNest RL 13 "FormwheelLaw$Out" "n" "J" "FormwheelLaw") (by decide +kernel)
  subst hsz
  have hD := hD0.self (sz := s.heap.size)
  generalize hAe : va_A [(a_q0, .inr (6, [.ref a_q0_forms, .ref a_q0_roll, .ref a_q0_row, .ref a_q0_rows, .ref a_q0_factors, .ref a_q0_found, .ref a_q0_foundOtherwise, .int c_q0_acts, .int c_q0_refusals, .int c_q0_knocks])), (a_q0_forms, .inl (cyJ, 6, .inr (.inl f_q0_forms))), (a_q3, .inr (7, [.long c_q3_n, c_q3_s]))] s.heap.size = A at hD hE ⊢
  have hA : ∀ q : Nat, s.heap.size ≤ q → A q := fun q h => by rw [← hAe]; exact Or.inr h
  have hS : va_S A s.heap s.heap [] := va_S.rf
  have hP : va_P D vwCl [(a_q0, .inr (6, [.ref a_q0_forms, .ref a_q0_roll, .ref a_q0_row, .ref a_q0_rows, .ref a_q0_factors, .ref a_q0_found, .ref a_q0_foundOtherwise, .int c_q0_acts, .int c_q0_refusals, .int c_q0_knocks])), (a_q0_forms, .inl (cyJ, 6, .inr (.inl f_q0_forms))), (a_q3, .inr (7, [.long c_q3_n, c_q3_s]))] s.heap := hP
  have hK0 := hK
  have hl := lv_entry ([.ref a_q0, .int p1, .int p2, .ref a_q3]) (n := 5) (Nat.le_of_ble_eq_true rfl)
  rw [lg_entry_eq]
  generalize (lg_sl ([.ref a_q0, .int p1, .int p2, .ref a_q3]) ++ List.replicate (5 - (lg_sl ([.ref a_q0, .int p1, .int p2, .ref a_q3])).length) Slot.unset).toArray = ls at hl ⊢
  have hl : lv_has ls 5 [(0, .ref a_q0), (1, .int p1), (2, .int p2), (3, .ref a_q3)] := hl
  have h := hF
  clear hF
  unfold F_L_swap at h
  refine lv_aload_n hx hb dL_swap_0 rfl (lv_at hl 3 rfl) ?_
  refine lv_aload_n hx hb dL_swap_1 rfl (lv_at hl 0 rfl) ?_
  refine lv_iload_n hx hb dL_swap_2 rfl (lv_at hl 1 rfl) ?_
  refine lv_iload_n hx hb dL_swap_3 rfl (lv_at hl 2 rfl) ?_
  obtain ⟨xc4, r4, c_q0_acts_4, f_q0_forms_4, hc4, h⟩ := obn4_h h
  have hPc := hP.sub (ws' := [(a_q0, .inr (6, [.ref a_q0_forms, .ref a_q0_roll, .ref a_q0_row, .ref a_q0_rows, .ref a_q0_factors, .ref a_q0_found, .ref a_q0_foundOtherwise, .int c_q0_acts, .int c_q0_refusals, .int c_q0_knocks])), (a_q0_forms, .inl (cyJ, 6, .inr (.inl f_q0_forms)))]) [0, 1] rfl
  have hDc := hD.sub (ws' := [(a_q0, .inr (6, [.ref a_q0_forms, .ref a_q0_roll, .ref a_q0_row, .ref a_q0_rows, .ref a_q0_factors, .ref a_q0_found, .ref a_q0_foundOtherwise, .int c_q0_acts, .int c_q0_refusals, .int c_q0_knocks])), (a_q0_forms, .inl (cyJ, 6, .inr (.inl f_q0_forms)))]) [0, 1] (by decide) rfl
  refine hx_i (w1 := [(a_q0, .inr (6, [.ref a_q0_forms, .ref a_q0_roll, .ref a_q0_row, .ref a_q0_rows, .ref a_q0_factors, .ref a_q0_found, .ref a_q0_foundOtherwise, .int c_q0_acts_4, .int c_q0_refusals, .int c_q0_knocks])), (a_q0_forms, .inl (cyJ, 6, .inr (.inl f_q0_forms_4)))]) (wr := [(a_q3, .inr (7, [.long c_q3_n, c_q3_s]))]) (vx_runV (As := [.int p1, .int p2]) (rest := [.ref a_q3]) hcf (c_X7_swap l hfl D cyJ s.heap.size a_q0 a_q0_forms a_q0_roll a_q0_row a_q0_rows a_q0_factors a_q0_found a_q0_foundOtherwise c_q0_acts c_q0_refusals c_q0_knocks f_q0_forms p1 p2 xc4 r4 c_q0_acts_4 f_q0_forms_4 hc4) (cwV 2 hts gL_swap_X7_swap rfl rfl rfl ydX7_swap ⟨Nat.le_of_ble_eq_true rfl, Nat.le_of_ble_eq_true rfl⟩) ⟨bl_PX, va_recv hK hP (ci := 6) (q0 := 0) rfl rfl, pr_PX hPc hK0 hDc hnw hE hS (va_free hD hS hA [0, 1] rfl)⟩ rfl rfl hl.1 rfl (lv_room (Nat.le_of_ble_eq_true rfl)) dL_swap_4 ⟨Nat.le_of_ble_eq_true rfl, Nat.le_of_ble_eq_true rfl⟩) hP hD hS hA [0, 1] [2] rfl rfl (by decide) (by decide) (fun E9 ce9 q9 H locs hx9 hE9 hP hD hS hce9 hcv9 hcl9 => ?_) (fun hx9 H locs hP hD hS => ?_)
  · have h := if_ hx9 h
    have hP : va_P D vwCl [(a_q3, .inr (7, [.long c_q3_n, c_q3_s])), (a_q0, .inr (6, [.ref a_q0_forms, .ref a_q0_roll, .ref a_q0_row, .ref a_q0_rows, .ref a_q0_factors, .ref a_q0_found, .ref a_q0_foundOtherwise, .int c_q0_acts_4, .int c_q0_refusals, .int c_q0_knocks])), (a_q0_forms, .inl (cyJ, 6, .inr (.inl f_q0_forms_4)))] H := hP
    have hD : va_D A [(a_q3, .inr (7, [.long c_q3_n, c_q3_s])), (a_q0, .inr (6, [.ref a_q0_forms, .ref a_q0_roll, .ref a_q0_row, .ref a_q0_rows, .ref a_q0_factors, .ref a_q0_found, .ref a_q0_foundOtherwise, .int c_q0_acts_4, .int c_q0_refusals, .int c_q0_knocks])), (a_q0_forms, .inl (cyJ, 6, .inr (.inl f_q0_forms_4)))] := hD
    by_cases cx0 : xc4 = 1
    · have h := it_ cx0 h
      have hE1 : E9 = "java/lang/IndexOutOfBoundsException" := by rw [hE9, cx0]; rfl
      subst hE1
      refine vx_catch (name := "java/lang/IndexOutOfBoundsException") hown (tableOf []) ⟨0, 11, 14, 19⟩ (tableOf []) hxt (fun z hz => absurd hz List.not_mem_nil) (by decide) (by decide) (hts (.classLink RL 19 "java/lang/IndexOutOfBoundsException") (by decide +kernel)) (va_Nw.use rfl (hE.2.1 (.castable "java/lang/IndexOutOfBoundsException" "java/lang/IndexOutOfBoundsException") (by decide +kernel))) hce9 hcv9 hcl9 ?_
      refine lv_astore (lv' := [(4, .ref q9), (0, .ref a_q0), (1, .int p1), (2, .int p2), (3, .ref a_q3)]) hx hb dL_swap_14 hl (by decide) rfl (fun ls hl => ?_)
      refine lv_iconst (v := 1) hx hb dL_swap_16 (by decide) ?_
      obtain ⟨e0, e1, e2, e3⟩ := tup4 h
      subst e0
      subst e1
      subst e2
      subst e3
      have hP9 : va_P D vwCl [(a_q0, .inr (6, [.ref a_q0_forms, .ref a_q0_roll, .ref a_q0_row, .ref a_q0_rows, .ref a_q0_factors, .ref a_q0_found, .ref a_q0_foundOtherwise, .int c_q0_acts_4, .int c_q0_refusals, .int c_q0_knocks])), (a_q0_forms, .inl (cyJ, 6, .inr (.inl f_q0_forms_4))), (a_q3, .inr (7, [.long c_q3_n, c_q3_s]))] H := hP.sub [1, 2, 0] rfl
      have hD9 : va_D A [(a_q0, .inr (6, [.ref a_q0_forms, .ref a_q0_roll, .ref a_q0_row, .ref a_q0_rows, .ref a_q0_factors, .ref a_q0_found, .ref a_q0_foundOtherwise, .int c_q0_acts_4, .int c_q0_refusals, .int c_q0_knocks])), (a_q0_forms, .inl (cyJ, 6, .inr (.inl f_q0_forms_4))), (a_q3, .inr (7, [.long c_q3_n, c_q3_s]))] := hD.sub [1, 2, 0] (by decide) rfl
      refine vx_ret ?_
      exact W.iret hx hb hr (fun t ht hW => ⟨⟨_, (), rfl, rfl, wQA_of ht hP9 hD9⟩, hS.F ht⟩) hS.2.2 dL_swap_17
    have h := if_ cx0 h
    cases h
  · have h := it_ hx9 h
    have hP : va_P D vwCl [(a_q3, .inr (7, [.long c_q3_n, c_q3_s])), (a_q0, .inr (6, [.ref a_q0_forms, .ref a_q0_roll, .ref a_q0_row, .ref a_q0_rows, .ref a_q0_factors, .ref a_q0_found, .ref a_q0_foundOtherwise, .int c_q0_acts_4, .int c_q0_refusals, .int c_q0_knocks])), (a_q0_forms, .inl (cyJ, 6, .inr (.inl f_q0_forms_4)))] H := hP
    have hD : va_D A [(a_q3, .inr (7, [.long c_q3_n, c_q3_s])), (a_q0, .inr (6, [.ref a_q0_forms, .ref a_q0_roll, .ref a_q0_row, .ref a_q0_rows, .ref a_q0_factors, .ref a_q0_found, .ref a_q0_foundOtherwise, .int c_q0_acts_4, .int c_q0_refusals, .int c_q0_knocks])), (a_q0_forms, .inl (cyJ, 6, .inr (.inl f_q0_forms_4)))] := hD
    refine lv_i2l (v := r4.toInt64) hx hb dL_swap_7 rfl ?_
    refine lv_topl (fun c_q3_n_8 e_c_q3_n_8 => ?_)
    have h := bnd_h e_c_q3_n_8 h
    refine va_putN (D := D) (ci := 7) (v := .long c_q3_n_8) (ty := .long) (C := RX8) (T := TX8) (N := 2) hx hb hts hinX8 tyX8 tyX8_ok nmX8 hown hK hP hD hS 0 rfl rfl 0 (by decide) hfl13 (fun _ h9 => h9) rfl (by decide +kernel) rfl rfl (Nat.le_of_ble_eq_true rfl) dL_swap_8 (fun H locs hP hD hS => ?_)
    have hP : va_P D vwCl [(a_q3, .inr (7, [.long c_q3_n_8, c_q3_s])), (a_q0, .inr (6, [.ref a_q0_forms, .ref a_q0_roll, .ref a_q0_row, .ref a_q0_rows, .ref a_q0_factors, .ref a_q0_found, .ref a_q0_foundOtherwise, .int c_q0_acts_4, .int c_q0_refusals, .int c_q0_knocks])), (a_q0_forms, .inl (cyJ, 6, .inr (.inl f_q0_forms_4)))] H := hP
    have hD : va_D A [(a_q3, .inr (7, [.long c_q3_n_8, c_q3_s])), (a_q0, .inr (6, [.ref a_q0_forms, .ref a_q0_roll, .ref a_q0_row, .ref a_q0_rows, .ref a_q0_factors, .ref a_q0_found, .ref a_q0_foundOtherwise, .int c_q0_acts_4, .int c_q0_refusals, .int c_q0_knocks])), (a_q0_forms, .inl (cyJ, 6, .inr (.inl f_q0_forms_4)))] := hD
    refine lv_goto (tgt := 18) hx hb dL_swap_11 (by decide) ?_
    refine lv_iconst (v := 0) hx hb dL_swap_18 (by decide) ?_
    obtain ⟨e0, e1, e2, e3⟩ := tup4 h
    subst e0
    subst e1
    subst e2
    subst e3
    have hP9 : va_P D vwCl [(a_q0, .inr (6, [.ref a_q0_forms, .ref a_q0_roll, .ref a_q0_row, .ref a_q0_rows, .ref a_q0_factors, .ref a_q0_found, .ref a_q0_foundOtherwise, .int c_q0_acts_4, .int c_q0_refusals, .int c_q0_knocks])), (a_q0_forms, .inl (cyJ, 6, .inr (.inl f_q0_forms_4))), (a_q3, .inr (7, [.long c_q3_n_8, c_q3_s]))] H := hP.sub [1, 2, 0] rfl
    have hD9 : va_D A [(a_q0, .inr (6, [.ref a_q0_forms, .ref a_q0_roll, .ref a_q0_row, .ref a_q0_rows, .ref a_q0_factors, .ref a_q0_found, .ref a_q0_foundOtherwise, .int c_q0_acts_4, .int c_q0_refusals, .int c_q0_knocks])), (a_q0_forms, .inl (cyJ, 6, .inr (.inl f_q0_forms_4))), (a_q3, .inr (7, [.long c_q3_n_8, c_q3_s]))] := hD.sub [1, 2, 0] (by decide) rfl
    refine vx_ret ?_
    exact W.iret hx hb hr (fun t ht hW => ⟨⟨_, (), rfl, rfl, wQA_of ht hP9 hD9⟩, hS.F ht⟩) hS.2.2 dL_swap_19

noncomputable abbrev rmL_shift : Room := { frames := 10, cells := 2, slots := 12, locals := 146 }
theorem ydL_shift : yL_shift.cls ≠ "java/lang/invoke/MethodHandle" ∧ yL_shift.cls ≠ "java/lang/invoke/VarHandle" ∧ (parseMethodDescriptor yL_shift.desc).map (fun d => d.parameters.length) = some 4 := by decide +kernel
noncomputable def F_L_shift (c_q0_acts : Int32) (c_q0_refusals : Int32) (f_q0_forms : Nat → Int64) (c_q3_n : Int64) (p1 : Int32) (p2 : Int32) : Option (Int32 × Int32 × Int32 × (Nat → Int64) × Int64) :=
 obn5 (F_X7_shift c_q0_acts c_q0_refusals f_q0_forms p1 p2) (fun xc4 r4 c_q0_acts_4 c_q0_refusals_4 f_q0_forms_4 =>
 if xc4 = 0 then
 bnd r4.toInt64 (fun c_q3_n_8 =>
 some ((0 : Int32), c_q0_acts_4, c_q0_refusals_4, f_q0_forms_4, c_q3_n_8))
else
 (if xc4 = 1 then
 some ((1 : Int32), c_q0_acts_4, c_q0_refusals_4, f_q0_forms_4, c_q3_n)
else
 (if xc4 = 2 then
 some ((2 : Int32), c_q0_acts_4, c_q0_refusals_4, f_q0_forms_4, c_q3_n)
else
 none)))
set_option maxHeartbeats 4000000 in
set_option maxRecDepth 100000 in
theorem c_L_shift (l : Launch) (hfl : l.stackTraces = false) (D : va_G) (cyJ : ClassId) (sz : Nat) (a_q0 : Nat) (a_q3 : Nat) (a_q0_forms : Nat) (a_q0_roll : Nat) (a_q0_row : Nat) (a_q0_rows : Nat) (a_q0_factors : Nat) (a_q0_found : Nat) (a_q0_foundOtherwise : Nat) (c_q0_acts : Int32) (c_q0_refusals : Int32) (c_q0_knocks : Int32) (f_q0_forms : Nat → Int64) (c_q3_n : Int64) (c_q3_s : Value) (p1 : Int32) (p2 : Int32) (r0 : Int32) (o_c_q0_acts : Int32) (o_c_q0_refusals : Int32) (o_f_q0_forms : Nat → Int64) (o_c_q3_n : Int64) (hF : F_L_shift c_q0_acts c_q0_refusals f_q0_forms c_q3_n p1 p2 = some (r0, o_c_q0_acts, o_c_q0_refusals, o_f_q0_forms, o_c_q3_n)) : vx_Met l yL_shift wsL_shift rmL_shift (va_Pc [.ref a_q0, .int p1, .int p2, .ref a_q3] (wPL D [(cyJ, .long)] [(a_q0, .inr (6, [.ref a_q0_forms, .ref a_q0_roll, .ref a_q0_row, .ref a_q0_rows, .ref a_q0_factors, .ref a_q0_found, .ref a_q0_foundOtherwise, .int c_q0_acts, .int c_q0_refusals, .int c_q0_knocks])), (a_q0_forms, .inl (cyJ, 6, .inr (.inl f_q0_forms))), (a_q3, .inr (7, [.long c_q3_n, c_q3_s]))] sz)) (va_Qi (fun (r : Int32) (_ : Unit) => r = r0) (fun _ t => wQA D [(a_q0, .inr (6, [.ref a_q0_forms, .ref a_q0_roll, .ref a_q0_row, .ref a_q0_rows, .ref a_q0_factors, .ref a_q0_found, .ref a_q0_foundOtherwise, .int o_c_q0_acts, .int o_c_q0_refusals, .int c_q0_knocks])), (a_q0_forms, .inl (cyJ, 6, .inr (.inl o_f_q0_forms))), (a_q3, .inr (7, [.long o_c_q3_n, c_q3_s]))] (va_A [(a_q0, .inr (6, [.ref a_q0_forms, .ref a_q0_roll, .ref a_q0_row, .ref a_q0_rows, .ref a_q0_factors, .ref a_q0_found, .ref a_q0_foundOtherwise, .int c_q0_acts, .int c_q0_refusals, .int c_q0_knocks])), (a_q0_forms, .inl (cyJ, 6, .inr (.inl f_q0_forms))), (a_q3, .inr (7, [.long c_q3_n, c_q3_s]))] sz) t) (va_A [(a_q0, .inr (6, [.ref a_q0_forms, .ref a_q0_roll, .ref a_q0_row, .ref a_q0_rows, .ref a_q0_factors, .ref a_q0_found, .ref a_q0_foundOtherwise, .int c_q0_acts, .int c_q0_refusals, .int c_q0_knocks])), (a_q0_forms, .inl (cyJ, 6, .inr (.inl f_q0_forms))), (a_q3, .inr (7, [.long c_q3_n, c_q3_s]))] sz)) (fun _ _ _ => False) 2 12 (va_A [(a_q0, .inr (6, [.ref a_q0_forms, .ref a_q0_roll, .ref a_q0_row, .ref a_q0_rows, .ref a_q0_factors, .ref a_q0_found, .ref a_q0_foundOtherwise, .int c_q0_acts, .int c_q0_refusals, .int c_q0_knocks])), (a_q0_forms, .inl (cyJ, 6, .inr (.inl f_q0_forms))), (a_q3, .inr (7, [.long c_q3_n, c_q3_s]))] sz) := by
  refine vx_ofWH (cc := cL_shift) (maxL := 5) (ret := (some .int)) (hh := [(0, 11, 14, 19), (0, 11, 18, 21)]) (by decide) rfl ?_
  intro p e s m args below meth c s₁ B hml hv
  obtain ⟨rfl, ⟨⟨hsz, hP, hK, hD0, hnw⟩, hE⟩, hNc⟩ := hv
  have hx := B.exec
  have hb := B.bytes
  have hr := B.returns
  have hts := atoms_spec (ws := wsL_shift) B.pre
  have hown : s.vm.findClass RL = some m.cls := findClass_of_methodNamed B.named
  have hlocks := B.notSynchronized
  have hcf : CallFix _ _ _ _ _ _ _ _ _ := ⟨hx, hb, hml, hown, hts⟩
  have hxt : c.exceptionTable.toList = tableOf [(0, 11, 14, 19), (0, 11, 18, 21)] := vx_table (x := yL_shift) B (hts _ List.mem_cons_self)
  have hinX8 : ∀ w ∈ u_ws RX8 TX8 2, w ∈ wsL_shift := by decide +kernel
  have hfl13 := hnw.use (A := ([.ref a_q0, .int p1, .int p2, .ref a_q3] : List Value).toArray) (w := .fieldLinkNest RL 13 "FormwheelLaw$Out" "n" "J" "FormwheelLaw") (by decide +kernel)
  subst hsz
  have hD := hD0.self (sz := s.heap.size)
  generalize hAe : va_A [(a_q0, .inr (6, [.ref a_q0_forms, .ref a_q0_roll, .ref a_q0_row, .ref a_q0_rows, .ref a_q0_factors, .ref a_q0_found, .ref a_q0_foundOtherwise, .int c_q0_acts, .int c_q0_refusals, .int c_q0_knocks])), (a_q0_forms, .inl (cyJ, 6, .inr (.inl f_q0_forms))), (a_q3, .inr (7, [.long c_q3_n, c_q3_s]))] s.heap.size = A at hD hE ⊢
  have hA : ∀ q : Nat, s.heap.size ≤ q → A q := fun q h => by rw [← hAe]; exact Or.inr h
  have hS : va_S A s.heap s.heap [] := va_S.rf
  have hP : va_P D vwCl [(a_q0, .inr (6, [.ref a_q0_forms, .ref a_q0_roll, .ref a_q0_row, .ref a_q0_rows, .ref a_q0_factors, .ref a_q0_found, .ref a_q0_foundOtherwise, .int c_q0_acts, .int c_q0_refusals, .int c_q0_knocks])), (a_q0_forms, .inl (cyJ, 6, .inr (.inl f_q0_forms))), (a_q3, .inr (7, [.long c_q3_n, c_q3_s]))] s.heap := hP
  have hK0 := hK
  have hl := lv_entry ([.ref a_q0, .int p1, .int p2, .ref a_q3]) (n := 5) (Nat.le_of_ble_eq_true rfl)
  rw [lg_entry_eq]
  generalize (lg_sl ([.ref a_q0, .int p1, .int p2, .ref a_q3]) ++ List.replicate (5 - (lg_sl ([.ref a_q0, .int p1, .int p2, .ref a_q3])).length) Slot.unset).toArray = ls at hl ⊢
  have hl : lv_has ls 5 [(0, .ref a_q0), (1, .int p1), (2, .int p2), (3, .ref a_q3)] := hl
  have h := hF
  clear hF
  unfold F_L_shift at h
  refine lv_aload_n hx hb dL_shift_0 rfl (lv_at hl 3 rfl) ?_
  refine lv_aload_n hx hb dL_shift_1 rfl (lv_at hl 0 rfl) ?_
  refine lv_iload_n hx hb dL_shift_2 rfl (lv_at hl 1 rfl) ?_
  refine lv_iload_n hx hb dL_shift_3 rfl (lv_at hl 2 rfl) ?_
  obtain ⟨xc4, r4, c_q0_acts_4, c_q0_refusals_4, f_q0_forms_4, hc4, h⟩ := obn5_h h
  have hPc := hP.sub (ws' := [(a_q0, .inr (6, [.ref a_q0_forms, .ref a_q0_roll, .ref a_q0_row, .ref a_q0_rows, .ref a_q0_factors, .ref a_q0_found, .ref a_q0_foundOtherwise, .int c_q0_acts, .int c_q0_refusals, .int c_q0_knocks])), (a_q0_forms, .inl (cyJ, 6, .inr (.inl f_q0_forms)))]) [0, 1] rfl
  have hDc := hD.sub (ws' := [(a_q0, .inr (6, [.ref a_q0_forms, .ref a_q0_roll, .ref a_q0_row, .ref a_q0_rows, .ref a_q0_factors, .ref a_q0_found, .ref a_q0_foundOtherwise, .int c_q0_acts, .int c_q0_refusals, .int c_q0_knocks])), (a_q0_forms, .inl (cyJ, 6, .inr (.inl f_q0_forms)))]) [0, 1] (by decide) rfl
  refine hx_i (w1 := [(a_q0, .inr (6, [.ref a_q0_forms, .ref a_q0_roll, .ref a_q0_row, .ref a_q0_rows, .ref a_q0_factors, .ref a_q0_found, .ref a_q0_foundOtherwise, .int c_q0_acts_4, .int c_q0_refusals_4, .int c_q0_knocks])), (a_q0_forms, .inl (cyJ, 6, .inr (.inl f_q0_forms_4)))]) (wr := [(a_q3, .inr (7, [.long c_q3_n, c_q3_s]))]) (vx_runV (As := [.int p1, .int p2]) (rest := [.ref a_q3]) hcf (c_X7_shift l hfl D cyJ s.heap.size a_q0 a_q0_forms a_q0_roll a_q0_row a_q0_rows a_q0_factors a_q0_found a_q0_foundOtherwise c_q0_acts c_q0_refusals c_q0_knocks f_q0_forms p1 p2 xc4 r4 c_q0_acts_4 c_q0_refusals_4 f_q0_forms_4 hc4) (cwV 2 hts gL_shift_X7_shift rfl rfl rfl ydX7_shift ⟨Nat.le_of_ble_eq_true rfl, Nat.le_of_ble_eq_true rfl⟩) ⟨bl_PX, va_recv hK hP (ci := 6) (q0 := 0) rfl rfl, pr_PX hPc hK0 hDc hnw hE hS (va_free hD hS hA [0, 1] rfl)⟩ rfl rfl hl.1 rfl (lv_room (Nat.le_of_ble_eq_true rfl)) dL_shift_4 ⟨Nat.le_of_ble_eq_true rfl, Nat.le_of_ble_eq_true rfl⟩) hP hD hS hA [0, 1] [2] rfl rfl (by decide) (by decide) (fun E9 ce9 q9 H locs hx9 hE9 hP hD hS hce9 hcv9 hcl9 => ?_) (fun hx9 H locs hP hD hS => ?_)
  · have h := if_ hx9 h
    have hP : va_P D vwCl [(a_q3, .inr (7, [.long c_q3_n, c_q3_s])), (a_q0, .inr (6, [.ref a_q0_forms, .ref a_q0_roll, .ref a_q0_row, .ref a_q0_rows, .ref a_q0_factors, .ref a_q0_found, .ref a_q0_foundOtherwise, .int c_q0_acts_4, .int c_q0_refusals_4, .int c_q0_knocks])), (a_q0_forms, .inl (cyJ, 6, .inr (.inl f_q0_forms_4)))] H := hP
    have hD : va_D A [(a_q3, .inr (7, [.long c_q3_n, c_q3_s])), (a_q0, .inr (6, [.ref a_q0_forms, .ref a_q0_roll, .ref a_q0_row, .ref a_q0_rows, .ref a_q0_factors, .ref a_q0_found, .ref a_q0_foundOtherwise, .int c_q0_acts_4, .int c_q0_refusals_4, .int c_q0_knocks])), (a_q0_forms, .inl (cyJ, 6, .inr (.inl f_q0_forms_4)))] := hD
    by_cases cx0 : xc4 = 1
    · have h := it_ cx0 h
      have hE1 : E9 = "java/lang/IndexOutOfBoundsException" := by rw [hE9, cx0]; rfl
      subst hE1
      refine vx_catch (name := "java/lang/IndexOutOfBoundsException") hown (tableOf []) ⟨0, 11, 14, 19⟩ (tableOf [(0, 11, 18, 21)]) hxt (fun z hz => absurd hz List.not_mem_nil) (by decide) (by decide) (hts (.classLink RL 19 "java/lang/IndexOutOfBoundsException") (by decide +kernel)) (va_Nw.use rfl (hE.2.1 (.castable "java/lang/IndexOutOfBoundsException" "java/lang/IndexOutOfBoundsException") (by decide +kernel))) hce9 hcv9 hcl9 ?_
      refine lv_astore (lv' := [(4, .ref q9), (0, .ref a_q0), (1, .int p1), (2, .int p2), (3, .ref a_q3)]) hx hb dL_shift_14 hl (by decide) rfl (fun ls hl => ?_)
      refine lv_iconst (v := 1) hx hb dL_shift_16 (by decide) ?_
      obtain ⟨e0, e1, e2, e3, e4⟩ := tup5 h
      subst e0
      subst e1
      subst e2
      subst e3
      subst e4
      have hP9 : va_P D vwCl [(a_q0, .inr (6, [.ref a_q0_forms, .ref a_q0_roll, .ref a_q0_row, .ref a_q0_rows, .ref a_q0_factors, .ref a_q0_found, .ref a_q0_foundOtherwise, .int c_q0_acts_4, .int c_q0_refusals_4, .int c_q0_knocks])), (a_q0_forms, .inl (cyJ, 6, .inr (.inl f_q0_forms_4))), (a_q3, .inr (7, [.long c_q3_n, c_q3_s]))] H := hP.sub [1, 2, 0] rfl
      have hD9 : va_D A [(a_q0, .inr (6, [.ref a_q0_forms, .ref a_q0_roll, .ref a_q0_row, .ref a_q0_rows, .ref a_q0_factors, .ref a_q0_found, .ref a_q0_foundOtherwise, .int c_q0_acts_4, .int c_q0_refusals_4, .int c_q0_knocks])), (a_q0_forms, .inl (cyJ, 6, .inr (.inl f_q0_forms_4))), (a_q3, .inr (7, [.long c_q3_n, c_q3_s]))] := hD.sub [1, 2, 0] (by decide) rfl
      refine vx_ret ?_
      exact W.iret hx hb hr (fun t ht hW => ⟨⟨_, (), rfl, rfl, wQA_of ht hP9 hD9⟩, hS.F ht⟩) hS.2.2 dL_shift_17
    have h := if_ cx0 h
    by_cases cx1 : xc4 = 2
    · have h := it_ cx1 h
      have hE1 : E9 = "java/lang/IllegalArgumentException" := by rw [hE9, cx1]; rfl
      subst hE1
      refine vx_catch (name := "java/lang/IllegalArgumentException") hown (tableOf [(0, 11, 14, 19)]) ⟨0, 11, 18, 21⟩ (tableOf []) hxt (fun z hz => by obtain rfl := List.mem_singleton.mp hz; exact Or.inr ⟨by decide, "java/lang/IndexOutOfBoundsException", hts (.classLink RL 19 "java/lang/IndexOutOfBoundsException") (by decide +kernel), hNc⟩) (by decide) (by decide) (hts (.classLink RL 21 "java/lang/IllegalArgumentException") (by decide +kernel)) (va_Nw.use rfl (hE.2.1 (.castable "java/lang/IllegalArgumentException" "java/lang/IllegalArgumentException") (by decide +kernel))) hce9 hcv9 hcl9 ?_
      refine lv_astore (lv' := [(4, .ref q9), (0, .ref a_q0), (1, .int p1), (2, .int p2), (3, .ref a_q3)]) hx hb dL_shift_18 hl (by decide) rfl (fun ls hl => ?_)
      refine lv_iconst (v := 2) hx hb dL_shift_20 (by decide) ?_
      obtain ⟨e0, e1, e2, e3, e4⟩ := tup5 h
      subst e0
      subst e1
      subst e2
      subst e3
      subst e4
      have hP9 : va_P D vwCl [(a_q0, .inr (6, [.ref a_q0_forms, .ref a_q0_roll, .ref a_q0_row, .ref a_q0_rows, .ref a_q0_factors, .ref a_q0_found, .ref a_q0_foundOtherwise, .int c_q0_acts_4, .int c_q0_refusals_4, .int c_q0_knocks])), (a_q0_forms, .inl (cyJ, 6, .inr (.inl f_q0_forms_4))), (a_q3, .inr (7, [.long c_q3_n, c_q3_s]))] H := hP.sub [1, 2, 0] rfl
      have hD9 : va_D A [(a_q0, .inr (6, [.ref a_q0_forms, .ref a_q0_roll, .ref a_q0_row, .ref a_q0_rows, .ref a_q0_factors, .ref a_q0_found, .ref a_q0_foundOtherwise, .int c_q0_acts_4, .int c_q0_refusals_4, .int c_q0_knocks])), (a_q0_forms, .inl (cyJ, 6, .inr (.inl f_q0_forms_4))), (a_q3, .inr (7, [.long c_q3_n, c_q3_s]))] := hD.sub [1, 2, 0] (by decide) rfl
      refine vx_ret ?_
      exact W.iret hx hb hr (fun t ht hW => ⟨⟨_, (), rfl, rfl, wQA_of ht hP9 hD9⟩, hS.F ht⟩) hS.2.2 dL_shift_21
    have h := if_ cx1 h
    cases h
  · have h := it_ hx9 h
    have hP : va_P D vwCl [(a_q3, .inr (7, [.long c_q3_n, c_q3_s])), (a_q0, .inr (6, [.ref a_q0_forms, .ref a_q0_roll, .ref a_q0_row, .ref a_q0_rows, .ref a_q0_factors, .ref a_q0_found, .ref a_q0_foundOtherwise, .int c_q0_acts_4, .int c_q0_refusals_4, .int c_q0_knocks])), (a_q0_forms, .inl (cyJ, 6, .inr (.inl f_q0_forms_4)))] H := hP
    have hD : va_D A [(a_q3, .inr (7, [.long c_q3_n, c_q3_s])), (a_q0, .inr (6, [.ref a_q0_forms, .ref a_q0_roll, .ref a_q0_row, .ref a_q0_rows, .ref a_q0_factors, .ref a_q0_found, .ref a_q0_foundOtherwise, .int c_q0_acts_4, .int c_q0_refusals_4, .int c_q0_knocks])), (a_q0_forms, .inl (cyJ, 6, .inr (.inl f_q0_forms_4)))] := hD
    refine lv_i2l (v := r4.toInt64) hx hb dL_shift_7 rfl ?_
    refine lv_topl (fun c_q3_n_8 e_c_q3_n_8 => ?_)
    have h := bnd_h e_c_q3_n_8 h
    refine va_putN (D := D) (ci := 7) (v := .long c_q3_n_8) (ty := .long) (C := RX8) (T := TX8) (N := 2) hx hb hts hinX8 tyX8 tyX8_ok nmX8 hown hK hP hD hS 0 rfl rfl 0 (by decide) hfl13 (fun _ h9 => h9) rfl (by decide +kernel) rfl rfl (Nat.le_of_ble_eq_true rfl) dL_shift_8 (fun H locs hP hD hS => ?_)
    have hP : va_P D vwCl [(a_q3, .inr (7, [.long c_q3_n_8, c_q3_s])), (a_q0, .inr (6, [.ref a_q0_forms, .ref a_q0_roll, .ref a_q0_row, .ref a_q0_rows, .ref a_q0_factors, .ref a_q0_found, .ref a_q0_foundOtherwise, .int c_q0_acts_4, .int c_q0_refusals_4, .int c_q0_knocks])), (a_q0_forms, .inl (cyJ, 6, .inr (.inl f_q0_forms_4)))] H := hP
    have hD : va_D A [(a_q3, .inr (7, [.long c_q3_n_8, c_q3_s])), (a_q0, .inr (6, [.ref a_q0_forms, .ref a_q0_roll, .ref a_q0_row, .ref a_q0_rows, .ref a_q0_factors, .ref a_q0_found, .ref a_q0_foundOtherwise, .int c_q0_acts_4, .int c_q0_refusals_4, .int c_q0_knocks])), (a_q0_forms, .inl (cyJ, 6, .inr (.inl f_q0_forms_4)))] := hD
    refine lv_goto (tgt := 22) hx hb dL_shift_11 (by decide) ?_
    refine lv_iconst (v := 0) hx hb dL_shift_22 (by decide) ?_
    obtain ⟨e0, e1, e2, e3, e4⟩ := tup5 h
    subst e0
    subst e1
    subst e2
    subst e3
    subst e4
    have hP9 : va_P D vwCl [(a_q0, .inr (6, [.ref a_q0_forms, .ref a_q0_roll, .ref a_q0_row, .ref a_q0_rows, .ref a_q0_factors, .ref a_q0_found, .ref a_q0_foundOtherwise, .int c_q0_acts_4, .int c_q0_refusals_4, .int c_q0_knocks])), (a_q0_forms, .inl (cyJ, 6, .inr (.inl f_q0_forms_4))), (a_q3, .inr (7, [.long c_q3_n_8, c_q3_s]))] H := hP.sub [1, 2, 0] rfl
    have hD9 : va_D A [(a_q0, .inr (6, [.ref a_q0_forms, .ref a_q0_roll, .ref a_q0_row, .ref a_q0_rows, .ref a_q0_factors, .ref a_q0_found, .ref a_q0_foundOtherwise, .int c_q0_acts_4, .int c_q0_refusals_4, .int c_q0_knocks])), (a_q0_forms, .inl (cyJ, 6, .inr (.inl f_q0_forms_4))), (a_q3, .inr (7, [.long c_q3_n_8, c_q3_s]))] := hD.sub [1, 2, 0] (by decide) rfl
    refine vx_ret ?_
    exact W.iret hx hb hr (fun t ht hW => ⟨⟨_, (), rfl, rfl, wQA_of ht hP9 hD9⟩, hS.F ht⟩) hS.2.2 dL_shift_23

noncomputable abbrev rmL_turn : Room := { frames := 10, cells := 1, slots := 6, locals := 141 }
theorem ydL_turn : yL_turn.cls ≠ "java/lang/invoke/MethodHandle" ∧ yL_turn.cls ≠ "java/lang/invoke/VarHandle" ∧ (parseMethodDescriptor yL_turn.desc).map (fun d => d.parameters.length) = some 3 := by decide +kernel
noncomputable def F_L_turn (c_q0_acts : Int32) (f_q0_forms : Nat → Int64) (c_q2_n : Int64) (p1 : Int32) : Option (Int32 × Int32 × (Nat → Int64) × Int64) :=
 obn4 (F_X7_turn c_q0_acts f_q0_forms p1) (fun xc3 r3 c_q0_acts_3 f_q0_forms_3 =>
 if xc3 = 0 then
 bnd r3.toInt64 (fun c_q2_n_7 =>
 some ((0 : Int32), c_q0_acts_3, f_q0_forms_3, c_q2_n_7))
else
 (if xc3 = 1 then
 some ((1 : Int32), c_q0_acts_3, f_q0_forms_3, c_q2_n)
else
 none))
set_option maxHeartbeats 4000000 in
set_option maxRecDepth 100000 in
theorem c_L_turn (l : Launch) (hfl : l.stackTraces = false) (D : va_G) (cyJ : ClassId) (sz : Nat) (a_q0 : Nat) (a_q2 : Nat) (a_q0_forms : Nat) (a_q0_roll : Nat) (a_q0_row : Nat) (a_q0_rows : Nat) (a_q0_factors : Nat) (a_q0_found : Nat) (a_q0_foundOtherwise : Nat) (c_q0_acts : Int32) (c_q0_refusals : Int32) (c_q0_knocks : Int32) (f_q0_forms : Nat → Int64) (c_q2_n : Int64) (c_q2_s : Value) (p1 : Int32) (r0 : Int32) (o_c_q0_acts : Int32) (o_f_q0_forms : Nat → Int64) (o_c_q2_n : Int64) (hF : F_L_turn c_q0_acts f_q0_forms c_q2_n p1 = some (r0, o_c_q0_acts, o_f_q0_forms, o_c_q2_n)) : vx_Met l yL_turn wsL_turn rmL_turn (va_Pc [.ref a_q0, .int p1, .ref a_q2] (wPL D [(cyJ, .long)] [(a_q0, .inr (6, [.ref a_q0_forms, .ref a_q0_roll, .ref a_q0_row, .ref a_q0_rows, .ref a_q0_factors, .ref a_q0_found, .ref a_q0_foundOtherwise, .int c_q0_acts, .int c_q0_refusals, .int c_q0_knocks])), (a_q0_forms, .inl (cyJ, 6, .inr (.inl f_q0_forms))), (a_q2, .inr (7, [.long c_q2_n, c_q2_s]))] sz)) (va_Qi (fun (r : Int32) (_ : Unit) => r = r0) (fun _ t => wQA D [(a_q0, .inr (6, [.ref a_q0_forms, .ref a_q0_roll, .ref a_q0_row, .ref a_q0_rows, .ref a_q0_factors, .ref a_q0_found, .ref a_q0_foundOtherwise, .int o_c_q0_acts, .int c_q0_refusals, .int c_q0_knocks])), (a_q0_forms, .inl (cyJ, 6, .inr (.inl o_f_q0_forms))), (a_q2, .inr (7, [.long o_c_q2_n, c_q2_s]))] (va_A [(a_q0, .inr (6, [.ref a_q0_forms, .ref a_q0_roll, .ref a_q0_row, .ref a_q0_rows, .ref a_q0_factors, .ref a_q0_found, .ref a_q0_foundOtherwise, .int c_q0_acts, .int c_q0_refusals, .int c_q0_knocks])), (a_q0_forms, .inl (cyJ, 6, .inr (.inl f_q0_forms))), (a_q2, .inr (7, [.long c_q2_n, c_q2_s]))] sz) t) (va_A [(a_q0, .inr (6, [.ref a_q0_forms, .ref a_q0_roll, .ref a_q0_row, .ref a_q0_rows, .ref a_q0_factors, .ref a_q0_found, .ref a_q0_foundOtherwise, .int c_q0_acts, .int c_q0_refusals, .int c_q0_knocks])), (a_q0_forms, .inl (cyJ, 6, .inr (.inl f_q0_forms))), (a_q2, .inr (7, [.long c_q2_n, c_q2_s]))] sz)) (fun _ _ _ => False) 1 6 (va_A [(a_q0, .inr (6, [.ref a_q0_forms, .ref a_q0_roll, .ref a_q0_row, .ref a_q0_rows, .ref a_q0_factors, .ref a_q0_found, .ref a_q0_foundOtherwise, .int c_q0_acts, .int c_q0_refusals, .int c_q0_knocks])), (a_q0_forms, .inl (cyJ, 6, .inr (.inl f_q0_forms))), (a_q2, .inr (7, [.long c_q2_n, c_q2_s]))] sz) := by
  refine vx_ofWH (cc := cL_turn) (maxL := 4) (ret := (some .int)) (hh := [(0, 10, 13, 19)]) (by decide) rfl ?_
  intro p e s m args below meth c s₁ B hml hv
  obtain ⟨rfl, ⟨⟨hsz, hP, hK, hD0, hnw⟩, hE⟩, hNc⟩ := hv
  have hx := B.exec
  have hb := B.bytes
  have hr := B.returns
  have hts := atoms_spec (ws := wsL_turn) B.pre
  have hown : s.vm.findClass RL = some m.cls := findClass_of_methodNamed B.named
  have hlocks := B.notSynchronized
  have hcf : CallFix _ _ _ _ _ _ _ _ _ := ⟨hx, hb, hml, hown, hts⟩
  have hxt : c.exceptionTable.toList = tableOf [(0, 10, 13, 19)] := vx_table (x := yL_turn) B (hts _ List.mem_cons_self)
  have hinX8 : ∀ w ∈ u_ws RX8 TX8 2, w ∈ wsL_turn := by decide +kernel
  have hfl13 := hnw.use (A := ([.ref a_q0, .int p1, .ref a_q2] : List Value).toArray) (w := .fieldLinkNest RL 13 "FormwheelLaw$Out" "n" "J" "FormwheelLaw") (by decide +kernel)
  subst hsz
  have hD := hD0.self (sz := s.heap.size)
  generalize hAe : va_A [(a_q0, .inr (6, [.ref a_q0_forms, .ref a_q0_roll, .ref a_q0_row, .ref a_q0_rows, .ref a_q0_factors, .ref a_q0_found, .ref a_q0_foundOtherwise, .int c_q0_acts, .int c_q0_refusals, .int c_q0_knocks])), (a_q0_forms, .inl (cyJ, 6, .inr (.inl f_q0_forms))), (a_q2, .inr (7, [.long c_q2_n, c_q2_s]))] s.heap.size = A at hD hE ⊢
  have hA : ∀ q : Nat, s.heap.size ≤ q → A q := fun q h => by rw [← hAe]; exact Or.inr h
  have hS : va_S A s.heap s.heap [] := va_S.rf
  have hP : va_P D vwCl [(a_q0, .inr (6, [.ref a_q0_forms, .ref a_q0_roll, .ref a_q0_row, .ref a_q0_rows, .ref a_q0_factors, .ref a_q0_found, .ref a_q0_foundOtherwise, .int c_q0_acts, .int c_q0_refusals, .int c_q0_knocks])), (a_q0_forms, .inl (cyJ, 6, .inr (.inl f_q0_forms))), (a_q2, .inr (7, [.long c_q2_n, c_q2_s]))] s.heap := hP
  have hK0 := hK
  have hl := lv_entry ([.ref a_q0, .int p1, .ref a_q2]) (n := 4) (Nat.le_of_ble_eq_true rfl)
  rw [lg_entry_eq]
  generalize (lg_sl ([.ref a_q0, .int p1, .ref a_q2]) ++ List.replicate (4 - (lg_sl ([.ref a_q0, .int p1, .ref a_q2])).length) Slot.unset).toArray = ls at hl ⊢
  have hl : lv_has ls 4 [(0, .ref a_q0), (1, .int p1), (2, .ref a_q2)] := hl
  have h := hF
  clear hF
  unfold F_L_turn at h
  refine lv_aload_n hx hb dL_turn_0 rfl (lv_at hl 2 rfl) ?_
  refine lv_aload_n hx hb dL_turn_1 rfl (lv_at hl 0 rfl) ?_
  refine lv_iload_n hx hb dL_turn_2 rfl (lv_at hl 1 rfl) ?_
  obtain ⟨xc3, r3, c_q0_acts_3, f_q0_forms_3, hc3, h⟩ := obn4_h h
  have hPc := hP.sub (ws' := [(a_q0, .inr (6, [.ref a_q0_forms, .ref a_q0_roll, .ref a_q0_row, .ref a_q0_rows, .ref a_q0_factors, .ref a_q0_found, .ref a_q0_foundOtherwise, .int c_q0_acts, .int c_q0_refusals, .int c_q0_knocks])), (a_q0_forms, .inl (cyJ, 6, .inr (.inl f_q0_forms)))]) [0, 1] rfl
  have hDc := hD.sub (ws' := [(a_q0, .inr (6, [.ref a_q0_forms, .ref a_q0_roll, .ref a_q0_row, .ref a_q0_rows, .ref a_q0_factors, .ref a_q0_found, .ref a_q0_foundOtherwise, .int c_q0_acts, .int c_q0_refusals, .int c_q0_knocks])), (a_q0_forms, .inl (cyJ, 6, .inr (.inl f_q0_forms)))]) [0, 1] (by decide) rfl
  refine hx_i (w1 := [(a_q0, .inr (6, [.ref a_q0_forms, .ref a_q0_roll, .ref a_q0_row, .ref a_q0_rows, .ref a_q0_factors, .ref a_q0_found, .ref a_q0_foundOtherwise, .int c_q0_acts_3, .int c_q0_refusals, .int c_q0_knocks])), (a_q0_forms, .inl (cyJ, 6, .inr (.inl f_q0_forms_3)))]) (wr := [(a_q2, .inr (7, [.long c_q2_n, c_q2_s]))]) (vx_runV (As := [.int p1]) (rest := [.ref a_q2]) hcf (c_X7_turn l hfl D cyJ s.heap.size a_q0 a_q0_forms a_q0_roll a_q0_row a_q0_rows a_q0_factors a_q0_found a_q0_foundOtherwise c_q0_acts c_q0_refusals c_q0_knocks f_q0_forms p1 xc3 r3 c_q0_acts_3 f_q0_forms_3 hc3) (cwV 1 hts gL_turn_X7_turn rfl rfl rfl ydX7_turn ⟨Nat.le_of_ble_eq_true rfl, Nat.le_of_ble_eq_true rfl⟩) ⟨bl_PX, va_recv hK hP (ci := 6) (q0 := 0) rfl rfl, pr_PX hPc hK0 hDc hnw hE hS (va_free hD hS hA [0, 1] rfl)⟩ rfl rfl hl.1 rfl (lv_room (Nat.le_of_ble_eq_true rfl)) dL_turn_3 ⟨Nat.le_of_ble_eq_true rfl, Nat.le_of_ble_eq_true rfl⟩) hP hD hS hA [0, 1] [2] rfl rfl (by decide) (by decide) (fun E9 ce9 q9 H locs hx9 hE9 hP hD hS hce9 hcv9 hcl9 => ?_) (fun hx9 H locs hP hD hS => ?_)
  · have h := if_ hx9 h
    have hP : va_P D vwCl [(a_q2, .inr (7, [.long c_q2_n, c_q2_s])), (a_q0, .inr (6, [.ref a_q0_forms, .ref a_q0_roll, .ref a_q0_row, .ref a_q0_rows, .ref a_q0_factors, .ref a_q0_found, .ref a_q0_foundOtherwise, .int c_q0_acts_3, .int c_q0_refusals, .int c_q0_knocks])), (a_q0_forms, .inl (cyJ, 6, .inr (.inl f_q0_forms_3)))] H := hP
    have hD : va_D A [(a_q2, .inr (7, [.long c_q2_n, c_q2_s])), (a_q0, .inr (6, [.ref a_q0_forms, .ref a_q0_roll, .ref a_q0_row, .ref a_q0_rows, .ref a_q0_factors, .ref a_q0_found, .ref a_q0_foundOtherwise, .int c_q0_acts_3, .int c_q0_refusals, .int c_q0_knocks])), (a_q0_forms, .inl (cyJ, 6, .inr (.inl f_q0_forms_3)))] := hD
    by_cases cx0 : xc3 = 1
    · have h := it_ cx0 h
      have hE1 : E9 = "java/lang/IndexOutOfBoundsException" := by rw [hE9, cx0]; rfl
      subst hE1
      refine vx_catch (name := "java/lang/IndexOutOfBoundsException") hown (tableOf []) ⟨0, 10, 13, 19⟩ (tableOf []) hxt (fun z hz => absurd hz List.not_mem_nil) (by decide) (by decide) (hts (.classLink RL 19 "java/lang/IndexOutOfBoundsException") (by decide +kernel)) (va_Nw.use rfl (hE.2.1 (.castable "java/lang/IndexOutOfBoundsException" "java/lang/IndexOutOfBoundsException") (by decide +kernel))) hce9 hcv9 hcl9 ?_
      refine lv_astore_n (lv' := [(3, .ref q9), (0, .ref a_q0), (1, .int p1), (2, .ref a_q2)]) hx hb dL_turn_13 rfl hl (by decide) rfl (fun ls hl => ?_)
      refine lv_iconst (v := 1) hx hb dL_turn_14 (by decide) ?_
      obtain ⟨e0, e1, e2, e3⟩ := tup4 h
      subst e0
      subst e1
      subst e2
      subst e3
      have hP9 : va_P D vwCl [(a_q0, .inr (6, [.ref a_q0_forms, .ref a_q0_roll, .ref a_q0_row, .ref a_q0_rows, .ref a_q0_factors, .ref a_q0_found, .ref a_q0_foundOtherwise, .int c_q0_acts_3, .int c_q0_refusals, .int c_q0_knocks])), (a_q0_forms, .inl (cyJ, 6, .inr (.inl f_q0_forms_3))), (a_q2, .inr (7, [.long c_q2_n, c_q2_s]))] H := hP.sub [1, 2, 0] rfl
      have hD9 : va_D A [(a_q0, .inr (6, [.ref a_q0_forms, .ref a_q0_roll, .ref a_q0_row, .ref a_q0_rows, .ref a_q0_factors, .ref a_q0_found, .ref a_q0_foundOtherwise, .int c_q0_acts_3, .int c_q0_refusals, .int c_q0_knocks])), (a_q0_forms, .inl (cyJ, 6, .inr (.inl f_q0_forms_3))), (a_q2, .inr (7, [.long c_q2_n, c_q2_s]))] := hD.sub [1, 2, 0] (by decide) rfl
      refine vx_ret ?_
      exact W.iret hx hb hr (fun t ht hW => ⟨⟨_, (), rfl, rfl, wQA_of ht hP9 hD9⟩, hS.F ht⟩) hS.2.2 dL_turn_15
    have h := if_ cx0 h
    cases h
  · have h := it_ hx9 h
    have hP : va_P D vwCl [(a_q2, .inr (7, [.long c_q2_n, c_q2_s])), (a_q0, .inr (6, [.ref a_q0_forms, .ref a_q0_roll, .ref a_q0_row, .ref a_q0_rows, .ref a_q0_factors, .ref a_q0_found, .ref a_q0_foundOtherwise, .int c_q0_acts_3, .int c_q0_refusals, .int c_q0_knocks])), (a_q0_forms, .inl (cyJ, 6, .inr (.inl f_q0_forms_3)))] H := hP
    have hD : va_D A [(a_q2, .inr (7, [.long c_q2_n, c_q2_s])), (a_q0, .inr (6, [.ref a_q0_forms, .ref a_q0_roll, .ref a_q0_row, .ref a_q0_rows, .ref a_q0_factors, .ref a_q0_found, .ref a_q0_foundOtherwise, .int c_q0_acts_3, .int c_q0_refusals, .int c_q0_knocks])), (a_q0_forms, .inl (cyJ, 6, .inr (.inl f_q0_forms_3)))] := hD
    refine lv_i2l (v := r3.toInt64) hx hb dL_turn_6 rfl ?_
    refine lv_topl (fun c_q2_n_7 e_c_q2_n_7 => ?_)
    have h := bnd_h e_c_q2_n_7 h
    refine va_putN (D := D) (ci := 7) (v := .long c_q2_n_7) (ty := .long) (C := RX8) (T := TX8) (N := 2) hx hb hts hinX8 tyX8 tyX8_ok nmX8 hown hK hP hD hS 0 rfl rfl 0 (by decide) hfl13 (fun _ h9 => h9) rfl (by decide +kernel) rfl rfl (Nat.le_of_ble_eq_true rfl) dL_turn_7 (fun H locs hP hD hS => ?_)
    have hP : va_P D vwCl [(a_q2, .inr (7, [.long c_q2_n_7, c_q2_s])), (a_q0, .inr (6, [.ref a_q0_forms, .ref a_q0_roll, .ref a_q0_row, .ref a_q0_rows, .ref a_q0_factors, .ref a_q0_found, .ref a_q0_foundOtherwise, .int c_q0_acts_3, .int c_q0_refusals, .int c_q0_knocks])), (a_q0_forms, .inl (cyJ, 6, .inr (.inl f_q0_forms_3)))] H := hP
    have hD : va_D A [(a_q2, .inr (7, [.long c_q2_n_7, c_q2_s])), (a_q0, .inr (6, [.ref a_q0_forms, .ref a_q0_roll, .ref a_q0_row, .ref a_q0_rows, .ref a_q0_factors, .ref a_q0_found, .ref a_q0_foundOtherwise, .int c_q0_acts_3, .int c_q0_refusals, .int c_q0_knocks])), (a_q0_forms, .inl (cyJ, 6, .inr (.inl f_q0_forms_3)))] := hD
    refine lv_goto (tgt := 16) hx hb dL_turn_10 (by decide) ?_
    refine lv_iconst (v := 0) hx hb dL_turn_16 (by decide) ?_
    obtain ⟨e0, e1, e2, e3⟩ := tup4 h
    subst e0
    subst e1
    subst e2
    subst e3
    have hP9 : va_P D vwCl [(a_q0, .inr (6, [.ref a_q0_forms, .ref a_q0_roll, .ref a_q0_row, .ref a_q0_rows, .ref a_q0_factors, .ref a_q0_found, .ref a_q0_foundOtherwise, .int c_q0_acts_3, .int c_q0_refusals, .int c_q0_knocks])), (a_q0_forms, .inl (cyJ, 6, .inr (.inl f_q0_forms_3))), (a_q2, .inr (7, [.long c_q2_n_7, c_q2_s]))] H := hP.sub [1, 2, 0] rfl
    have hD9 : va_D A [(a_q0, .inr (6, [.ref a_q0_forms, .ref a_q0_roll, .ref a_q0_row, .ref a_q0_rows, .ref a_q0_factors, .ref a_q0_found, .ref a_q0_foundOtherwise, .int c_q0_acts_3, .int c_q0_refusals, .int c_q0_knocks])), (a_q0_forms, .inl (cyJ, 6, .inr (.inl f_q0_forms_3))), (a_q2, .inr (7, [.long c_q2_n_7, c_q2_s]))] := hD.sub [1, 2, 0] (by decide) rfl
    refine vx_ret ?_
    exact W.iret hx hb hr (fun t ht hW => ⟨⟨_, (), rfl, rfl, wQA_of ht hP9 hD9⟩, hS.F ht⟩) hS.2.2 dL_turn_17

noncomputable abbrev rmL_slope : Room := { frames := 10, cells := 1, slots := 6, locals := 141 }
theorem ydL_slope : yL_slope.cls ≠ "java/lang/invoke/MethodHandle" ∧ yL_slope.cls ≠ "java/lang/invoke/VarHandle" ∧ (parseMethodDescriptor yL_slope.desc).map (fun d => d.parameters.length) = some 3 := by decide +kernel
noncomputable def F_L_slope (c_q0_acts : Int32) (f_q0_forms : Nat → Int64) (c_q2_n : Int64) (p1 : Int32) : Option (Int32 × Int32 × (Nat → Int64) × Int64) :=
 obn4 (F_X7_slope c_q0_acts f_q0_forms p1) (fun xc3 r3 c_q0_acts_3 f_q0_forms_3 =>
 if xc3 = 0 then
 bnd r3.toInt64 (fun c_q2_n_7 =>
 some ((0 : Int32), c_q0_acts_3, f_q0_forms_3, c_q2_n_7))
else
 (if xc3 = 1 then
 some ((1 : Int32), c_q0_acts_3, f_q0_forms_3, c_q2_n)
else
 none))
set_option maxHeartbeats 4000000 in
set_option maxRecDepth 100000 in
theorem c_L_slope (l : Launch) (hfl : l.stackTraces = false) (D : va_G) (cyJ : ClassId) (sz : Nat) (a_q0 : Nat) (a_q2 : Nat) (a_q0_forms : Nat) (a_q0_roll : Nat) (a_q0_row : Nat) (a_q0_rows : Nat) (a_q0_factors : Nat) (a_q0_found : Nat) (a_q0_foundOtherwise : Nat) (c_q0_acts : Int32) (c_q0_refusals : Int32) (c_q0_knocks : Int32) (f_q0_forms : Nat → Int64) (c_q2_n : Int64) (c_q2_s : Value) (p1 : Int32) (r0 : Int32) (o_c_q0_acts : Int32) (o_f_q0_forms : Nat → Int64) (o_c_q2_n : Int64) (hF : F_L_slope c_q0_acts f_q0_forms c_q2_n p1 = some (r0, o_c_q0_acts, o_f_q0_forms, o_c_q2_n)) : vx_Met l yL_slope wsL_slope rmL_slope (va_Pc [.ref a_q0, .int p1, .ref a_q2] (wPL D [(cyJ, .long)] [(a_q0, .inr (6, [.ref a_q0_forms, .ref a_q0_roll, .ref a_q0_row, .ref a_q0_rows, .ref a_q0_factors, .ref a_q0_found, .ref a_q0_foundOtherwise, .int c_q0_acts, .int c_q0_refusals, .int c_q0_knocks])), (a_q0_forms, .inl (cyJ, 6, .inr (.inl f_q0_forms))), (a_q2, .inr (7, [.long c_q2_n, c_q2_s]))] sz)) (va_Qi (fun (r : Int32) (_ : Unit) => r = r0) (fun _ t => wQA D [(a_q0, .inr (6, [.ref a_q0_forms, .ref a_q0_roll, .ref a_q0_row, .ref a_q0_rows, .ref a_q0_factors, .ref a_q0_found, .ref a_q0_foundOtherwise, .int o_c_q0_acts, .int c_q0_refusals, .int c_q0_knocks])), (a_q0_forms, .inl (cyJ, 6, .inr (.inl o_f_q0_forms))), (a_q2, .inr (7, [.long o_c_q2_n, c_q2_s]))] (va_A [(a_q0, .inr (6, [.ref a_q0_forms, .ref a_q0_roll, .ref a_q0_row, .ref a_q0_rows, .ref a_q0_factors, .ref a_q0_found, .ref a_q0_foundOtherwise, .int c_q0_acts, .int c_q0_refusals, .int c_q0_knocks])), (a_q0_forms, .inl (cyJ, 6, .inr (.inl f_q0_forms))), (a_q2, .inr (7, [.long c_q2_n, c_q2_s]))] sz) t) (va_A [(a_q0, .inr (6, [.ref a_q0_forms, .ref a_q0_roll, .ref a_q0_row, .ref a_q0_rows, .ref a_q0_factors, .ref a_q0_found, .ref a_q0_foundOtherwise, .int c_q0_acts, .int c_q0_refusals, .int c_q0_knocks])), (a_q0_forms, .inl (cyJ, 6, .inr (.inl f_q0_forms))), (a_q2, .inr (7, [.long c_q2_n, c_q2_s]))] sz)) (fun _ _ _ => False) 1 6 (va_A [(a_q0, .inr (6, [.ref a_q0_forms, .ref a_q0_roll, .ref a_q0_row, .ref a_q0_rows, .ref a_q0_factors, .ref a_q0_found, .ref a_q0_foundOtherwise, .int c_q0_acts, .int c_q0_refusals, .int c_q0_knocks])), (a_q0_forms, .inl (cyJ, 6, .inr (.inl f_q0_forms))), (a_q2, .inr (7, [.long c_q2_n, c_q2_s]))] sz) := by
  refine vx_ofWH (cc := cL_slope) (maxL := 4) (ret := (some .int)) (hh := [(0, 10, 13, 19)]) (by decide) rfl ?_
  intro p e s m args below meth c s₁ B hml hv
  obtain ⟨rfl, ⟨⟨hsz, hP, hK, hD0, hnw⟩, hE⟩, hNc⟩ := hv
  have hx := B.exec
  have hb := B.bytes
  have hr := B.returns
  have hts := atoms_spec (ws := wsL_slope) B.pre
  have hown : s.vm.findClass RL = some m.cls := findClass_of_methodNamed B.named
  have hlocks := B.notSynchronized
  have hcf : CallFix _ _ _ _ _ _ _ _ _ := ⟨hx, hb, hml, hown, hts⟩
  have hxt : c.exceptionTable.toList = tableOf [(0, 10, 13, 19)] := vx_table (x := yL_slope) B (hts _ List.mem_cons_self)
  have hinX8 : ∀ w ∈ u_ws RX8 TX8 2, w ∈ wsL_slope := by decide +kernel
  have hfl13 := hnw.use (A := ([.ref a_q0, .int p1, .ref a_q2] : List Value).toArray) (w := .fieldLinkNest RL 13 "FormwheelLaw$Out" "n" "J" "FormwheelLaw") (by decide +kernel)
  subst hsz
  have hD := hD0.self (sz := s.heap.size)
  generalize hAe : va_A [(a_q0, .inr (6, [.ref a_q0_forms, .ref a_q0_roll, .ref a_q0_row, .ref a_q0_rows, .ref a_q0_factors, .ref a_q0_found, .ref a_q0_foundOtherwise, .int c_q0_acts, .int c_q0_refusals, .int c_q0_knocks])), (a_q0_forms, .inl (cyJ, 6, .inr (.inl f_q0_forms))), (a_q2, .inr (7, [.long c_q2_n, c_q2_s]))] s.heap.size = A at hD hE ⊢
  have hA : ∀ q : Nat, s.heap.size ≤ q → A q := fun q h => by rw [← hAe]; exact Or.inr h
  have hS : va_S A s.heap s.heap [] := va_S.rf
  have hP : va_P D vwCl [(a_q0, .inr (6, [.ref a_q0_forms, .ref a_q0_roll, .ref a_q0_row, .ref a_q0_rows, .ref a_q0_factors, .ref a_q0_found, .ref a_q0_foundOtherwise, .int c_q0_acts, .int c_q0_refusals, .int c_q0_knocks])), (a_q0_forms, .inl (cyJ, 6, .inr (.inl f_q0_forms))), (a_q2, .inr (7, [.long c_q2_n, c_q2_s]))] s.heap := hP
  have hK0 := hK
  have hl := lv_entry ([.ref a_q0, .int p1, .ref a_q2]) (n := 4) (Nat.le_of_ble_eq_true rfl)
  rw [lg_entry_eq]
  generalize (lg_sl ([.ref a_q0, .int p1, .ref a_q2]) ++ List.replicate (4 - (lg_sl ([.ref a_q0, .int p1, .ref a_q2])).length) Slot.unset).toArray = ls at hl ⊢
  have hl : lv_has ls 4 [(0, .ref a_q0), (1, .int p1), (2, .ref a_q2)] := hl
  have h := hF
  clear hF
  unfold F_L_slope at h
  refine lv_aload_n hx hb dL_slope_0 rfl (lv_at hl 2 rfl) ?_
  refine lv_aload_n hx hb dL_slope_1 rfl (lv_at hl 0 rfl) ?_
  refine lv_iload_n hx hb dL_slope_2 rfl (lv_at hl 1 rfl) ?_
  obtain ⟨xc3, r3, c_q0_acts_3, f_q0_forms_3, hc3, h⟩ := obn4_h h
  have hPc := hP.sub (ws' := [(a_q0, .inr (6, [.ref a_q0_forms, .ref a_q0_roll, .ref a_q0_row, .ref a_q0_rows, .ref a_q0_factors, .ref a_q0_found, .ref a_q0_foundOtherwise, .int c_q0_acts, .int c_q0_refusals, .int c_q0_knocks])), (a_q0_forms, .inl (cyJ, 6, .inr (.inl f_q0_forms)))]) [0, 1] rfl
  have hDc := hD.sub (ws' := [(a_q0, .inr (6, [.ref a_q0_forms, .ref a_q0_roll, .ref a_q0_row, .ref a_q0_rows, .ref a_q0_factors, .ref a_q0_found, .ref a_q0_foundOtherwise, .int c_q0_acts, .int c_q0_refusals, .int c_q0_knocks])), (a_q0_forms, .inl (cyJ, 6, .inr (.inl f_q0_forms)))]) [0, 1] (by decide) rfl
  refine hx_i (w1 := [(a_q0, .inr (6, [.ref a_q0_forms, .ref a_q0_roll, .ref a_q0_row, .ref a_q0_rows, .ref a_q0_factors, .ref a_q0_found, .ref a_q0_foundOtherwise, .int c_q0_acts_3, .int c_q0_refusals, .int c_q0_knocks])), (a_q0_forms, .inl (cyJ, 6, .inr (.inl f_q0_forms_3)))]) (wr := [(a_q2, .inr (7, [.long c_q2_n, c_q2_s]))]) (vx_runV (As := [.int p1]) (rest := [.ref a_q2]) hcf (c_X7_slope l hfl D cyJ s.heap.size a_q0 a_q0_forms a_q0_roll a_q0_row a_q0_rows a_q0_factors a_q0_found a_q0_foundOtherwise c_q0_acts c_q0_refusals c_q0_knocks f_q0_forms p1 xc3 r3 c_q0_acts_3 f_q0_forms_3 hc3) (cwV 1 hts gL_slope_X7_slope rfl rfl rfl ydX7_slope ⟨Nat.le_of_ble_eq_true rfl, Nat.le_of_ble_eq_true rfl⟩) ⟨bl_PX, va_recv hK hP (ci := 6) (q0 := 0) rfl rfl, pr_PX hPc hK0 hDc hnw hE hS (va_free hD hS hA [0, 1] rfl)⟩ rfl rfl hl.1 rfl (lv_room (Nat.le_of_ble_eq_true rfl)) dL_slope_3 ⟨Nat.le_of_ble_eq_true rfl, Nat.le_of_ble_eq_true rfl⟩) hP hD hS hA [0, 1] [2] rfl rfl (by decide) (by decide) (fun E9 ce9 q9 H locs hx9 hE9 hP hD hS hce9 hcv9 hcl9 => ?_) (fun hx9 H locs hP hD hS => ?_)
  · have h := if_ hx9 h
    have hP : va_P D vwCl [(a_q2, .inr (7, [.long c_q2_n, c_q2_s])), (a_q0, .inr (6, [.ref a_q0_forms, .ref a_q0_roll, .ref a_q0_row, .ref a_q0_rows, .ref a_q0_factors, .ref a_q0_found, .ref a_q0_foundOtherwise, .int c_q0_acts_3, .int c_q0_refusals, .int c_q0_knocks])), (a_q0_forms, .inl (cyJ, 6, .inr (.inl f_q0_forms_3)))] H := hP
    have hD : va_D A [(a_q2, .inr (7, [.long c_q2_n, c_q2_s])), (a_q0, .inr (6, [.ref a_q0_forms, .ref a_q0_roll, .ref a_q0_row, .ref a_q0_rows, .ref a_q0_factors, .ref a_q0_found, .ref a_q0_foundOtherwise, .int c_q0_acts_3, .int c_q0_refusals, .int c_q0_knocks])), (a_q0_forms, .inl (cyJ, 6, .inr (.inl f_q0_forms_3)))] := hD
    by_cases cx0 : xc3 = 1
    · have h := it_ cx0 h
      have hE1 : E9 = "java/lang/IndexOutOfBoundsException" := by rw [hE9, cx0]; rfl
      subst hE1
      refine vx_catch (name := "java/lang/IndexOutOfBoundsException") hown (tableOf []) ⟨0, 10, 13, 19⟩ (tableOf []) hxt (fun z hz => absurd hz List.not_mem_nil) (by decide) (by decide) (hts (.classLink RL 19 "java/lang/IndexOutOfBoundsException") (by decide +kernel)) (va_Nw.use rfl (hE.2.1 (.castable "java/lang/IndexOutOfBoundsException" "java/lang/IndexOutOfBoundsException") (by decide +kernel))) hce9 hcv9 hcl9 ?_
      refine lv_astore_n (lv' := [(3, .ref q9), (0, .ref a_q0), (1, .int p1), (2, .ref a_q2)]) hx hb dL_slope_13 rfl hl (by decide) rfl (fun ls hl => ?_)
      refine lv_iconst (v := 1) hx hb dL_slope_14 (by decide) ?_
      obtain ⟨e0, e1, e2, e3⟩ := tup4 h
      subst e0
      subst e1
      subst e2
      subst e3
      have hP9 : va_P D vwCl [(a_q0, .inr (6, [.ref a_q0_forms, .ref a_q0_roll, .ref a_q0_row, .ref a_q0_rows, .ref a_q0_factors, .ref a_q0_found, .ref a_q0_foundOtherwise, .int c_q0_acts_3, .int c_q0_refusals, .int c_q0_knocks])), (a_q0_forms, .inl (cyJ, 6, .inr (.inl f_q0_forms_3))), (a_q2, .inr (7, [.long c_q2_n, c_q2_s]))] H := hP.sub [1, 2, 0] rfl
      have hD9 : va_D A [(a_q0, .inr (6, [.ref a_q0_forms, .ref a_q0_roll, .ref a_q0_row, .ref a_q0_rows, .ref a_q0_factors, .ref a_q0_found, .ref a_q0_foundOtherwise, .int c_q0_acts_3, .int c_q0_refusals, .int c_q0_knocks])), (a_q0_forms, .inl (cyJ, 6, .inr (.inl f_q0_forms_3))), (a_q2, .inr (7, [.long c_q2_n, c_q2_s]))] := hD.sub [1, 2, 0] (by decide) rfl
      refine vx_ret ?_
      exact W.iret hx hb hr (fun t ht hW => ⟨⟨_, (), rfl, rfl, wQA_of ht hP9 hD9⟩, hS.F ht⟩) hS.2.2 dL_slope_15
    have h := if_ cx0 h
    cases h
  · have h := it_ hx9 h
    have hP : va_P D vwCl [(a_q2, .inr (7, [.long c_q2_n, c_q2_s])), (a_q0, .inr (6, [.ref a_q0_forms, .ref a_q0_roll, .ref a_q0_row, .ref a_q0_rows, .ref a_q0_factors, .ref a_q0_found, .ref a_q0_foundOtherwise, .int c_q0_acts_3, .int c_q0_refusals, .int c_q0_knocks])), (a_q0_forms, .inl (cyJ, 6, .inr (.inl f_q0_forms_3)))] H := hP
    have hD : va_D A [(a_q2, .inr (7, [.long c_q2_n, c_q2_s])), (a_q0, .inr (6, [.ref a_q0_forms, .ref a_q0_roll, .ref a_q0_row, .ref a_q0_rows, .ref a_q0_factors, .ref a_q0_found, .ref a_q0_foundOtherwise, .int c_q0_acts_3, .int c_q0_refusals, .int c_q0_knocks])), (a_q0_forms, .inl (cyJ, 6, .inr (.inl f_q0_forms_3)))] := hD
    refine lv_i2l (v := r3.toInt64) hx hb dL_slope_6 rfl ?_
    refine lv_topl (fun c_q2_n_7 e_c_q2_n_7 => ?_)
    have h := bnd_h e_c_q2_n_7 h
    refine va_putN (D := D) (ci := 7) (v := .long c_q2_n_7) (ty := .long) (C := RX8) (T := TX8) (N := 2) hx hb hts hinX8 tyX8 tyX8_ok nmX8 hown hK hP hD hS 0 rfl rfl 0 (by decide) hfl13 (fun _ h9 => h9) rfl (by decide +kernel) rfl rfl (Nat.le_of_ble_eq_true rfl) dL_slope_7 (fun H locs hP hD hS => ?_)
    have hP : va_P D vwCl [(a_q2, .inr (7, [.long c_q2_n_7, c_q2_s])), (a_q0, .inr (6, [.ref a_q0_forms, .ref a_q0_roll, .ref a_q0_row, .ref a_q0_rows, .ref a_q0_factors, .ref a_q0_found, .ref a_q0_foundOtherwise, .int c_q0_acts_3, .int c_q0_refusals, .int c_q0_knocks])), (a_q0_forms, .inl (cyJ, 6, .inr (.inl f_q0_forms_3)))] H := hP
    have hD : va_D A [(a_q2, .inr (7, [.long c_q2_n_7, c_q2_s])), (a_q0, .inr (6, [.ref a_q0_forms, .ref a_q0_roll, .ref a_q0_row, .ref a_q0_rows, .ref a_q0_factors, .ref a_q0_found, .ref a_q0_foundOtherwise, .int c_q0_acts_3, .int c_q0_refusals, .int c_q0_knocks])), (a_q0_forms, .inl (cyJ, 6, .inr (.inl f_q0_forms_3)))] := hD
    refine lv_goto (tgt := 16) hx hb dL_slope_10 (by decide) ?_
    refine lv_iconst (v := 0) hx hb dL_slope_16 (by decide) ?_
    obtain ⟨e0, e1, e2, e3⟩ := tup4 h
    subst e0
    subst e1
    subst e2
    subst e3
    have hP9 : va_P D vwCl [(a_q0, .inr (6, [.ref a_q0_forms, .ref a_q0_roll, .ref a_q0_row, .ref a_q0_rows, .ref a_q0_factors, .ref a_q0_found, .ref a_q0_foundOtherwise, .int c_q0_acts_3, .int c_q0_refusals, .int c_q0_knocks])), (a_q0_forms, .inl (cyJ, 6, .inr (.inl f_q0_forms_3))), (a_q2, .inr (7, [.long c_q2_n_7, c_q2_s]))] H := hP.sub [1, 2, 0] rfl
    have hD9 : va_D A [(a_q0, .inr (6, [.ref a_q0_forms, .ref a_q0_roll, .ref a_q0_row, .ref a_q0_rows, .ref a_q0_factors, .ref a_q0_found, .ref a_q0_foundOtherwise, .int c_q0_acts_3, .int c_q0_refusals, .int c_q0_knocks])), (a_q0_forms, .inl (cyJ, 6, .inr (.inl f_q0_forms_3))), (a_q2, .inr (7, [.long c_q2_n_7, c_q2_s]))] := hD.sub [1, 2, 0] (by decide) rfl
    refine vx_ret ?_
    exact W.iret hx hb hr (fun t ht hW => ⟨⟨_, (), rfl, rfl, wQA_of ht hP9 hD9⟩, hS.F ht⟩) hS.2.2 dL_slope_17

noncomputable abbrev rmL_add : Room := { frames := 11, cells := 3, slots := 18, locals := 165 }
theorem ydL_add : yL_add.cls ≠ "java/lang/invoke/MethodHandle" ∧ yL_add.cls ≠ "java/lang/invoke/VarHandle" ∧ (parseMethodDescriptor yL_add.desc).map (fun d => d.parameters.length) = some 5 := by decide +kernel
noncomputable def F_L_add (c_q0_acts : Int32) (f_q0_forms : Nat → Int64) (c_q4_n : Int64) (p1 : Int32) (p2 : Int32) (p3 : Int32) : Option (Int32 × Int32 × (Nat → Int64) × Int64) :=
 obn4 (F_X7_add c_q0_acts f_q0_forms p1 p2 p3) (fun xc6 r6 c_q0_acts_6 f_q0_forms_6 =>
 if xc6 = 0 then
 bnd r6.toInt64 (fun c_q4_n_10 =>
 some ((0 : Int32), c_q0_acts_6, f_q0_forms_6, c_q4_n_10))
else
 (if xc6 = 1 then
 some ((1 : Int32), c_q0_acts_6, f_q0_forms_6, c_q4_n)
else
 none))
set_option maxHeartbeats 4000000 in
set_option maxRecDepth 100000 in
theorem c_L_add (l : Launch) (hfl : l.stackTraces = false) (D : va_G) (cyJ : ClassId) (sz : Nat) (a_q0 : Nat) (a_q4 : Nat) (a_q0_forms : Nat) (a_q0_roll : Nat) (a_q0_row : Nat) (a_q0_rows : Nat) (a_q0_factors : Nat) (a_q0_found : Nat) (a_q0_foundOtherwise : Nat) (c_q0_acts : Int32) (c_q0_refusals : Int32) (c_q0_knocks : Int32) (f_q0_forms : Nat → Int64) (c_q4_n : Int64) (c_q4_s : Value) (p1 : Int32) (p2 : Int32) (p3 : Int32) (r0 : Int32) (o_c_q0_acts : Int32) (o_f_q0_forms : Nat → Int64) (o_c_q4_n : Int64) (hF : F_L_add c_q0_acts f_q0_forms c_q4_n p1 p2 p3 = some (r0, o_c_q0_acts, o_f_q0_forms, o_c_q4_n)) : vx_Met l yL_add wsL_add rmL_add (va_Pc [.ref a_q0, .int p1, .int p2, .int p3, .ref a_q4] (wPL D [(cyJ, .long)] [(a_q0, .inr (6, [.ref a_q0_forms, .ref a_q0_roll, .ref a_q0_row, .ref a_q0_rows, .ref a_q0_factors, .ref a_q0_found, .ref a_q0_foundOtherwise, .int c_q0_acts, .int c_q0_refusals, .int c_q0_knocks])), (a_q0_forms, .inl (cyJ, 6, .inr (.inl f_q0_forms))), (a_q4, .inr (7, [.long c_q4_n, c_q4_s]))] sz)) (va_Qi (fun (r : Int32) (_ : Unit) => r = r0) (fun _ t => wQA D [(a_q0, .inr (6, [.ref a_q0_forms, .ref a_q0_roll, .ref a_q0_row, .ref a_q0_rows, .ref a_q0_factors, .ref a_q0_found, .ref a_q0_foundOtherwise, .int o_c_q0_acts, .int c_q0_refusals, .int c_q0_knocks])), (a_q0_forms, .inl (cyJ, 6, .inr (.inl o_f_q0_forms))), (a_q4, .inr (7, [.long o_c_q4_n, c_q4_s]))] (va_A [(a_q0, .inr (6, [.ref a_q0_forms, .ref a_q0_roll, .ref a_q0_row, .ref a_q0_rows, .ref a_q0_factors, .ref a_q0_found, .ref a_q0_foundOtherwise, .int c_q0_acts, .int c_q0_refusals, .int c_q0_knocks])), (a_q0_forms, .inl (cyJ, 6, .inr (.inl f_q0_forms))), (a_q4, .inr (7, [.long c_q4_n, c_q4_s]))] sz) t) (va_A [(a_q0, .inr (6, [.ref a_q0_forms, .ref a_q0_roll, .ref a_q0_row, .ref a_q0_rows, .ref a_q0_factors, .ref a_q0_found, .ref a_q0_foundOtherwise, .int c_q0_acts, .int c_q0_refusals, .int c_q0_knocks])), (a_q0_forms, .inl (cyJ, 6, .inr (.inl f_q0_forms))), (a_q4, .inr (7, [.long c_q4_n, c_q4_s]))] sz)) (fun _ _ _ => False) 3 18 (va_A [(a_q0, .inr (6, [.ref a_q0_forms, .ref a_q0_roll, .ref a_q0_row, .ref a_q0_rows, .ref a_q0_factors, .ref a_q0_found, .ref a_q0_foundOtherwise, .int c_q0_acts, .int c_q0_refusals, .int c_q0_knocks])), (a_q0_forms, .inl (cyJ, 6, .inr (.inl f_q0_forms))), (a_q4, .inr (7, [.long c_q4_n, c_q4_s]))] sz) := by
  refine vx_ofWH (cc := cL_add) (maxL := 6) (ret := (some .int)) (hh := [(0, 13, 16, 19)]) (by decide) rfl ?_
  intro p e s m args below meth c s₁ B hml hv
  obtain ⟨rfl, ⟨⟨hsz, hP, hK, hD0, hnw⟩, hE⟩, hNc⟩ := hv
  have hx := B.exec
  have hb := B.bytes
  have hr := B.returns
  have hts := atoms_spec (ws := wsL_add) B.pre
  have hown : s.vm.findClass RL = some m.cls := findClass_of_methodNamed B.named
  have hlocks := B.notSynchronized
  have hcf : CallFix _ _ _ _ _ _ _ _ _ := ⟨hx, hb, hml, hown, hts⟩
  have hxt : c.exceptionTable.toList = tableOf [(0, 13, 16, 19)] := vx_table (x := yL_add) B (hts _ List.mem_cons_self)
  have hinX8 : ∀ w ∈ u_ws RX8 TX8 2, w ∈ wsL_add := by decide +kernel
  have hfl13 := hnw.use (A := ([.ref a_q0, .int p1, .int p2, .int p3, .ref a_q4] : List Value).toArray) (w := .fieldLinkNest RL 13 "FormwheelLaw$Out" "n" "J" "FormwheelLaw") (by decide +kernel)
  subst hsz
  have hD := hD0.self (sz := s.heap.size)
  generalize hAe : va_A [(a_q0, .inr (6, [.ref a_q0_forms, .ref a_q0_roll, .ref a_q0_row, .ref a_q0_rows, .ref a_q0_factors, .ref a_q0_found, .ref a_q0_foundOtherwise, .int c_q0_acts, .int c_q0_refusals, .int c_q0_knocks])), (a_q0_forms, .inl (cyJ, 6, .inr (.inl f_q0_forms))), (a_q4, .inr (7, [.long c_q4_n, c_q4_s]))] s.heap.size = A at hD hE ⊢
  have hA : ∀ q : Nat, s.heap.size ≤ q → A q := fun q h => by rw [← hAe]; exact Or.inr h
  have hS : va_S A s.heap s.heap [] := va_S.rf
  have hP : va_P D vwCl [(a_q0, .inr (6, [.ref a_q0_forms, .ref a_q0_roll, .ref a_q0_row, .ref a_q0_rows, .ref a_q0_factors, .ref a_q0_found, .ref a_q0_foundOtherwise, .int c_q0_acts, .int c_q0_refusals, .int c_q0_knocks])), (a_q0_forms, .inl (cyJ, 6, .inr (.inl f_q0_forms))), (a_q4, .inr (7, [.long c_q4_n, c_q4_s]))] s.heap := hP
  have hK0 := hK
  have hl := lv_entry ([.ref a_q0, .int p1, .int p2, .int p3, .ref a_q4]) (n := 6) (Nat.le_of_ble_eq_true rfl)
  rw [lg_entry_eq]
  generalize (lg_sl ([.ref a_q0, .int p1, .int p2, .int p3, .ref a_q4]) ++ List.replicate (6 - (lg_sl ([.ref a_q0, .int p1, .int p2, .int p3, .ref a_q4])).length) Slot.unset).toArray = ls at hl ⊢
  have hl : lv_has ls 6 [(0, .ref a_q0), (1, .int p1), (2, .int p2), (3, .int p3), (4, .ref a_q4)] := hl
  have h := hF
  clear hF
  unfold F_L_add at h
  refine lv_aload hx hb dL_add_0 (lv_at hl 4 rfl) ?_
  refine lv_aload_n hx hb dL_add_2 rfl (lv_at hl 0 rfl) ?_
  refine lv_iload_n hx hb dL_add_3 rfl (lv_at hl 1 rfl) ?_
  refine lv_iload_n hx hb dL_add_4 rfl (lv_at hl 2 rfl) ?_
  refine lv_iload_n hx hb dL_add_5 rfl (lv_at hl 3 rfl) ?_
  obtain ⟨xc6, r6, c_q0_acts_6, f_q0_forms_6, hc6, h⟩ := obn4_h h
  have hPc := hP.sub (ws' := [(a_q0, .inr (6, [.ref a_q0_forms, .ref a_q0_roll, .ref a_q0_row, .ref a_q0_rows, .ref a_q0_factors, .ref a_q0_found, .ref a_q0_foundOtherwise, .int c_q0_acts, .int c_q0_refusals, .int c_q0_knocks])), (a_q0_forms, .inl (cyJ, 6, .inr (.inl f_q0_forms)))]) [0, 1] rfl
  have hDc := hD.sub (ws' := [(a_q0, .inr (6, [.ref a_q0_forms, .ref a_q0_roll, .ref a_q0_row, .ref a_q0_rows, .ref a_q0_factors, .ref a_q0_found, .ref a_q0_foundOtherwise, .int c_q0_acts, .int c_q0_refusals, .int c_q0_knocks])), (a_q0_forms, .inl (cyJ, 6, .inr (.inl f_q0_forms)))]) [0, 1] (by decide) rfl
  refine hx_i (w1 := [(a_q0, .inr (6, [.ref a_q0_forms, .ref a_q0_roll, .ref a_q0_row, .ref a_q0_rows, .ref a_q0_factors, .ref a_q0_found, .ref a_q0_foundOtherwise, .int c_q0_acts_6, .int c_q0_refusals, .int c_q0_knocks])), (a_q0_forms, .inl (cyJ, 6, .inr (.inl f_q0_forms_6)))]) (wr := [(a_q4, .inr (7, [.long c_q4_n, c_q4_s]))]) (vx_runV (As := [.int p1, .int p2, .int p3]) (rest := [.ref a_q4]) hcf (c_X7_add l hfl D cyJ s.heap.size a_q0 a_q0_forms a_q0_roll a_q0_row a_q0_rows a_q0_factors a_q0_found a_q0_foundOtherwise c_q0_acts c_q0_refusals c_q0_knocks f_q0_forms p1 p2 p3 xc6 r6 c_q0_acts_6 f_q0_forms_6 hc6) (cwV 3 hts gL_add_X7_add rfl rfl rfl ydX7_add ⟨Nat.le_of_ble_eq_true rfl, Nat.le_of_ble_eq_true rfl⟩) ⟨bl_PX, va_recv hK hP (ci := 6) (q0 := 0) rfl rfl, pr_PX hPc hK0 hDc hnw hE hS (va_free hD hS hA [0, 1] rfl)⟩ rfl rfl hl.1 rfl (lv_room (Nat.le_of_ble_eq_true rfl)) dL_add_6 ⟨Nat.le_of_ble_eq_true rfl, Nat.le_of_ble_eq_true rfl⟩) hP hD hS hA [0, 1] [2] rfl rfl (by decide) (by decide) (fun E9 ce9 q9 H locs hx9 hE9 hP hD hS hce9 hcv9 hcl9 => ?_) (fun hx9 H locs hP hD hS => ?_)
  · have h := if_ hx9 h
    have hP : va_P D vwCl [(a_q4, .inr (7, [.long c_q4_n, c_q4_s])), (a_q0, .inr (6, [.ref a_q0_forms, .ref a_q0_roll, .ref a_q0_row, .ref a_q0_rows, .ref a_q0_factors, .ref a_q0_found, .ref a_q0_foundOtherwise, .int c_q0_acts_6, .int c_q0_refusals, .int c_q0_knocks])), (a_q0_forms, .inl (cyJ, 6, .inr (.inl f_q0_forms_6)))] H := hP
    have hD : va_D A [(a_q4, .inr (7, [.long c_q4_n, c_q4_s])), (a_q0, .inr (6, [.ref a_q0_forms, .ref a_q0_roll, .ref a_q0_row, .ref a_q0_rows, .ref a_q0_factors, .ref a_q0_found, .ref a_q0_foundOtherwise, .int c_q0_acts_6, .int c_q0_refusals, .int c_q0_knocks])), (a_q0_forms, .inl (cyJ, 6, .inr (.inl f_q0_forms_6)))] := hD
    by_cases cx0 : xc6 = 1
    · have h := it_ cx0 h
      have hE1 : E9 = "java/lang/IndexOutOfBoundsException" := by rw [hE9, cx0]; rfl
      subst hE1
      refine vx_catch (name := "java/lang/IndexOutOfBoundsException") hown (tableOf []) ⟨0, 13, 16, 19⟩ (tableOf []) hxt (fun z hz => absurd hz List.not_mem_nil) (by decide) (by decide) (hts (.classLink RL 19 "java/lang/IndexOutOfBoundsException") (by decide +kernel)) (va_Nw.use rfl (hE.2.1 (.castable "java/lang/IndexOutOfBoundsException" "java/lang/IndexOutOfBoundsException") (by decide +kernel))) hce9 hcv9 hcl9 ?_
      refine lv_astore (lv' := [(5, .ref q9), (0, .ref a_q0), (1, .int p1), (2, .int p2), (3, .int p3), (4, .ref a_q4)]) hx hb dL_add_16 hl (by decide) rfl (fun ls hl => ?_)
      refine lv_iconst (v := 1) hx hb dL_add_18 (by decide) ?_
      obtain ⟨e0, e1, e2, e3⟩ := tup4 h
      subst e0
      subst e1
      subst e2
      subst e3
      have hP9 : va_P D vwCl [(a_q0, .inr (6, [.ref a_q0_forms, .ref a_q0_roll, .ref a_q0_row, .ref a_q0_rows, .ref a_q0_factors, .ref a_q0_found, .ref a_q0_foundOtherwise, .int c_q0_acts_6, .int c_q0_refusals, .int c_q0_knocks])), (a_q0_forms, .inl (cyJ, 6, .inr (.inl f_q0_forms_6))), (a_q4, .inr (7, [.long c_q4_n, c_q4_s]))] H := hP.sub [1, 2, 0] rfl
      have hD9 : va_D A [(a_q0, .inr (6, [.ref a_q0_forms, .ref a_q0_roll, .ref a_q0_row, .ref a_q0_rows, .ref a_q0_factors, .ref a_q0_found, .ref a_q0_foundOtherwise, .int c_q0_acts_6, .int c_q0_refusals, .int c_q0_knocks])), (a_q0_forms, .inl (cyJ, 6, .inr (.inl f_q0_forms_6))), (a_q4, .inr (7, [.long c_q4_n, c_q4_s]))] := hD.sub [1, 2, 0] (by decide) rfl
      refine vx_ret ?_
      exact W.iret hx hb hr (fun t ht hW => ⟨⟨_, (), rfl, rfl, wQA_of ht hP9 hD9⟩, hS.F ht⟩) hS.2.2 dL_add_19
    have h := if_ cx0 h
    cases h
  · have h := it_ hx9 h
    have hP : va_P D vwCl [(a_q4, .inr (7, [.long c_q4_n, c_q4_s])), (a_q0, .inr (6, [.ref a_q0_forms, .ref a_q0_roll, .ref a_q0_row, .ref a_q0_rows, .ref a_q0_factors, .ref a_q0_found, .ref a_q0_foundOtherwise, .int c_q0_acts_6, .int c_q0_refusals, .int c_q0_knocks])), (a_q0_forms, .inl (cyJ, 6, .inr (.inl f_q0_forms_6)))] H := hP
    have hD : va_D A [(a_q4, .inr (7, [.long c_q4_n, c_q4_s])), (a_q0, .inr (6, [.ref a_q0_forms, .ref a_q0_roll, .ref a_q0_row, .ref a_q0_rows, .ref a_q0_factors, .ref a_q0_found, .ref a_q0_foundOtherwise, .int c_q0_acts_6, .int c_q0_refusals, .int c_q0_knocks])), (a_q0_forms, .inl (cyJ, 6, .inr (.inl f_q0_forms_6)))] := hD
    refine lv_i2l (v := r6.toInt64) hx hb dL_add_9 rfl ?_
    refine lv_topl (fun c_q4_n_10 e_c_q4_n_10 => ?_)
    have h := bnd_h e_c_q4_n_10 h
    refine va_putN (D := D) (ci := 7) (v := .long c_q4_n_10) (ty := .long) (C := RX8) (T := TX8) (N := 2) hx hb hts hinX8 tyX8 tyX8_ok nmX8 hown hK hP hD hS 0 rfl rfl 0 (by decide) hfl13 (fun _ h9 => h9) rfl (by decide +kernel) rfl rfl (Nat.le_of_ble_eq_true rfl) dL_add_10 (fun H locs hP hD hS => ?_)
    have hP : va_P D vwCl [(a_q4, .inr (7, [.long c_q4_n_10, c_q4_s])), (a_q0, .inr (6, [.ref a_q0_forms, .ref a_q0_roll, .ref a_q0_row, .ref a_q0_rows, .ref a_q0_factors, .ref a_q0_found, .ref a_q0_foundOtherwise, .int c_q0_acts_6, .int c_q0_refusals, .int c_q0_knocks])), (a_q0_forms, .inl (cyJ, 6, .inr (.inl f_q0_forms_6)))] H := hP
    have hD : va_D A [(a_q4, .inr (7, [.long c_q4_n_10, c_q4_s])), (a_q0, .inr (6, [.ref a_q0_forms, .ref a_q0_roll, .ref a_q0_row, .ref a_q0_rows, .ref a_q0_factors, .ref a_q0_found, .ref a_q0_foundOtherwise, .int c_q0_acts_6, .int c_q0_refusals, .int c_q0_knocks])), (a_q0_forms, .inl (cyJ, 6, .inr (.inl f_q0_forms_6)))] := hD
    refine lv_goto (tgt := 20) hx hb dL_add_13 (by decide) ?_
    refine lv_iconst (v := 0) hx hb dL_add_20 (by decide) ?_
    obtain ⟨e0, e1, e2, e3⟩ := tup4 h
    subst e0
    subst e1
    subst e2
    subst e3
    have hP9 : va_P D vwCl [(a_q0, .inr (6, [.ref a_q0_forms, .ref a_q0_roll, .ref a_q0_row, .ref a_q0_rows, .ref a_q0_factors, .ref a_q0_found, .ref a_q0_foundOtherwise, .int c_q0_acts_6, .int c_q0_refusals, .int c_q0_knocks])), (a_q0_forms, .inl (cyJ, 6, .inr (.inl f_q0_forms_6))), (a_q4, .inr (7, [.long c_q4_n_10, c_q4_s]))] H := hP.sub [1, 2, 0] rfl
    have hD9 : va_D A [(a_q0, .inr (6, [.ref a_q0_forms, .ref a_q0_roll, .ref a_q0_row, .ref a_q0_rows, .ref a_q0_factors, .ref a_q0_found, .ref a_q0_foundOtherwise, .int c_q0_acts_6, .int c_q0_refusals, .int c_q0_knocks])), (a_q0_forms, .inl (cyJ, 6, .inr (.inl f_q0_forms_6))), (a_q4, .inr (7, [.long c_q4_n_10, c_q4_s]))] := hD.sub [1, 2, 0] (by decide) rfl
    refine vx_ret ?_
    exact W.iret hx hb hr (fun t ht hW => ⟨⟨_, (), rfl, rfl, wQA_of ht hP9 hD9⟩, hS.F ht⟩) hS.2.2 dL_add_21

noncomputable abbrev rmL_multiply : Room := { frames := 11, cells := 3, slots := 18, locals := 165 }
theorem ydL_multiply : yL_multiply.cls ≠ "java/lang/invoke/MethodHandle" ∧ yL_multiply.cls ≠ "java/lang/invoke/VarHandle" ∧ (parseMethodDescriptor yL_multiply.desc).map (fun d => d.parameters.length) = some 5 := by decide +kernel
noncomputable def F_L_multiply (c_q0_acts : Int32) (c_q0_refusals : Int32) (f_q0_forms : Nat → Int64) (c_q4_n : Int64) (p1 : Int32) (p2 : Int32) (p3 : Int32) : Option (Int32 × Int32 × Int32 × (Nat → Int64) × Int64) :=
 obn5 (F_X7_multiply c_q0_acts c_q0_refusals f_q0_forms p1 p2 p3) (fun xc6 r6 c_q0_acts_6 c_q0_refusals_6 f_q0_forms_6 =>
 if xc6 = 0 then
 bnd r6.toInt64 (fun c_q4_n_10 =>
 some ((0 : Int32), c_q0_acts_6, c_q0_refusals_6, f_q0_forms_6, c_q4_n_10))
else
 (if xc6 = 1 then
 some ((1 : Int32), c_q0_acts_6, c_q0_refusals_6, f_q0_forms_6, c_q4_n)
else
 none))
set_option maxHeartbeats 4000000 in
set_option maxRecDepth 100000 in
theorem c_L_multiply (l : Launch) (hfl : l.stackTraces = false) (D : va_G) (cyJ : ClassId) (sz : Nat) (a_q0 : Nat) (a_q4 : Nat) (a_q0_forms : Nat) (a_q0_roll : Nat) (a_q0_row : Nat) (a_q0_rows : Nat) (a_q0_factors : Nat) (a_q0_found : Nat) (a_q0_foundOtherwise : Nat) (c_q0_acts : Int32) (c_q0_refusals : Int32) (c_q0_knocks : Int32) (f_q0_forms : Nat → Int64) (c_q4_n : Int64) (c_q4_s : Value) (p1 : Int32) (p2 : Int32) (p3 : Int32) (r0 : Int32) (o_c_q0_acts : Int32) (o_c_q0_refusals : Int32) (o_f_q0_forms : Nat → Int64) (o_c_q4_n : Int64) (hF : F_L_multiply c_q0_acts c_q0_refusals f_q0_forms c_q4_n p1 p2 p3 = some (r0, o_c_q0_acts, o_c_q0_refusals, o_f_q0_forms, o_c_q4_n)) : vx_Met l yL_multiply wsL_multiply rmL_multiply (va_Pc [.ref a_q0, .int p1, .int p2, .int p3, .ref a_q4] (wPL D [(cyJ, .long)] [(a_q0, .inr (6, [.ref a_q0_forms, .ref a_q0_roll, .ref a_q0_row, .ref a_q0_rows, .ref a_q0_factors, .ref a_q0_found, .ref a_q0_foundOtherwise, .int c_q0_acts, .int c_q0_refusals, .int c_q0_knocks])), (a_q0_forms, .inl (cyJ, 6, .inr (.inl f_q0_forms))), (a_q4, .inr (7, [.long c_q4_n, c_q4_s]))] sz)) (va_Qi (fun (r : Int32) (_ : Unit) => r = r0) (fun _ t => wQA D [(a_q0, .inr (6, [.ref a_q0_forms, .ref a_q0_roll, .ref a_q0_row, .ref a_q0_rows, .ref a_q0_factors, .ref a_q0_found, .ref a_q0_foundOtherwise, .int o_c_q0_acts, .int o_c_q0_refusals, .int c_q0_knocks])), (a_q0_forms, .inl (cyJ, 6, .inr (.inl o_f_q0_forms))), (a_q4, .inr (7, [.long o_c_q4_n, c_q4_s]))] (va_A [(a_q0, .inr (6, [.ref a_q0_forms, .ref a_q0_roll, .ref a_q0_row, .ref a_q0_rows, .ref a_q0_factors, .ref a_q0_found, .ref a_q0_foundOtherwise, .int c_q0_acts, .int c_q0_refusals, .int c_q0_knocks])), (a_q0_forms, .inl (cyJ, 6, .inr (.inl f_q0_forms))), (a_q4, .inr (7, [.long c_q4_n, c_q4_s]))] sz) t) (va_A [(a_q0, .inr (6, [.ref a_q0_forms, .ref a_q0_roll, .ref a_q0_row, .ref a_q0_rows, .ref a_q0_factors, .ref a_q0_found, .ref a_q0_foundOtherwise, .int c_q0_acts, .int c_q0_refusals, .int c_q0_knocks])), (a_q0_forms, .inl (cyJ, 6, .inr (.inl f_q0_forms))), (a_q4, .inr (7, [.long c_q4_n, c_q4_s]))] sz)) (fun _ _ _ => False) 3 18 (va_A [(a_q0, .inr (6, [.ref a_q0_forms, .ref a_q0_roll, .ref a_q0_row, .ref a_q0_rows, .ref a_q0_factors, .ref a_q0_found, .ref a_q0_foundOtherwise, .int c_q0_acts, .int c_q0_refusals, .int c_q0_knocks])), (a_q0_forms, .inl (cyJ, 6, .inr (.inl f_q0_forms))), (a_q4, .inr (7, [.long c_q4_n, c_q4_s]))] sz) := by
  refine vx_ofWH (cc := cL_multiply) (maxL := 6) (ret := (some .int)) (hh := [(0, 13, 16, 19)]) (by decide) rfl ?_
  intro p e s m args below meth c s₁ B hml hv
  obtain ⟨rfl, ⟨⟨hsz, hP, hK, hD0, hnw⟩, hE⟩, hNc⟩ := hv
  have hx := B.exec
  have hb := B.bytes
  have hr := B.returns
  have hts := atoms_spec (ws := wsL_multiply) B.pre
  have hown : s.vm.findClass RL = some m.cls := findClass_of_methodNamed B.named
  have hlocks := B.notSynchronized
  have hcf : CallFix _ _ _ _ _ _ _ _ _ := ⟨hx, hb, hml, hown, hts⟩
  have hxt : c.exceptionTable.toList = tableOf [(0, 13, 16, 19)] := vx_table (x := yL_multiply) B (hts _ List.mem_cons_self)
  have hinX8 : ∀ w ∈ u_ws RX8 TX8 2, w ∈ wsL_multiply := by decide +kernel
  have hfl13 := hnw.use (A := ([.ref a_q0, .int p1, .int p2, .int p3, .ref a_q4] : List Value).toArray) (w := .fieldLinkNest RL 13 "FormwheelLaw$Out" "n" "J" "FormwheelLaw") (by decide +kernel)
  subst hsz
  have hD := hD0.self (sz := s.heap.size)
  generalize hAe : va_A [(a_q0, .inr (6, [.ref a_q0_forms, .ref a_q0_roll, .ref a_q0_row, .ref a_q0_rows, .ref a_q0_factors, .ref a_q0_found, .ref a_q0_foundOtherwise, .int c_q0_acts, .int c_q0_refusals, .int c_q0_knocks])), (a_q0_forms, .inl (cyJ, 6, .inr (.inl f_q0_forms))), (a_q4, .inr (7, [.long c_q4_n, c_q4_s]))] s.heap.size = A at hD hE ⊢
  have hA : ∀ q : Nat, s.heap.size ≤ q → A q := fun q h => by rw [← hAe]; exact Or.inr h
  have hS : va_S A s.heap s.heap [] := va_S.rf
  have hP : va_P D vwCl [(a_q0, .inr (6, [.ref a_q0_forms, .ref a_q0_roll, .ref a_q0_row, .ref a_q0_rows, .ref a_q0_factors, .ref a_q0_found, .ref a_q0_foundOtherwise, .int c_q0_acts, .int c_q0_refusals, .int c_q0_knocks])), (a_q0_forms, .inl (cyJ, 6, .inr (.inl f_q0_forms))), (a_q4, .inr (7, [.long c_q4_n, c_q4_s]))] s.heap := hP
  have hK0 := hK
  have hl := lv_entry ([.ref a_q0, .int p1, .int p2, .int p3, .ref a_q4]) (n := 6) (Nat.le_of_ble_eq_true rfl)
  rw [lg_entry_eq]
  generalize (lg_sl ([.ref a_q0, .int p1, .int p2, .int p3, .ref a_q4]) ++ List.replicate (6 - (lg_sl ([.ref a_q0, .int p1, .int p2, .int p3, .ref a_q4])).length) Slot.unset).toArray = ls at hl ⊢
  have hl : lv_has ls 6 [(0, .ref a_q0), (1, .int p1), (2, .int p2), (3, .int p3), (4, .ref a_q4)] := hl
  have h := hF
  clear hF
  unfold F_L_multiply at h
  refine lv_aload hx hb dL_multiply_0 (lv_at hl 4 rfl) ?_
  refine lv_aload_n hx hb dL_multiply_2 rfl (lv_at hl 0 rfl) ?_
  refine lv_iload_n hx hb dL_multiply_3 rfl (lv_at hl 1 rfl) ?_
  refine lv_iload_n hx hb dL_multiply_4 rfl (lv_at hl 2 rfl) ?_
  refine lv_iload_n hx hb dL_multiply_5 rfl (lv_at hl 3 rfl) ?_
  obtain ⟨xc6, r6, c_q0_acts_6, c_q0_refusals_6, f_q0_forms_6, hc6, h⟩ := obn5_h h
  have hPc := hP.sub (ws' := [(a_q0, .inr (6, [.ref a_q0_forms, .ref a_q0_roll, .ref a_q0_row, .ref a_q0_rows, .ref a_q0_factors, .ref a_q0_found, .ref a_q0_foundOtherwise, .int c_q0_acts, .int c_q0_refusals, .int c_q0_knocks])), (a_q0_forms, .inl (cyJ, 6, .inr (.inl f_q0_forms)))]) [0, 1] rfl
  have hDc := hD.sub (ws' := [(a_q0, .inr (6, [.ref a_q0_forms, .ref a_q0_roll, .ref a_q0_row, .ref a_q0_rows, .ref a_q0_factors, .ref a_q0_found, .ref a_q0_foundOtherwise, .int c_q0_acts, .int c_q0_refusals, .int c_q0_knocks])), (a_q0_forms, .inl (cyJ, 6, .inr (.inl f_q0_forms)))]) [0, 1] (by decide) rfl
  refine hx_i (w1 := [(a_q0, .inr (6, [.ref a_q0_forms, .ref a_q0_roll, .ref a_q0_row, .ref a_q0_rows, .ref a_q0_factors, .ref a_q0_found, .ref a_q0_foundOtherwise, .int c_q0_acts_6, .int c_q0_refusals_6, .int c_q0_knocks])), (a_q0_forms, .inl (cyJ, 6, .inr (.inl f_q0_forms_6)))]) (wr := [(a_q4, .inr (7, [.long c_q4_n, c_q4_s]))]) (vx_runV (As := [.int p1, .int p2, .int p3]) (rest := [.ref a_q4]) hcf (c_X7_multiply l hfl D cyJ s.heap.size a_q0 a_q0_forms a_q0_roll a_q0_row a_q0_rows a_q0_factors a_q0_found a_q0_foundOtherwise c_q0_acts c_q0_refusals c_q0_knocks f_q0_forms p1 p2 p3 xc6 r6 c_q0_acts_6 c_q0_refusals_6 f_q0_forms_6 hc6) (cwV 3 hts gL_multiply_X7_multiply rfl rfl rfl ydX7_multiply ⟨Nat.le_of_ble_eq_true rfl, Nat.le_of_ble_eq_true rfl⟩) ⟨bl_PX, va_recv hK hP (ci := 6) (q0 := 0) rfl rfl, pr_PX hPc hK0 hDc hnw hE hS (va_free hD hS hA [0, 1] rfl)⟩ rfl rfl hl.1 rfl (lv_room (Nat.le_of_ble_eq_true rfl)) dL_multiply_6 ⟨Nat.le_of_ble_eq_true rfl, Nat.le_of_ble_eq_true rfl⟩) hP hD hS hA [0, 1] [2] rfl rfl (by decide) (by decide) (fun E9 ce9 q9 H locs hx9 hE9 hP hD hS hce9 hcv9 hcl9 => ?_) (fun hx9 H locs hP hD hS => ?_)
  · have h := if_ hx9 h
    have hP : va_P D vwCl [(a_q4, .inr (7, [.long c_q4_n, c_q4_s])), (a_q0, .inr (6, [.ref a_q0_forms, .ref a_q0_roll, .ref a_q0_row, .ref a_q0_rows, .ref a_q0_factors, .ref a_q0_found, .ref a_q0_foundOtherwise, .int c_q0_acts_6, .int c_q0_refusals_6, .int c_q0_knocks])), (a_q0_forms, .inl (cyJ, 6, .inr (.inl f_q0_forms_6)))] H := hP
    have hD : va_D A [(a_q4, .inr (7, [.long c_q4_n, c_q4_s])), (a_q0, .inr (6, [.ref a_q0_forms, .ref a_q0_roll, .ref a_q0_row, .ref a_q0_rows, .ref a_q0_factors, .ref a_q0_found, .ref a_q0_foundOtherwise, .int c_q0_acts_6, .int c_q0_refusals_6, .int c_q0_knocks])), (a_q0_forms, .inl (cyJ, 6, .inr (.inl f_q0_forms_6)))] := hD
    by_cases cx0 : xc6 = 1
    · have h := it_ cx0 h
      have hE1 : E9 = "java/lang/IndexOutOfBoundsException" := by rw [hE9, cx0]; rfl
      subst hE1
      refine vx_catch (name := "java/lang/IndexOutOfBoundsException") hown (tableOf []) ⟨0, 13, 16, 19⟩ (tableOf []) hxt (fun z hz => absurd hz List.not_mem_nil) (by decide) (by decide) (hts (.classLink RL 19 "java/lang/IndexOutOfBoundsException") (by decide +kernel)) (va_Nw.use rfl (hE.2.1 (.castable "java/lang/IndexOutOfBoundsException" "java/lang/IndexOutOfBoundsException") (by decide +kernel))) hce9 hcv9 hcl9 ?_
      refine lv_astore (lv' := [(5, .ref q9), (0, .ref a_q0), (1, .int p1), (2, .int p2), (3, .int p3), (4, .ref a_q4)]) hx hb dL_multiply_16 hl (by decide) rfl (fun ls hl => ?_)
      refine lv_iconst (v := 1) hx hb dL_multiply_18 (by decide) ?_
      obtain ⟨e0, e1, e2, e3, e4⟩ := tup5 h
      subst e0
      subst e1
      subst e2
      subst e3
      subst e4
      have hP9 : va_P D vwCl [(a_q0, .inr (6, [.ref a_q0_forms, .ref a_q0_roll, .ref a_q0_row, .ref a_q0_rows, .ref a_q0_factors, .ref a_q0_found, .ref a_q0_foundOtherwise, .int c_q0_acts_6, .int c_q0_refusals_6, .int c_q0_knocks])), (a_q0_forms, .inl (cyJ, 6, .inr (.inl f_q0_forms_6))), (a_q4, .inr (7, [.long c_q4_n, c_q4_s]))] H := hP.sub [1, 2, 0] rfl
      have hD9 : va_D A [(a_q0, .inr (6, [.ref a_q0_forms, .ref a_q0_roll, .ref a_q0_row, .ref a_q0_rows, .ref a_q0_factors, .ref a_q0_found, .ref a_q0_foundOtherwise, .int c_q0_acts_6, .int c_q0_refusals_6, .int c_q0_knocks])), (a_q0_forms, .inl (cyJ, 6, .inr (.inl f_q0_forms_6))), (a_q4, .inr (7, [.long c_q4_n, c_q4_s]))] := hD.sub [1, 2, 0] (by decide) rfl
      refine vx_ret ?_
      exact W.iret hx hb hr (fun t ht hW => ⟨⟨_, (), rfl, rfl, wQA_of ht hP9 hD9⟩, hS.F ht⟩) hS.2.2 dL_multiply_19
    have h := if_ cx0 h
    cases h
  · have h := it_ hx9 h
    have hP : va_P D vwCl [(a_q4, .inr (7, [.long c_q4_n, c_q4_s])), (a_q0, .inr (6, [.ref a_q0_forms, .ref a_q0_roll, .ref a_q0_row, .ref a_q0_rows, .ref a_q0_factors, .ref a_q0_found, .ref a_q0_foundOtherwise, .int c_q0_acts_6, .int c_q0_refusals_6, .int c_q0_knocks])), (a_q0_forms, .inl (cyJ, 6, .inr (.inl f_q0_forms_6)))] H := hP
    have hD : va_D A [(a_q4, .inr (7, [.long c_q4_n, c_q4_s])), (a_q0, .inr (6, [.ref a_q0_forms, .ref a_q0_roll, .ref a_q0_row, .ref a_q0_rows, .ref a_q0_factors, .ref a_q0_found, .ref a_q0_foundOtherwise, .int c_q0_acts_6, .int c_q0_refusals_6, .int c_q0_knocks])), (a_q0_forms, .inl (cyJ, 6, .inr (.inl f_q0_forms_6)))] := hD
    refine lv_i2l (v := r6.toInt64) hx hb dL_multiply_9 rfl ?_
    refine lv_topl (fun c_q4_n_10 e_c_q4_n_10 => ?_)
    have h := bnd_h e_c_q4_n_10 h
    refine va_putN (D := D) (ci := 7) (v := .long c_q4_n_10) (ty := .long) (C := RX8) (T := TX8) (N := 2) hx hb hts hinX8 tyX8 tyX8_ok nmX8 hown hK hP hD hS 0 rfl rfl 0 (by decide) hfl13 (fun _ h9 => h9) rfl (by decide +kernel) rfl rfl (Nat.le_of_ble_eq_true rfl) dL_multiply_10 (fun H locs hP hD hS => ?_)
    have hP : va_P D vwCl [(a_q4, .inr (7, [.long c_q4_n_10, c_q4_s])), (a_q0, .inr (6, [.ref a_q0_forms, .ref a_q0_roll, .ref a_q0_row, .ref a_q0_rows, .ref a_q0_factors, .ref a_q0_found, .ref a_q0_foundOtherwise, .int c_q0_acts_6, .int c_q0_refusals_6, .int c_q0_knocks])), (a_q0_forms, .inl (cyJ, 6, .inr (.inl f_q0_forms_6)))] H := hP
    have hD : va_D A [(a_q4, .inr (7, [.long c_q4_n_10, c_q4_s])), (a_q0, .inr (6, [.ref a_q0_forms, .ref a_q0_roll, .ref a_q0_row, .ref a_q0_rows, .ref a_q0_factors, .ref a_q0_found, .ref a_q0_foundOtherwise, .int c_q0_acts_6, .int c_q0_refusals_6, .int c_q0_knocks])), (a_q0_forms, .inl (cyJ, 6, .inr (.inl f_q0_forms_6)))] := hD
    refine lv_goto (tgt := 20) hx hb dL_multiply_13 (by decide) ?_
    refine lv_iconst (v := 0) hx hb dL_multiply_20 (by decide) ?_
    obtain ⟨e0, e1, e2, e3, e4⟩ := tup5 h
    subst e0
    subst e1
    subst e2
    subst e3
    subst e4
    have hP9 : va_P D vwCl [(a_q0, .inr (6, [.ref a_q0_forms, .ref a_q0_roll, .ref a_q0_row, .ref a_q0_rows, .ref a_q0_factors, .ref a_q0_found, .ref a_q0_foundOtherwise, .int c_q0_acts_6, .int c_q0_refusals_6, .int c_q0_knocks])), (a_q0_forms, .inl (cyJ, 6, .inr (.inl f_q0_forms_6))), (a_q4, .inr (7, [.long c_q4_n_10, c_q4_s]))] H := hP.sub [1, 2, 0] rfl
    have hD9 : va_D A [(a_q0, .inr (6, [.ref a_q0_forms, .ref a_q0_roll, .ref a_q0_row, .ref a_q0_rows, .ref a_q0_factors, .ref a_q0_found, .ref a_q0_foundOtherwise, .int c_q0_acts_6, .int c_q0_refusals_6, .int c_q0_knocks])), (a_q0_forms, .inl (cyJ, 6, .inr (.inl f_q0_forms_6))), (a_q4, .inr (7, [.long c_q4_n_10, c_q4_s]))] := hD.sub [1, 2, 0] (by decide) rfl
    refine vx_ret ?_
    exact W.iret hx hb hr (fun t ht hW => ⟨⟨_, (), rfl, rfl, wQA_of ht hP9 hD9⟩, hS.F ht⟩) hS.2.2 dL_multiply_21

noncomputable abbrev rmL_square : Room := { frames := 10, cells := 2, slots := 12, locals := 142 }
theorem ydL_square : yL_square.cls ≠ "java/lang/invoke/MethodHandle" ∧ yL_square.cls ≠ "java/lang/invoke/VarHandle" ∧ (parseMethodDescriptor yL_square.desc).map (fun d => d.parameters.length) = some 4 := by decide +kernel
noncomputable def F_L_square (c_q0_acts : Int32) (c_q0_refusals : Int32) (f_q0_forms : Nat → Int64) (c_q3_n : Int64) (p1 : Int32) (p2 : Int32) : Option (Int32 × Int32 × Int32 × (Nat → Int64) × Int64) :=
 obn5 (F_X7_square c_q0_acts c_q0_refusals f_q0_forms p1 p2) (fun xc4 r4 c_q0_acts_4 c_q0_refusals_4 f_q0_forms_4 =>
 if xc4 = 0 then
 bnd r4.toInt64 (fun c_q3_n_8 =>
 some ((0 : Int32), c_q0_acts_4, c_q0_refusals_4, f_q0_forms_4, c_q3_n_8))
else
 (if xc4 = 1 then
 some ((1 : Int32), c_q0_acts_4, c_q0_refusals_4, f_q0_forms_4, c_q3_n)
else
 none))
set_option maxHeartbeats 4000000 in
set_option maxRecDepth 100000 in
theorem c_L_square (l : Launch) (hfl : l.stackTraces = false) (D : va_G) (cyJ : ClassId) (sz : Nat) (a_q0 : Nat) (a_q3 : Nat) (a_q0_forms : Nat) (a_q0_roll : Nat) (a_q0_row : Nat) (a_q0_rows : Nat) (a_q0_factors : Nat) (a_q0_found : Nat) (a_q0_foundOtherwise : Nat) (c_q0_acts : Int32) (c_q0_refusals : Int32) (c_q0_knocks : Int32) (f_q0_forms : Nat → Int64) (c_q3_n : Int64) (c_q3_s : Value) (p1 : Int32) (p2 : Int32) (r0 : Int32) (o_c_q0_acts : Int32) (o_c_q0_refusals : Int32) (o_f_q0_forms : Nat → Int64) (o_c_q3_n : Int64) (hF : F_L_square c_q0_acts c_q0_refusals f_q0_forms c_q3_n p1 p2 = some (r0, o_c_q0_acts, o_c_q0_refusals, o_f_q0_forms, o_c_q3_n)) : vx_Met l yL_square wsL_square rmL_square (va_Pc [.ref a_q0, .int p1, .int p2, .ref a_q3] (wPL D [(cyJ, .long)] [(a_q0, .inr (6, [.ref a_q0_forms, .ref a_q0_roll, .ref a_q0_row, .ref a_q0_rows, .ref a_q0_factors, .ref a_q0_found, .ref a_q0_foundOtherwise, .int c_q0_acts, .int c_q0_refusals, .int c_q0_knocks])), (a_q0_forms, .inl (cyJ, 6, .inr (.inl f_q0_forms))), (a_q3, .inr (7, [.long c_q3_n, c_q3_s]))] sz)) (va_Qi (fun (r : Int32) (_ : Unit) => r = r0) (fun _ t => wQA D [(a_q0, .inr (6, [.ref a_q0_forms, .ref a_q0_roll, .ref a_q0_row, .ref a_q0_rows, .ref a_q0_factors, .ref a_q0_found, .ref a_q0_foundOtherwise, .int o_c_q0_acts, .int o_c_q0_refusals, .int c_q0_knocks])), (a_q0_forms, .inl (cyJ, 6, .inr (.inl o_f_q0_forms))), (a_q3, .inr (7, [.long o_c_q3_n, c_q3_s]))] (va_A [(a_q0, .inr (6, [.ref a_q0_forms, .ref a_q0_roll, .ref a_q0_row, .ref a_q0_rows, .ref a_q0_factors, .ref a_q0_found, .ref a_q0_foundOtherwise, .int c_q0_acts, .int c_q0_refusals, .int c_q0_knocks])), (a_q0_forms, .inl (cyJ, 6, .inr (.inl f_q0_forms))), (a_q3, .inr (7, [.long c_q3_n, c_q3_s]))] sz) t) (va_A [(a_q0, .inr (6, [.ref a_q0_forms, .ref a_q0_roll, .ref a_q0_row, .ref a_q0_rows, .ref a_q0_factors, .ref a_q0_found, .ref a_q0_foundOtherwise, .int c_q0_acts, .int c_q0_refusals, .int c_q0_knocks])), (a_q0_forms, .inl (cyJ, 6, .inr (.inl f_q0_forms))), (a_q3, .inr (7, [.long c_q3_n, c_q3_s]))] sz)) (fun _ _ _ => False) 2 12 (va_A [(a_q0, .inr (6, [.ref a_q0_forms, .ref a_q0_roll, .ref a_q0_row, .ref a_q0_rows, .ref a_q0_factors, .ref a_q0_found, .ref a_q0_foundOtherwise, .int c_q0_acts, .int c_q0_refusals, .int c_q0_knocks])), (a_q0_forms, .inl (cyJ, 6, .inr (.inl f_q0_forms))), (a_q3, .inr (7, [.long c_q3_n, c_q3_s]))] sz) := by
  refine vx_ofWH (cc := cL_square) (maxL := 5) (ret := (some .int)) (hh := [(0, 11, 14, 19)]) (by decide) rfl ?_
  intro p e s m args below meth c s₁ B hml hv
  obtain ⟨rfl, ⟨⟨hsz, hP, hK, hD0, hnw⟩, hE⟩, hNc⟩ := hv
  have hx := B.exec
  have hb := B.bytes
  have hr := B.returns
  have hts := atoms_spec (ws := wsL_square) B.pre
  have hown : s.vm.findClass RL = some m.cls := findClass_of_methodNamed B.named
  have hlocks := B.notSynchronized
  have hcf : CallFix _ _ _ _ _ _ _ _ _ := ⟨hx, hb, hml, hown, hts⟩
  have hxt : c.exceptionTable.toList = tableOf [(0, 11, 14, 19)] := vx_table (x := yL_square) B (hts _ List.mem_cons_self)
  have hinX8 : ∀ w ∈ u_ws RX8 TX8 2, w ∈ wsL_square := by decide +kernel
  have hfl13 := hnw.use (A := ([.ref a_q0, .int p1, .int p2, .ref a_q3] : List Value).toArray) (w := .fieldLinkNest RL 13 "FormwheelLaw$Out" "n" "J" "FormwheelLaw") (by decide +kernel)
  subst hsz
  have hD := hD0.self (sz := s.heap.size)
  generalize hAe : va_A [(a_q0, .inr (6, [.ref a_q0_forms, .ref a_q0_roll, .ref a_q0_row, .ref a_q0_rows, .ref a_q0_factors, .ref a_q0_found, .ref a_q0_foundOtherwise, .int c_q0_acts, .int c_q0_refusals, .int c_q0_knocks])), (a_q0_forms, .inl (cyJ, 6, .inr (.inl f_q0_forms))), (a_q3, .inr (7, [.long c_q3_n, c_q3_s]))] s.heap.size = A at hD hE ⊢
  have hA : ∀ q : Nat, s.heap.size ≤ q → A q := fun q h => by rw [← hAe]; exact Or.inr h
  have hS : va_S A s.heap s.heap [] := va_S.rf
  have hP : va_P D vwCl [(a_q0, .inr (6, [.ref a_q0_forms, .ref a_q0_roll, .ref a_q0_row, .ref a_q0_rows, .ref a_q0_factors, .ref a_q0_found, .ref a_q0_foundOtherwise, .int c_q0_acts, .int c_q0_refusals, .int c_q0_knocks])), (a_q0_forms, .inl (cyJ, 6, .inr (.inl f_q0_forms))), (a_q3, .inr (7, [.long c_q3_n, c_q3_s]))] s.heap := hP
  have hK0 := hK
  have hl := lv_entry ([.ref a_q0, .int p1, .int p2, .ref a_q3]) (n := 5) (Nat.le_of_ble_eq_true rfl)
  rw [lg_entry_eq]
  generalize (lg_sl ([.ref a_q0, .int p1, .int p2, .ref a_q3]) ++ List.replicate (5 - (lg_sl ([.ref a_q0, .int p1, .int p2, .ref a_q3])).length) Slot.unset).toArray = ls at hl ⊢
  have hl : lv_has ls 5 [(0, .ref a_q0), (1, .int p1), (2, .int p2), (3, .ref a_q3)] := hl
  have h := hF
  clear hF
  unfold F_L_square at h
  refine lv_aload_n hx hb dL_square_0 rfl (lv_at hl 3 rfl) ?_
  refine lv_aload_n hx hb dL_square_1 rfl (lv_at hl 0 rfl) ?_
  refine lv_iload_n hx hb dL_square_2 rfl (lv_at hl 1 rfl) ?_
  refine lv_iload_n hx hb dL_square_3 rfl (lv_at hl 2 rfl) ?_
  obtain ⟨xc4, r4, c_q0_acts_4, c_q0_refusals_4, f_q0_forms_4, hc4, h⟩ := obn5_h h
  have hPc := hP.sub (ws' := [(a_q0, .inr (6, [.ref a_q0_forms, .ref a_q0_roll, .ref a_q0_row, .ref a_q0_rows, .ref a_q0_factors, .ref a_q0_found, .ref a_q0_foundOtherwise, .int c_q0_acts, .int c_q0_refusals, .int c_q0_knocks])), (a_q0_forms, .inl (cyJ, 6, .inr (.inl f_q0_forms)))]) [0, 1] rfl
  have hDc := hD.sub (ws' := [(a_q0, .inr (6, [.ref a_q0_forms, .ref a_q0_roll, .ref a_q0_row, .ref a_q0_rows, .ref a_q0_factors, .ref a_q0_found, .ref a_q0_foundOtherwise, .int c_q0_acts, .int c_q0_refusals, .int c_q0_knocks])), (a_q0_forms, .inl (cyJ, 6, .inr (.inl f_q0_forms)))]) [0, 1] (by decide) rfl
  refine hx_i (w1 := [(a_q0, .inr (6, [.ref a_q0_forms, .ref a_q0_roll, .ref a_q0_row, .ref a_q0_rows, .ref a_q0_factors, .ref a_q0_found, .ref a_q0_foundOtherwise, .int c_q0_acts_4, .int c_q0_refusals_4, .int c_q0_knocks])), (a_q0_forms, .inl (cyJ, 6, .inr (.inl f_q0_forms_4)))]) (wr := [(a_q3, .inr (7, [.long c_q3_n, c_q3_s]))]) (vx_runV (As := [.int p1, .int p2]) (rest := [.ref a_q3]) hcf (c_X7_square l hfl D cyJ s.heap.size a_q0 a_q0_forms a_q0_roll a_q0_row a_q0_rows a_q0_factors a_q0_found a_q0_foundOtherwise c_q0_acts c_q0_refusals c_q0_knocks f_q0_forms p1 p2 xc4 r4 c_q0_acts_4 c_q0_refusals_4 f_q0_forms_4 hc4) (cwV 2 hts gL_square_X7_square rfl rfl rfl ydX7_square ⟨Nat.le_of_ble_eq_true rfl, Nat.le_of_ble_eq_true rfl⟩) ⟨bl_PX, va_recv hK hP (ci := 6) (q0 := 0) rfl rfl, pr_PX hPc hK0 hDc hnw hE hS (va_free hD hS hA [0, 1] rfl)⟩ rfl rfl hl.1 rfl (lv_room (Nat.le_of_ble_eq_true rfl)) dL_square_4 ⟨Nat.le_of_ble_eq_true rfl, Nat.le_of_ble_eq_true rfl⟩) hP hD hS hA [0, 1] [2] rfl rfl (by decide) (by decide) (fun E9 ce9 q9 H locs hx9 hE9 hP hD hS hce9 hcv9 hcl9 => ?_) (fun hx9 H locs hP hD hS => ?_)
  · have h := if_ hx9 h
    have hP : va_P D vwCl [(a_q3, .inr (7, [.long c_q3_n, c_q3_s])), (a_q0, .inr (6, [.ref a_q0_forms, .ref a_q0_roll, .ref a_q0_row, .ref a_q0_rows, .ref a_q0_factors, .ref a_q0_found, .ref a_q0_foundOtherwise, .int c_q0_acts_4, .int c_q0_refusals_4, .int c_q0_knocks])), (a_q0_forms, .inl (cyJ, 6, .inr (.inl f_q0_forms_4)))] H := hP
    have hD : va_D A [(a_q3, .inr (7, [.long c_q3_n, c_q3_s])), (a_q0, .inr (6, [.ref a_q0_forms, .ref a_q0_roll, .ref a_q0_row, .ref a_q0_rows, .ref a_q0_factors, .ref a_q0_found, .ref a_q0_foundOtherwise, .int c_q0_acts_4, .int c_q0_refusals_4, .int c_q0_knocks])), (a_q0_forms, .inl (cyJ, 6, .inr (.inl f_q0_forms_4)))] := hD
    by_cases cx0 : xc4 = 1
    · have h := it_ cx0 h
      have hE1 : E9 = "java/lang/IndexOutOfBoundsException" := by rw [hE9, cx0]; rfl
      subst hE1
      refine vx_catch (name := "java/lang/IndexOutOfBoundsException") hown (tableOf []) ⟨0, 11, 14, 19⟩ (tableOf []) hxt (fun z hz => absurd hz List.not_mem_nil) (by decide) (by decide) (hts (.classLink RL 19 "java/lang/IndexOutOfBoundsException") (by decide +kernel)) (va_Nw.use rfl (hE.2.1 (.castable "java/lang/IndexOutOfBoundsException" "java/lang/IndexOutOfBoundsException") (by decide +kernel))) hce9 hcv9 hcl9 ?_
      refine lv_astore (lv' := [(4, .ref q9), (0, .ref a_q0), (1, .int p1), (2, .int p2), (3, .ref a_q3)]) hx hb dL_square_14 hl (by decide) rfl (fun ls hl => ?_)
      refine lv_iconst (v := 1) hx hb dL_square_16 (by decide) ?_
      obtain ⟨e0, e1, e2, e3, e4⟩ := tup5 h
      subst e0
      subst e1
      subst e2
      subst e3
      subst e4
      have hP9 : va_P D vwCl [(a_q0, .inr (6, [.ref a_q0_forms, .ref a_q0_roll, .ref a_q0_row, .ref a_q0_rows, .ref a_q0_factors, .ref a_q0_found, .ref a_q0_foundOtherwise, .int c_q0_acts_4, .int c_q0_refusals_4, .int c_q0_knocks])), (a_q0_forms, .inl (cyJ, 6, .inr (.inl f_q0_forms_4))), (a_q3, .inr (7, [.long c_q3_n, c_q3_s]))] H := hP.sub [1, 2, 0] rfl
      have hD9 : va_D A [(a_q0, .inr (6, [.ref a_q0_forms, .ref a_q0_roll, .ref a_q0_row, .ref a_q0_rows, .ref a_q0_factors, .ref a_q0_found, .ref a_q0_foundOtherwise, .int c_q0_acts_4, .int c_q0_refusals_4, .int c_q0_knocks])), (a_q0_forms, .inl (cyJ, 6, .inr (.inl f_q0_forms_4))), (a_q3, .inr (7, [.long c_q3_n, c_q3_s]))] := hD.sub [1, 2, 0] (by decide) rfl
      refine vx_ret ?_
      exact W.iret hx hb hr (fun t ht hW => ⟨⟨_, (), rfl, rfl, wQA_of ht hP9 hD9⟩, hS.F ht⟩) hS.2.2 dL_square_17
    have h := if_ cx0 h
    cases h
  · have h := it_ hx9 h
    have hP : va_P D vwCl [(a_q3, .inr (7, [.long c_q3_n, c_q3_s])), (a_q0, .inr (6, [.ref a_q0_forms, .ref a_q0_roll, .ref a_q0_row, .ref a_q0_rows, .ref a_q0_factors, .ref a_q0_found, .ref a_q0_foundOtherwise, .int c_q0_acts_4, .int c_q0_refusals_4, .int c_q0_knocks])), (a_q0_forms, .inl (cyJ, 6, .inr (.inl f_q0_forms_4)))] H := hP
    have hD : va_D A [(a_q3, .inr (7, [.long c_q3_n, c_q3_s])), (a_q0, .inr (6, [.ref a_q0_forms, .ref a_q0_roll, .ref a_q0_row, .ref a_q0_rows, .ref a_q0_factors, .ref a_q0_found, .ref a_q0_foundOtherwise, .int c_q0_acts_4, .int c_q0_refusals_4, .int c_q0_knocks])), (a_q0_forms, .inl (cyJ, 6, .inr (.inl f_q0_forms_4)))] := hD
    refine lv_i2l (v := r4.toInt64) hx hb dL_square_7 rfl ?_
    refine lv_topl (fun c_q3_n_8 e_c_q3_n_8 => ?_)
    have h := bnd_h e_c_q3_n_8 h
    refine va_putN (D := D) (ci := 7) (v := .long c_q3_n_8) (ty := .long) (C := RX8) (T := TX8) (N := 2) hx hb hts hinX8 tyX8 tyX8_ok nmX8 hown hK hP hD hS 0 rfl rfl 0 (by decide) hfl13 (fun _ h9 => h9) rfl (by decide +kernel) rfl rfl (Nat.le_of_ble_eq_true rfl) dL_square_8 (fun H locs hP hD hS => ?_)
    have hP : va_P D vwCl [(a_q3, .inr (7, [.long c_q3_n_8, c_q3_s])), (a_q0, .inr (6, [.ref a_q0_forms, .ref a_q0_roll, .ref a_q0_row, .ref a_q0_rows, .ref a_q0_factors, .ref a_q0_found, .ref a_q0_foundOtherwise, .int c_q0_acts_4, .int c_q0_refusals_4, .int c_q0_knocks])), (a_q0_forms, .inl (cyJ, 6, .inr (.inl f_q0_forms_4)))] H := hP
    have hD : va_D A [(a_q3, .inr (7, [.long c_q3_n_8, c_q3_s])), (a_q0, .inr (6, [.ref a_q0_forms, .ref a_q0_roll, .ref a_q0_row, .ref a_q0_rows, .ref a_q0_factors, .ref a_q0_found, .ref a_q0_foundOtherwise, .int c_q0_acts_4, .int c_q0_refusals_4, .int c_q0_knocks])), (a_q0_forms, .inl (cyJ, 6, .inr (.inl f_q0_forms_4)))] := hD
    refine lv_goto (tgt := 18) hx hb dL_square_11 (by decide) ?_
    refine lv_iconst (v := 0) hx hb dL_square_18 (by decide) ?_
    obtain ⟨e0, e1, e2, e3, e4⟩ := tup5 h
    subst e0
    subst e1
    subst e2
    subst e3
    subst e4
    have hP9 : va_P D vwCl [(a_q0, .inr (6, [.ref a_q0_forms, .ref a_q0_roll, .ref a_q0_row, .ref a_q0_rows, .ref a_q0_factors, .ref a_q0_found, .ref a_q0_foundOtherwise, .int c_q0_acts_4, .int c_q0_refusals_4, .int c_q0_knocks])), (a_q0_forms, .inl (cyJ, 6, .inr (.inl f_q0_forms_4))), (a_q3, .inr (7, [.long c_q3_n_8, c_q3_s]))] H := hP.sub [1, 2, 0] rfl
    have hD9 : va_D A [(a_q0, .inr (6, [.ref a_q0_forms, .ref a_q0_roll, .ref a_q0_row, .ref a_q0_rows, .ref a_q0_factors, .ref a_q0_found, .ref a_q0_foundOtherwise, .int c_q0_acts_4, .int c_q0_refusals_4, .int c_q0_knocks])), (a_q0_forms, .inl (cyJ, 6, .inr (.inl f_q0_forms_4))), (a_q3, .inr (7, [.long c_q3_n_8, c_q3_s]))] := hD.sub [1, 2, 0] (by decide) rfl
    refine vx_ret ?_
    exact W.iret hx hb hr (fun t ht hW => ⟨⟨_, (), rfl, rfl, wQA_of ht hP9 hD9⟩, hS.F ht⟩) hS.2.2 dL_square_19
