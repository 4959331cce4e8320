noncomputable abbrev rmX3_init : Room := { frames := 1, cells := 2, slots := 24, locals := 40 }
theorem ydnX3_init : yX3_init.cls ≠ "java/lang/invoke/MethodHandle" ∧ yX3_init.cls ≠ "java/lang/invoke/VarHandle" ∧ (parseMethodDescriptor yX3_init.desc).map (fun d => d.parameters.length) = some 0 := by decide +kernel
set_option maxHeartbeats 4000000 in
set_option maxRecDepth 100000 in
theorem c_X3_init (l : Launch) (D : va_G) (cyJ : ClassId) (sz : Nat) (a_t : Nat) : Met l yX3_init wsX3_init rmX3_init (va_Pc [.ref a_t] (wPD D [(cyJ, .long)] [(a_t, .inr (3, [.null, .null, .int 0]))] sz)) (va_Qv (fun (_ : Nat × Nat) => True) (fun u t => wQA D [(a_t, .inr (3, [.ref u.1, .ref u.2, .int (0 : Int32)])), (u.1, .inl (cyJ, 12, .inr (.inl (fun _ => (0 : Int64))))), (u.2, .inl (cyJ, 12, .inr (.inl (fun _ => (0 : Int64)))))] (va_A [(a_t, .inr (3, [.null, .null, .int 0]))] sz) t) (va_A [(a_t, .inr (3, [.null, .null, .int 0]))] sz)) 2 24 (va_A [(a_t, .inr (3, [.null, .null, .int 0]))] sz) := by
  refine Met.ofW (cc := cX3_init) (maxL := 1) (ret := none) (by decide) rfl ?_
  intro p e s m args below meth c s₁ B hml hv
  obtain ⟨rfl, hsz, hP, hK, hD0, hnw⟩ := hv
  have hx := B.exec
  have hb := B.bytes
  have hr := B.returns
  have hts := atoms_spec (ws := wsX3_init) B.pre
  have hown : s.vm.findClass RX3 = some m.cls := findClass_of_methodNamed B.named
  have hlocks := B.notSynchronized
  have hini9 : meth.name = "<init>" := (name_of_methodNamed B.named B.method).1
  have hcf : CallFix _ _ _ _ _ _ _ _ _ := ⟨hx, hb, hml, hown, hts⟩
  have hinX3 : ∀ w ∈ u_ws RX3 TX3 3, w ∈ wsX3_init := by decide +kernel
  have hfl9 := hts (.fieldLink RX3 9 "Formwheel$Roll" "held" "[J") (by decide +kernel)
  have hfl15 := hts (.fieldLink RX3 15 "Formwheel$Roll" "before" "[J") (by decide +kernel)
  have hfl18 := hts (.fieldLink RX3 18 "Formwheel$Roll" "size" "I") (by decide +kernel)
  subst hsz
  have hD := hD0.self (sz := s.heap.size)
  generalize hAe : va_A [(a_t, .inr (3, [.null, .null, .int 0]))] s.heap.size = A at hD ⊢
  have hA : ∀ q : Nat, s.heap.size ≤ q → A q := fun q h => by rw [← hAe]; exact Or.inr h
  have hS : va_S A s.heap s.heap [] := va_S.rf
  have hP : va_P D vwCl [(a_t, .inr (3, [.null, .null, .int 0]))] s.heap := hP
  have hK0 := hK
  have hl := lv_entry ([.ref a_t]) (n := 1) (Nat.le_of_ble_eq_true rfl)
  rw [lg_entry_eq]
  generalize (lg_sl ([.ref a_t]) ++ List.replicate (1 - (lg_sl ([.ref a_t])).length) Slot.unset).toArray = ls at hl ⊢
  have hl : lv_has ls 1 [(0, .ref a_t)] := hl
  refine lv_aload_n hx hb dX3_init_0 rfl (lv_at hl 0 rfl) ?_
  refine W.objInit hx hb hown (hts (.methodLink RX3 3 objectInit) (by decide +kernel)) (hts (.instanceMethod objectInit) (by decide +kernel)) (hts (.code objectInit ⟨#[0xb1]⟩ 1 none) (by decide +kernel)) rfl (by rw [hml]; exact hl.1) rfl dX3_init_1 (Nat.le_of_ble_eq_true rfl) (Nat.le_of_ble_eq_true rfl) ?_
  refine W.eq (g2 := F0 m 4 ls []) rfl ?_
  refine lv_aload_n hx hb dX3_init_4 rfl (lv_at hl 0 rfl) ?_
  refine lv_bipush (v := 12) hx hb dX3_init_5 (by decide) ?_
  refine va_newa (atype := .long) (ty := .long) (a0 := (12, .inr (.inl (fun _ => (0 : Int64))))) (N' := 12) hx hb (hts (.arrayClass .long) (by decide +kernel)) rfl hK hP hD hS hA (fun _ => rfl) (by decide) rfl (by decide) (Nat.le_of_ble_eq_true rfl) (Nat.le_of_ble_eq_true rfl) dX3_init_7 (fun a_n7 cy_7 H hK hP hD hS => ?_)
  have e_cy_7 := cy_eq hK0 hK
  subst e_cy_7
  have hK := hK0
  have hP : va_P D vwCl [(a_t, .inr (3, [.null, .null, .int 0])), (a_n7, .inl (cyJ, 12, .inr (.inl (fun _ => (0 : Int64)))))] H := hP
  have hD : va_D A [(a_t, .inr (3, [.null, .null, .int 0])), (a_n7, .inl (cyJ, 12, .inr (.inl (fun _ => (0 : Int64)))))] := hD
  refine W.widen (k := 1) (n := 12) (Nat.le_of_ble_eq_true rfl) (Nat.le_of_ble_eq_true rfl) ?_
  refine va_putF (D := D) (ci := 3) (v := .ref a_n7) (ty := tyX3 0) (C := RX3) (T := TX3) (N := 3) hx hb hts hinX3 tyX3 tyX3_ok nmX3 hown hK hP hD hS 0 rfl rfl 0 (by decide) hfl9 (fun _ h9 => h9) rfl hini9 rfl (by decide +kernel) rfl rfl (Nat.le_of_ble_eq_true rfl) dX3_init_9 (fun H locs hP hD hS => ?_)
  have hP : va_P D vwCl [(a_t, .inr (3, [.ref a_n7, .null, .int 0])), (a_n7, .inl (cyJ, 12, .inr (.inl (fun _ => (0 : Int64)))))] H := hP
  have hD : va_D A [(a_t, .inr (3, [.ref a_n7, .null, .int 0])), (a_n7, .inl (cyJ, 12, .inr (.inl (fun _ => (0 : Int64)))))] := hD
  refine lv_aload_n hx hb dX3_init_12 rfl (lv_at hl 0 rfl) ?_
  refine lv_bipush (v := 12) hx hb dX3_init_13 (by decide) ?_
  refine va_newa (atype := .long) (ty := .long) (a0 := (12, .inr (.inl (fun _ => (0 : Int64))))) (N' := 12) hx hb (hts (.arrayClass .long) (by decide +kernel)) rfl hK hP hD hS hA (fun _ => rfl) (by decide) rfl (by decide) (Nat.le_of_ble_eq_true rfl) (Nat.le_of_ble_eq_true rfl) dX3_init_15 (fun a_n15 cy_15 H hK hP hD hS => ?_)
  have e_cy_15 := cy_eq hK0 hK
  subst e_cy_15
  have hK := hK0
  have hP : va_P D vwCl [(a_t, .inr (3, [.ref a_n7, .null, .int 0])), (a_n7, .inl (cyJ, 12, .inr (.inl (fun _ => (0 : Int64))))), (a_n15, .inl (cyJ, 12, .inr (.inl (fun _ => (0 : Int64)))))] H := hP
  have hD : va_D A [(a_t, .inr (3, [.ref a_n7, .null, .int 0])), (a_n7, .inl (cyJ, 12, .inr (.inl (fun _ => (0 : Int64))))), (a_n15, .inl (cyJ, 12, .inr (.inl (fun _ => (0 : Int64)))))] := hD
  refine W.widen (k := 2) (n := 24) (Nat.le_of_ble_eq_true rfl) (Nat.le_of_ble_eq_true rfl) ?_
  refine va_putF (D := D) (ci := 3) (v := .ref a_n15) (ty := tyX3 1) (C := RX3) (T := TX3) (N := 3) hx hb hts hinX3 tyX3 tyX3_ok nmX3 hown hK hP hD hS 0 rfl rfl 1 (by decide) hfl15 (fun _ h9 => h9) rfl hini9 rfl (by decide +kernel) rfl rfl (Nat.le_of_ble_eq_true rfl) dX3_init_17 (fun H locs hP hD hS => ?_)
  have hP : va_P D vwCl [(a_t, .inr (3, [.ref a_n7, .ref a_n15, .int 0])), (a_n7, .inl (cyJ, 12, .inr (.inl (fun _ => (0 : Int64))))), (a_n15, .inl (cyJ, 12, .inr (.inl (fun _ => (0 : Int64)))))] H := hP
  have hD : va_D A [(a_t, .inr (3, [.ref a_n7, .ref a_n15, .int 0])), (a_n7, .inl (cyJ, 12, .inr (.inl (fun _ => (0 : Int64))))), (a_n15, .inl (cyJ, 12, .inr (.inl (fun _ => (0 : Int64)))))] := hD
  refine lv_aload_n hx hb dX3_init_20 rfl (lv_at hl 0 rfl) ?_
  refine lv_iconst (v := 0) hx hb dX3_init_21 (by decide) ?_
  refine va_put (D := D) (ci := 3) (v := .int (0 : Int32)) (ty := .int) (C := RX3) (T := TX3) (N := 3) hx hb hts hinX3 tyX3 tyX3_ok nmX3 hown hK hP hD hS 0 rfl rfl 2 (by decide) hfl18 (fun _ h9 => h9) rfl (by decide +kernel) rfl rfl (Nat.le_of_ble_eq_true rfl) dX3_init_22 (fun H locs hP hD hS => ?_)
  have hP : va_P D vwCl [(a_t, .inr (3, [.ref a_n7, .ref a_n15, .int (0 : Int32)])), (a_n7, .inl (cyJ, 12, .inr (.inl (fun _ => (0 : Int64))))), (a_n15, .inl (cyJ, 12, .inr (.inl (fun _ => (0 : Int64)))))] H := hP
  have hD : va_D A [(a_t, .inr (3, [.ref a_n7, .ref a_n15, .int (0 : Int32)])), (a_n7, .inl (cyJ, 12, .inr (.inl (fun _ => (0 : Int64))))), (a_n15, .inl (cyJ, 12, .inr (.inl (fun _ => (0 : Int64)))))] := hD
  have hP9 : va_P D vwCl [(a_t, .inr (3, [.ref a_n7, .ref a_n15, .int (0 : Int32)])), (a_n7, .inl (cyJ, 12, .inr (.inl (fun _ => (0 : Int64))))), (a_n15, .inl (cyJ, 12, .inr (.inl (fun _ => (0 : Int64)))))] H := hP.sub [0, 1, 2] rfl
  have hD9 : va_D A [(a_t, .inr (3, [.ref a_n7, .ref a_n15, .int (0 : Int32)])), (a_n7, .inl (cyJ, 12, .inr (.inl (fun _ => (0 : Int64))))), (a_n15, .inl (cyJ, 12, .inr (.inl (fun _ => (0 : Int64)))))] := hD.sub [0, 1, 2] (by decide) rfl
  exact W.vret hx hb hr (fun t ht hW => ⟨⟨(a_n7, a_n15), rfl, trivial, wQA_of ht hP9 hD9⟩, hS.F ht⟩) hS.2.2 dX3_init_25

noncomputable abbrev rmX5_init : Room := { frames := 1, cells := 0, slots := 0, locals := 40 }
theorem ydnX5_init : yX5_init.cls ≠ "java/lang/invoke/MethodHandle" ∧ yX5_init.cls ≠ "java/lang/invoke/VarHandle" ∧ (parseMethodDescriptor yX5_init.desc).map (fun d => d.parameters.length) = some 0 := by decide +kernel
set_option maxHeartbeats 4000000 in
set_option maxRecDepth 100000 in
theorem c_X5_init (l : Launch) (D : va_G) (cyJ : ClassId) (sz : Nat) (a_t : Nat) : Met l yX5_init wsX5_init rmX5_init (va_Pc [.ref a_t] (wPD D [(cyJ, .long)] [(a_t, .inr (5, [.long 0, .long 0]))] sz)) (va_Qv (fun (_ : Unit) => True) (fun u t => wQA D [(a_t, .inr (5, [.long (3 : Int64), .long (1 : Int64)]))] (va_A [(a_t, .inr (5, [.long 0, .long 0]))] sz) t) (va_A [(a_t, .inr (5, [.long 0, .long 0]))] sz)) 0 0 (va_A [(a_t, .inr (5, [.long 0, .long 0]))] sz) := by
  refine Met.ofW (cc := cX5_init) (maxL := 1) (ret := none) (by decide) rfl ?_
  intro p e s m args below meth c s₁ B hml hv
  obtain ⟨rfl, hsz, hP, hK, hD0, hnw⟩ := hv
  have hx := B.exec
  have hb := B.bytes
  have hr := B.returns
  have hts := atoms_spec (ws := wsX5_init) B.pre
  have hown : s.vm.findClass RX5 = some m.cls := findClass_of_methodNamed B.named
  have hlocks := B.notSynchronized
  have hini9 : meth.name = "<init>" := (name_of_methodNamed B.named B.method).1
  have hcf : CallFix _ _ _ _ _ _ _ _ _ := ⟨hx, hb, hml, hown, hts⟩
  have hinX5 : ∀ w ∈ u_ws RX5 TX5 2, w ∈ wsX5_init := by decide +kernel
  have hfl11 := hts (.fieldLink RX5 11 "Formwheel$ShiftRow" "taps" "J") (by decide +kernel)
  have hfl17 := hts (.fieldLink RX5 17 "Formwheel$ShiftRow" "cells" "J") (by decide +kernel)
  subst hsz
  have hD := hD0.self (sz := s.heap.size)
  generalize hAe : va_A [(a_t, .inr (5, [.long 0, .long 0]))] s.heap.size = A at hD ⊢
  have hA : ∀ q : Nat, s.heap.size ≤ q → A q := fun q h => by rw [← hAe]; exact Or.inr h
  have hS : va_S A s.heap s.heap [] := va_S.rf
  have hP : va_P D vwCl [(a_t, .inr (5, [.long 0, .long 0]))] s.heap := hP
  have hK0 := hK
  have hl := lv_entry ([.ref a_t]) (n := 1) (Nat.le_of_ble_eq_true rfl)
  rw [lg_entry_eq]
  generalize (lg_sl ([.ref a_t]) ++ List.replicate (1 - (lg_sl ([.ref a_t])).length) Slot.unset).toArray = ls at hl ⊢
  have hl : lv_has ls 1 [(0, .ref a_t)] := hl
  refine lv_aload_n hx hb dX5_init_0 rfl (lv_at hl 0 rfl) ?_
  refine W.objInit hx hb hown (hts (.methodLink RX5 3 objectInit) (by decide +kernel)) (hts (.instanceMethod objectInit) (by decide +kernel)) (hts (.code objectInit ⟨#[0xb1]⟩ 1 none) (by decide +kernel)) rfl (by rw [hml]; exact hl.1) rfl dX5_init_1 (Nat.le_of_ble_eq_true rfl) (Nat.le_of_ble_eq_true rfl) ?_
  refine W.eq (g2 := F0 m 4 ls []) rfl ?_
  refine lv_aload_n hx hb dX5_init_4 rfl (lv_at hl 0 rfl) ?_
  refine lv_ldc2 hx hb hown (hts (.constantLong RX5 9 (3)) (by decide +kernel)) dX5_init_5 ?_
  refine va_put (D := D) (ci := 5) (v := .long (3 : Int64)) (ty := .long) (C := RX5) (T := TX5) (N := 2) hx hb hts hinX5 tyX5 tyX5_ok nmX5 hown hK hP hD hS 0 rfl rfl 0 (by decide) hfl11 (fun _ h9 => h9) rfl (by decide +kernel) rfl rfl (Nat.le_of_ble_eq_true rfl) dX5_init_8 (fun H locs hP hD hS => ?_)
  have hP : va_P D vwCl [(a_t, .inr (5, [.long (3 : Int64), .long 0]))] H := hP
  have hD : va_D A [(a_t, .inr (5, [.long (3 : Int64), .long 0]))] := hD
  refine lv_aload_n hx hb dX5_init_11 rfl (lv_at hl 0 rfl) ?_
  refine lv_lconst (v := 1) hx hb dX5_init_12 (by decide) ?_
  refine va_put (D := D) (ci := 5) (v := .long (1 : Int64)) (ty := .long) (C := RX5) (T := TX5) (N := 2) hx hb hts hinX5 tyX5 tyX5_ok nmX5 hown hK hP hD hS 0 rfl rfl 1 (by decide) hfl17 (fun _ h9 => h9) rfl (by decide +kernel) rfl rfl (Nat.le_of_ble_eq_true rfl) dX5_init_13 (fun H locs hP hD hS => ?_)
  have hP : va_P D vwCl [(a_t, .inr (5, [.long (3 : Int64), .long (1 : Int64)]))] H := hP
  have hD : va_D A [(a_t, .inr (5, [.long (3 : Int64), .long (1 : Int64)]))] := hD
  have hP9 : va_P D vwCl [(a_t, .inr (5, [.long (3 : Int64), .long (1 : Int64)]))] H := hP.sub [0] rfl
  have hD9 : va_D A [(a_t, .inr (5, [.long (3 : Int64), .long (1 : Int64)]))] := hD.sub [0] (by decide) rfl
  exact W.vret hx hb hr (fun t ht hW => ⟨⟨(), rfl, trivial, wQA_of ht hP9 hD9⟩, hS.F ht⟩) hS.2.2 dX5_init_16

noncomputable abbrev rmX4_init : Room := { frames := 1, cells := 0, slots := 0, locals := 40 }
theorem ydnX4_init : yX4_init.cls ≠ "java/lang/invoke/MethodHandle" ∧ yX4_init.cls ≠ "java/lang/invoke/VarHandle" ∧ (parseMethodDescriptor yX4_init.desc).map (fun d => d.parameters.length) = some 0 := by decide +kernel
set_option maxHeartbeats 4000000 in
set_option maxRecDepth 100000 in
theorem c_X4_init (l : Launch) (D : va_G) (cyJ : ClassId) (sz : Nat) (a_t : Nat) : Met l yX4_init wsX4_init rmX4_init (va_Pc [.ref a_t] (wPD D [(cyJ, .long)] [(a_t, .inr (4, [.long 0, .long 0, .long 0, .long 0, .long 0, .long 0]))] sz)) (va_Qv (fun (_ : Unit) => True) (fun u t => wQA D [(a_t, .inr (4, [.long 0, .long 0, .long 0, .long 0, .long 0, .long 0]))] (va_A [(a_t, .inr (4, [.long 0, .long 0, .long 0, .long 0, .long 0, .long 0]))] sz) t) (va_A [(a_t, .inr (4, [.long 0, .long 0, .long 0, .long 0, .long 0, .long 0]))] sz)) 0 0 (va_A [(a_t, .inr (4, [.long 0, .long 0, .long 0, .long 0, .long 0, .long 0]))] sz) := by
  refine Met.ofW (cc := cX4_init) (maxL := 1) (ret := none) (by decide) rfl ?_
  intro p e s m args below meth c s₁ B hml hv
  obtain ⟨rfl, hsz, hP, hK, hD0, hnw⟩ := hv
  have hx := B.exec
  have hb := B.bytes
  have hr := B.returns
  have hts := atoms_spec (ws := wsX4_init) B.pre
  have hown : s.vm.findClass RX4 = some m.cls := findClass_of_methodNamed B.named
  have hlocks := B.notSynchronized
  have hini9 : meth.name = "<init>" := (name_of_methodNamed B.named B.method).1
  have hcf : CallFix _ _ _ _ _ _ _ _ _ := ⟨hx, hb, hml, hown, hts⟩
  subst hsz
  have hD := hD0.self (sz := s.heap.size)
  generalize hAe : va_A [(a_t, .inr (4, [.long 0, .long 0, .long 0, .long 0, .long 0, .long 0]))] s.heap.size = A at hD ⊢
  have hA : ∀ q : Nat, s.heap.size ≤ q → A q := fun q h => by rw [← hAe]; exact Or.inr h
  have hS : va_S A s.heap s.heap [] := va_S.rf
  have hP : va_P D vwCl [(a_t, .inr (4, [.long 0, .long 0, .long 0, .long 0, .long 0, .long 0]))] s.heap := hP
  have hK0 := hK
  have hl := lv_entry ([.ref a_t]) (n := 1) (Nat.le_of_ble_eq_true rfl)
  rw [lg_entry_eq]
  generalize (lg_sl ([.ref a_t]) ++ List.replicate (1 - (lg_sl ([.ref a_t])).length) Slot.unset).toArray = ls at hl ⊢
  have hl : lv_has ls 1 [(0, .ref a_t)] := hl
  refine lv_aload_n hx hb dX4_init_0 rfl (lv_at hl 0 rfl) ?_
  refine W.objInit hx hb hown (hts (.methodLink RX4 3 objectInit) (by decide +kernel)) (hts (.instanceMethod objectInit) (by decide +kernel)) (hts (.code objectInit ⟨#[0xb1]⟩ 1 none) (by decide +kernel)) rfl (by rw [hml]; exact hl.1) rfl dX4_init_1 (Nat.le_of_ble_eq_true rfl) (Nat.le_of_ble_eq_true rfl) ?_
  refine W.eq (g2 := F0 m 4 ls []) rfl ?_
  have hP9 : va_P D vwCl [(a_t, .inr (4, [.long 0, .long 0, .long 0, .long 0, .long 0, .long 0]))] s.heap := hP.sub [0] rfl
  have hD9 : va_D A [(a_t, .inr (4, [.long 0, .long 0, .long 0, .long 0, .long 0, .long 0]))] := hD.sub [0] (by decide) rfl
  exact W.vret hx hb hr (fun t ht hW => ⟨⟨(), rfl, trivial, wQA_of ht hP9 hD9⟩, hS.F ht⟩) hS.2.2 dX4_init_4

noncomputable abbrev rmX1_init : Room := { frames := 2, cells := 3, slots := 27, locals := 60 }
theorem ydnX1_init : yX1_init.cls ≠ "java/lang/invoke/MethodHandle" ∧ yX1_init.cls ≠ "java/lang/invoke/VarHandle" ∧ (parseMethodDescriptor yX1_init.desc).map (fun d => d.parameters.length) = some 0 := by decide +kernel
set_option maxHeartbeats 4000000 in
set_option maxRecDepth 100000 in
theorem c_X1_init (l : Launch) (D : va_G) (cyJ : ClassId) (sz : Nat) (a_t : Nat) : Met l yX1_init wsX1_init rmX1_init (va_Pc [.ref a_t] (wPD D [(cyJ, .long)] [(a_t, .inr (2, [.null]))] sz)) (va_Qv (fun (_ : Nat × Nat × Nat) => True) (fun u t => wQA D [(a_t, .inr (2, [.ref u.1])), (u.1, .inr (3, [.ref u.2.1, .ref u.2.2, .int (0 : Int32)])), (u.2.1, .inl (cyJ, 12, .inr (.inl (fun _ => (0 : Int64))))), (u.2.2, .inl (cyJ, 12, .inr (.inl (fun _ => (0 : Int64)))))] (va_A [(a_t, .inr (2, [.null]))] sz) t) (va_A [(a_t, .inr (2, [.null]))] sz)) 3 27 (va_A [(a_t, .inr (2, [.null]))] sz) := by
  refine Met.ofW (cc := cX1_init) (maxL := 1) (ret := none) (by decide) rfl ?_
  intro p e s m args below meth c s₁ B hml hv
  obtain ⟨rfl, hsz, hP, hK, hD0, hnw⟩ := hv
  have hx := B.exec
  have hb := B.bytes
  have hr := B.returns
  have hts := atoms_spec (ws := wsX1_init) B.pre
  have hown : s.vm.findClass RX1 = some m.cls := findClass_of_methodNamed B.named
  have hlocks := B.notSynchronized
  have hini9 : meth.name = "<init>" := (name_of_methodNamed B.named B.method).1
  have hcf : CallFix _ _ _ _ _ _ _ _ _ := ⟨hx, hb, hml, hown, hts⟩
  have hinX1 : ∀ w ∈ u_ws RX1 TX1 1, w ∈ wsX1_init := by decide +kernel
  have hfl12 := hts (.fieldLink RX1 12 "Formwheel$Factors" "parts" "LFormwheel$Roll;") (by decide +kernel)
  subst hsz
  have hD := hD0.self (sz := s.heap.size)
  generalize hAe : va_A [(a_t, .inr (2, [.null]))] s.heap.size = A at hD ⊢
  have hA : ∀ q : Nat, s.heap.size ≤ q → A q := fun q h => by rw [← hAe]; exact Or.inr h
  have hS : va_S A s.heap s.heap [] := va_S.rf
  have hP : va_P D vwCl [(a_t, .inr (2, [.null]))] s.heap := hP
  have hK0 := hK
  have hl := lv_entry ([.ref a_t]) (n := 1) (Nat.le_of_ble_eq_true rfl)
  rw [lg_entry_eq]
  generalize (lg_sl ([.ref a_t]) ++ List.replicate (1 - (lg_sl ([.ref a_t])).length) Slot.unset).toArray = ls at hl ⊢
  have hl : lv_has ls 1 [(0, .ref a_t)] := hl
  refine lv_aload_n hx hb dX1_init_0 rfl (lv_at hl 0 rfl) ?_
  refine W.objInit hx hb hown (hts (.methodLink RX1 3 objectInit) (by decide +kernel)) (hts (.instanceMethod objectInit) (by decide +kernel)) (hts (.code objectInit ⟨#[0xb1]⟩ 1 none) (by decide +kernel)) rfl (by rw [hml]; exact hl.1) rfl dX1_init_1 (Nat.le_of_ble_eq_true rfl) (Nat.le_of_ble_eq_true rfl) ?_
  refine W.eq (g2 := F0 m 4 ls []) rfl ?_
  refine lv_aload_n hx hb dX1_init_4 rfl (lv_at hl 0 rfl) ?_
  refine va_new (ci := 3) (fs := [.null, .null, .int 0]) (C := RX3) (T := TX3) (N := 3) hx hb hts (by decide +kernel) tyX3 tyX3_ok hown (hts (.classLink RX1 9 RX3) (by decide +kernel)) (hts (.instantiable RX3 3) (by decide +kernel)) (hts (.initialized RX3) (by decide +kernel)) hK hP hD hS hA rfl (fun j hj => by rcases (show j = 0 ∨ j = 1 ∨ j = 2 by omega) with rfl | rfl | rfl <;> rfl) (Nat.le_of_ble_eq_true rfl) (Nat.le_of_ble_eq_true rfl) dX1_init_5 (fun a_n5 H hP hD hS => ?_)
  have hP : va_P D vwCl [(a_t, .inr (2, [.null])), (a_n5, .inr (3, [.null, .null, .int 0]))] H := hP
  have hD : va_D A [(a_t, .inr (2, [.null])), (a_n5, .inr (3, [.null, .null, .int 0]))] := hD
  refine lv_dup hx hb dX1_init_8 rfl ?_
  have hPc := hP.sub (ws' := [(a_n5, .inr (3, [.null, .null, .int 0]))]) [1] rfl
  have hDc := hD.sub (ws' := [(a_n5, .inr (3, [.null, .null, .int 0]))]) [1] (by decide) rfl
  refine hp_n (wr := [(a_t, .inr (2, [.null]))]) (va_runI (As := []) (rest := [.ref a_n5, .ref a_t]) hcf (c_X3_init l D cyJ H.size a_n5) (cwI 0 hts gX1_init_X3_init rfl rfl rfl (hts (.initialized RX3) (by decide +kernel)) (hts (.methodLink RX1 11 yX3_init) (by decide +kernel)) (hts (.instanceMethod yX3_init) (by decide +kernel)) rfl (by decide +kernel) ⟨Nat.le_of_ble_eq_true rfl, Nat.le_of_ble_eq_true rfl⟩) ⟨bl_PD, pr_PD hPc hK0 hDc hnw⟩ rfl rfl hl.1 rfl (lv_room (Nat.le_of_ble_eq_true rfl)) dX1_init_9 ⟨Nat.le_of_ble_eq_true rfl, Nat.le_of_ble_eq_true rfl⟩) hP hD hS hA [1] [0] rfl rfl (by decide) (by decide) (fun u9 H locs hP hD hS => ?_)
  obtain ⟨a_n5_held, a_n5_before⟩ := u9
  have hP : va_P D vwCl [(a_t, .inr (2, [.null])), (a_n5, .inr (3, [.ref a_n5_held, .ref a_n5_before, .int (0 : Int32)])), (a_n5_held, .inl (cyJ, 12, .inr (.inl (fun _ => (0 : Int64))))), (a_n5_before, .inl (cyJ, 12, .inr (.inl (fun _ => (0 : Int64)))))] H := hP
  have hD : va_D A [(a_t, .inr (2, [.null])), (a_n5, .inr (3, [.ref a_n5_held, .ref a_n5_before, .int (0 : Int32)])), (a_n5_held, .inl (cyJ, 12, .inr (.inl (fun _ => (0 : Int64))))), (a_n5_before, .inl (cyJ, 12, .inr (.inl (fun _ => (0 : Int64)))))] := hD
  refine va_putF (D := D) (ci := 2) (v := .ref a_n5) (ty := tyX1 0) (C := RX1) (T := TX1) (N := 1) hx hb hts hinX1 tyX1 tyX1_ok nmX1 hown hK hP hD hS 0 rfl rfl 0 (by decide) hfl12 (fun _ h9 => h9) rfl hini9 rfl (by decide +kernel) rfl rfl (Nat.le_of_ble_eq_true rfl) dX1_init_12 (fun H locs hP hD hS => ?_)
  have hP : va_P D vwCl [(a_t, .inr (2, [.ref a_n5])), (a_n5, .inr (3, [.ref a_n5_held, .ref a_n5_before, .int (0 : Int32)])), (a_n5_held, .inl (cyJ, 12, .inr (.inl (fun _ => (0 : Int64))))), (a_n5_before, .inl (cyJ, 12, .inr (.inl (fun _ => (0 : Int64)))))] H := hP
  have hD : va_D A [(a_t, .inr (2, [.ref a_n5])), (a_n5, .inr (3, [.ref a_n5_held, .ref a_n5_before, .int (0 : Int32)])), (a_n5_held, .inl (cyJ, 12, .inr (.inl (fun _ => (0 : Int64))))), (a_n5_before, .inl (cyJ, 12, .inr (.inl (fun _ => (0 : Int64)))))] := hD
  have hP9 : va_P D vwCl [(a_t, .inr (2, [.ref a_n5])), (a_n5, .inr (3, [.ref a_n5_held, .ref a_n5_before, .int (0 : Int32)])), (a_n5_held, .inl (cyJ, 12, .inr (.inl (fun _ => (0 : Int64))))), (a_n5_before, .inl (cyJ, 12, .inr (.inl (fun _ => (0 : Int64)))))] H := hP.sub [0, 1, 2, 3] rfl
  have hD9 : va_D A [(a_t, .inr (2, [.ref a_n5])), (a_n5, .inr (3, [.ref a_n5_held, .ref a_n5_before, .int (0 : Int32)])), (a_n5_held, .inl (cyJ, 12, .inr (.inl (fun _ => (0 : Int64))))), (a_n5_before, .inl (cyJ, 12, .inr (.inl (fun _ => (0 : Int64)))))] := hD.sub [0, 1, 2, 3] (by decide) rfl
  exact W.vret hx hb hr (fun t ht hW => ⟨⟨(a_n5, a_n5_held, a_n5_before), rfl, trivial, wQA_of ht hP9 hD9⟩, hS.F ht⟩) hS.2.2 dX1_init_15

noncomputable abbrev rmX7_init : Room := { frames := 3, cells := 16, slots := 123, locals := 80 }
theorem ydnX7_init : yX7_init.cls ≠ "java/lang/invoke/MethodHandle" ∧ yX7_init.cls ≠ "java/lang/invoke/VarHandle" ∧ (parseMethodDescriptor yX7_init.desc).map (fun d => d.parameters.length) = some 0 := by decide +kernel
set_option maxHeartbeats 4000000 in
set_option maxRecDepth 100000 in
theorem c_X7_init (l : Launch) (D : va_G) (cyJ : ClassId) (sz : Nat) (a_t : Nat) : Met l yX7_init wsX7_init rmX7_init (va_Pc [.ref a_t] (wPD D [(cyJ, .long)] [(a_t, .inr (6, [.null, .null, .null, .null, .null, .null, .null, .int 0, .int 0, .int 0]))] sz)) (va_Qv (fun (_ : Nat × Nat × Nat × Nat × Nat × Nat × Nat × Nat × Nat × Nat × Nat × Nat × Nat × Nat × Nat × Nat) => True) (fun u t => wQA D [(a_t, .inr (6, [.ref u.1, .ref u.2.1, .ref u.2.2.2.2.1, .ref u.2.2.2.2.2.1, .ref u.2.2.2.2.2.2.1, .ref u.2.2.2.2.2.2.2.2.2.2.1, .ref u.2.2.2.2.2.2.2.2.2.2.2.2.2.1, .int (0 : Int32), .int (0 : Int32), .int (0 : Int32)])), (u.1, .inl (cyJ, 6, .inr (.inl (fun _ => (0 : Int64))))), (u.2.1, .inr (3, [.ref u.2.2.1, .ref u.2.2.2.1, .int (0 : Int32)])), (u.2.2.1, .inl (cyJ, 12, .inr (.inl (fun _ => (0 : Int64))))), (u.2.2.2.1, .inl (cyJ, 12, .inr (.inl (fun _ => (0 : Int64))))), (u.2.2.2.2.1, .inr (5, [.long (3 : Int64), .long (1 : Int64)])), (u.2.2.2.2.2.1, .inr (4, [.long 0, .long 0, .long 0, .long 0, .long 0, .long 0])), (u.2.2.2.2.2.2.1, .inr (2, [.ref u.2.2.2.2.2.2.2.1])), (u.2.2.2.2.2.2.2.1, .inr (3, [.ref u.2.2.2.2.2.2.2.2.1, .ref u.2.2.2.2.2.2.2.2.2.1, .int (0 : Int32)])), (u.2.2.2.2.2.2.2.2.1, .inl (cyJ, 12, .inr (.inl (fun _ => (0 : Int64))))), (u.2.2.2.2.2.2.2.2.2.1, .inl (cyJ, 12, .inr (.inl (fun _ => (0 : Int64))))), (u.2.2.2.2.2.2.2.2.2.2.1, .inr (3, [.ref u.2.2.2.2.2.2.2.2.2.2.2.1, .ref u.2.2.2.2.2.2.2.2.2.2.2.2.1, .int (0 : Int32)])), (u.2.2.2.2.2.2.2.2.2.2.2.1, .inl (cyJ, 12, .inr (.inl (fun _ => (0 : Int64))))), (u.2.2.2.2.2.2.2.2.2.2.2.2.1, .inl (cyJ, 12, .inr (.inl (fun _ => (0 : Int64))))), (u.2.2.2.2.2.2.2.2.2.2.2.2.2.1, .inr (3, [.ref u.2.2.2.2.2.2.2.2.2.2.2.2.2.2.1, .ref u.2.2.2.2.2.2.2.2.2.2.2.2.2.2.2, .int (0 : Int32)])), (u.2.2.2.2.2.2.2.2.2.2.2.2.2.2.1, .inl (cyJ, 12, .inr (.inl (fun _ => (0 : Int64))))), (u.2.2.2.2.2.2.2.2.2.2.2.2.2.2.2, .inl (cyJ, 12, .inr (.inl (fun _ => (0 : Int64)))))] (va_A [(a_t, .inr (6, [.null, .null, .null, .null, .null, .null, .null, .int 0, .int 0, .int 0]))] sz) t) (va_A [(a_t, .inr (6, [.null, .null, .null, .null, .null, .null, .null, .int 0, .int 0, .int 0]))] sz)) 16 123 (va_A [(a_t, .inr (6, [.null, .null, .null, .null, .null, .null, .null, .int 0, .int 0, .int 0]))] sz) := by
  refine Met.ofW (cc := cX7_init) (maxL := 1) (ret := none) (by decide) rfl ?_
  intro p e s m args below meth c s₁ B hml hv
  obtain ⟨rfl, hsz, hP, hK, hD0, hnw⟩ := hv
  have hx := B.exec
  have hb := B.bytes
  have hr := B.returns
  have hts := atoms_spec (ws := wsX7_init) B.pre
  have hown : s.vm.findClass RX7 = some m.cls := findClass_of_methodNamed B.named
  have hlocks := B.notSynchronized
  have hini9 : meth.name = "<init>" := (name_of_methodNamed B.named B.method).1
  have hcf : CallFix _ _ _ _ _ _ _ _ _ := ⟨hx, hb, hml, hown, hts⟩
  have hinX7 : ∀ w ∈ u_ws RX7 TX7 10, w ∈ wsX7_init := by decide +kernel
  have hfl9 := hts (.fieldLink RX7 9 "Formwheel" "forms" "[J") (by decide +kernel)
  have hfl16 := hts (.fieldLink RX7 16 "Formwheel" "roll" "LFormwheel$Roll;") (by decide +kernel)
  have hfl23 := hts (.fieldLink RX7 23 "Formwheel" "row" "LFormwheel$ShiftRow;") (by decide +kernel)
  have hfl30 := hts (.fieldLink RX7 30 "Formwheel" "rows" "LFormwheel$Rows;") (by decide +kernel)
  have hfl37 := hts (.fieldLink RX7 37 "Formwheel" "factors" "LFormwheel$Factors;") (by decide +kernel)
  have hfl41 := hts (.fieldLink RX7 41 "Formwheel" "found" "LFormwheel$Roll;") (by decide +kernel)
  have hfl44 := hts (.fieldLink RX7 44 "Formwheel" "foundOtherwise" "LFormwheel$Roll;") (by decide +kernel)
  have hfl47 := hts (.fieldLink RX7 47 "Formwheel" "acts" "I") (by decide +kernel)
  have hfl51 := hts (.fieldLink RX7 51 "Formwheel" "refusals" "I") (by decide +kernel)
  have hfl54 := hts (.fieldLink RX7 54 "Formwheel" "knocks" "I") (by decide +kernel)
  subst hsz
  have hD := hD0.self (sz := s.heap.size)
  generalize hAe : va_A [(a_t, .inr (6, [.null, .null, .null, .null, .null, .null, .null, .int 0, .int 0, .int 0]))] s.heap.size = A at hD ⊢
  have hA : ∀ q : Nat, s.heap.size ≤ q → A q := fun q h => by rw [← hAe]; exact Or.inr h
  have hS : va_S A s.heap s.heap [] := va_S.rf
  have hP : va_P D vwCl [(a_t, .inr (6, [.null, .null, .null, .null, .null, .null, .null, .int 0, .int 0, .int 0]))] s.heap := hP
  have hK0 := hK
  have hl := lv_entry ([.ref a_t]) (n := 1) (Nat.le_of_ble_eq_true rfl)
  rw [lg_entry_eq]
  generalize (lg_sl ([.ref a_t]) ++ List.replicate (1 - (lg_sl ([.ref a_t])).length) Slot.unset).toArray = ls at hl ⊢
  have hl : lv_has ls 1 [(0, .ref a_t)] := hl
  refine lv_aload_n hx hb dX7_init_0 rfl (lv_at hl 0 rfl) ?_
  refine W.objInit hx hb hown (hts (.methodLink RX7 1 objectInit) (by decide +kernel)) (hts (.instanceMethod objectInit) (by decide +kernel)) (hts (.code objectInit ⟨#[0xb1]⟩ 1 none) (by decide +kernel)) rfl (by rw [hml]; exact hl.1) rfl dX7_init_1 (Nat.le_of_ble_eq_true rfl) (Nat.le_of_ble_eq_true rfl) ?_
  refine W.eq (g2 := F0 m 4 ls []) rfl ?_
  refine lv_aload_n hx hb dX7_init_4 rfl (lv_at hl 0 rfl) ?_
  refine lv_bipush (v := 6) hx hb dX7_init_5 (by decide) ?_
  refine va_newa (atype := .long) (ty := .long) (a0 := (6, .inr (.inl (fun _ => (0 : Int64))))) (N' := 6) hx hb (hts (.arrayClass .long) (by decide +kernel)) rfl hK hP hD hS hA (fun _ => rfl) (by decide) rfl (by decide) (Nat.le_of_ble_eq_true rfl) (Nat.le_of_ble_eq_true rfl) dX7_init_7 (fun a_n7 cy_7 H hK hP hD hS => ?_)
  have e_cy_7 := cy_eq hK0 hK
  subst e_cy_7
  have hK := hK0
  have hP : va_P D vwCl [(a_t, .inr (6, [.null, .null, .null, .null, .null, .null, .null, .int 0, .int 0, .int 0])), (a_n7, .inl (cyJ, 6, .inr (.inl (fun _ => (0 : Int64)))))] H := hP
  have hD : va_D A [(a_t, .inr (6, [.null, .null, .null, .null, .null, .null, .null, .int 0, .int 0, .int 0])), (a_n7, .inl (cyJ, 6, .inr (.inl (fun _ => (0 : Int64)))))] := hD
  refine W.widen (k := 1) (n := 6) (Nat.le_of_ble_eq_true rfl) (Nat.le_of_ble_eq_true rfl) ?_
  refine va_putF (D := D) (ci := 6) (v := .ref a_n7) (ty := tyX7 0) (C := RX7) (T := TX7) (N := 10) hx hb hts hinX7 tyX7 tyX7_ok nmX7 hown hK hP hD hS 0 rfl rfl 0 (by decide) hfl9 (fun _ h9 => h9) rfl hini9 rfl (by decide +kernel) rfl rfl (Nat.le_of_ble_eq_true rfl) dX7_init_9 (fun H locs hP hD hS => ?_)
  have hP : va_P D vwCl [(a_t, .inr (6, [.ref a_n7, .null, .null, .null, .null, .null, .null, .int 0, .int 0, .int 0])), (a_n7, .inl (cyJ, 6, .inr (.inl (fun _ => (0 : Int64)))))] H := hP
  have hD : va_D A [(a_t, .inr (6, [.ref a_n7, .null, .null, .null, .null, .null, .null, .int 0, .int 0, .int 0])), (a_n7, .inl (cyJ, 6, .inr (.inl (fun _ => (0 : Int64)))))] := hD
  refine lv_aload_n hx hb dX7_init_12 rfl (lv_at hl 0 rfl) ?_
  refine va_new (ci := 3) (fs := [.null, .null, .int 0]) (C := RX3) (T := TX3) (N := 3) hx hb hts (by decide +kernel) tyX3 tyX3_ok hown (hts (.classLink RX7 13 RX3) (by decide +kernel)) (hts (.instantiable RX3 3) (by decide +kernel)) (hts (.initialized RX3) (by decide +kernel)) hK hP hD hS hA rfl (fun j hj => by rcases (show j = 0 ∨ j = 1 ∨ j = 2 by omega) with rfl | rfl | rfl <;> rfl) (Nat.le_of_ble_eq_true rfl) (Nat.le_of_ble_eq_true rfl) dX7_init_13 (fun a_n13 H hP hD hS => ?_)
  have hP : va_P D vwCl [(a_t, .inr (6, [.ref a_n7, .null, .null, .null, .null, .null, .null, .int 0, .int 0, .int 0])), (a_n7, .inl (cyJ, 6, .inr (.inl (fun _ => (0 : Int64))))), (a_n13, .inr (3, [.null, .null, .int 0]))] H := hP
  have hD : va_D A [(a_t, .inr (6, [.ref a_n7, .null, .null, .null, .null, .null, .null, .int 0, .int 0, .int 0])), (a_n7, .inl (cyJ, 6, .inr (.inl (fun _ => (0 : Int64))))), (a_n13, .inr (3, [.null, .null, .int 0]))] := hD
  refine lv_dup hx hb dX7_init_16 rfl ?_
  have hPc := hP.sub (ws' := [(a_n13, .inr (3, [.null, .null, .int 0]))]) [2] rfl
  have hDc := hD.sub (ws' := [(a_n13, .inr (3, [.null, .null, .int 0]))]) [2] (by decide) rfl
  refine hp_n (wr := [(a_t, .inr (6, [.ref a_n7, .null, .null, .null, .null, .null, .null, .int 0, .int 0, .int 0])), (a_n7, .inl (cyJ, 6, .inr (.inl (fun _ => (0 : Int64)))))]) (va_runI (As := []) (rest := [.ref a_n13, .ref a_t]) hcf (c_X3_init l D cyJ H.size a_n13) (cwI 0 hts gX7_init_X3_init rfl rfl rfl (hts (.initialized RX3) (by decide +kernel)) (hts (.methodLink RX7 15 yX3_init) (by decide +kernel)) (hts (.instanceMethod yX3_init) (by decide +kernel)) rfl (by decide +kernel) ⟨Nat.le_of_ble_eq_true rfl, Nat.le_of_ble_eq_true rfl⟩) ⟨bl_PD, pr_PD hPc hK0 hDc hnw⟩ rfl rfl hl.1 rfl (lv_room (Nat.le_of_ble_eq_true rfl)) dX7_init_17 ⟨Nat.le_of_ble_eq_true rfl, Nat.le_of_ble_eq_true rfl⟩) hP hD hS hA [2] [0, 1] rfl rfl (by decide) (by decide) (fun u17 H locs hP hD hS => ?_)
  obtain ⟨a_n13_held, a_n13_before⟩ := u17
  have hP : va_P D vwCl [(a_t, .inr (6, [.ref a_n7, .null, .null, .null, .null, .null, .null, .int 0, .int 0, .int 0])), (a_n7, .inl (cyJ, 6, .inr (.inl (fun _ => (0 : Int64))))), (a_n13, .inr (3, [.ref a_n13_held, .ref a_n13_before, .int (0 : Int32)])), (a_n13_held, .inl (cyJ, 12, .inr (.inl (fun _ => (0 : Int64))))), (a_n13_before, .inl (cyJ, 12, .inr (.inl (fun _ => (0 : Int64)))))] H := hP
  have hD : va_D A [(a_t, .inr (6, [.ref a_n7, .null, .null, .null, .null, .null, .null, .int 0, .int 0, .int 0])), (a_n7, .inl (cyJ, 6, .inr (.inl (fun _ => (0 : Int64))))), (a_n13, .inr (3, [.ref a_n13_held, .ref a_n13_before, .int (0 : Int32)])), (a_n13_held, .inl (cyJ, 12, .inr (.inl (fun _ => (0 : Int64))))), (a_n13_before, .inl (cyJ, 12, .inr (.inl (fun _ => (0 : Int64)))))] := hD
  refine va_putF (D := D) (ci := 6) (v := .ref a_n13) (ty := tyX7 1) (C := RX7) (T := TX7) (N := 10) hx hb hts hinX7 tyX7 tyX7_ok nmX7 hown hK hP hD hS 0 rfl rfl 1 (by decide) hfl16 (fun _ h9 => h9) rfl hini9 rfl (by decide +kernel) rfl rfl (Nat.le_of_ble_eq_true rfl) dX7_init_20 (fun H locs hP hD hS => ?_)
  have hP : va_P D vwCl [(a_t, .inr (6, [.ref a_n7, .ref a_n13, .null, .null, .null, .null, .null, .int 0, .int 0, .int 0])), (a_n7, .inl (cyJ, 6, .inr (.inl (fun _ => (0 : Int64))))), (a_n13, .inr (3, [.ref a_n13_held, .ref a_n13_before, .int (0 : Int32)])), (a_n13_held, .inl (cyJ, 12, .inr (.inl (fun _ => (0 : Int64))))), (a_n13_before, .inl (cyJ, 12, .inr (.inl (fun _ => (0 : Int64)))))] H := hP
  have hD : va_D A [(a_t, .inr (6, [.ref a_n7, .ref a_n13, .null, .null, .null, .null, .null, .int 0, .int 0, .int 0])), (a_n7, .inl (cyJ, 6, .inr (.inl (fun _ => (0 : Int64))))), (a_n13, .inr (3, [.ref a_n13_held, .ref a_n13_before, .int (0 : Int32)])), (a_n13_held, .inl (cyJ, 12, .inr (.inl (fun _ => (0 : Int64))))), (a_n13_before, .inl (cyJ, 12, .inr (.inl (fun _ => (0 : Int64)))))] := hD
  refine lv_aload_n hx hb dX7_init_23 rfl (lv_at hl 0 rfl) ?_
  refine va_new (ci := 5) (fs := [.long 0, .long 0]) (C := RX5) (T := TX5) (N := 2) hx hb hts (by decide +kernel) tyX5 tyX5_ok hown (hts (.classLink RX7 20 RX5) (by decide +kernel)) (hts (.instantiable RX5 2) (by decide +kernel)) (hts (.initialized RX5) (by decide +kernel)) hK hP hD hS hA rfl (fun j hj => by rcases (show j = 0 ∨ j = 1 by omega) with rfl | rfl <;> rfl) (Nat.le_of_ble_eq_true rfl) (Nat.le_of_ble_eq_true rfl) dX7_init_24 (fun a_n24 H hP hD hS => ?_)
  have hP : va_P D vwCl [(a_t, .inr (6, [.ref a_n7, .ref a_n13, .null, .null, .null, .null, .null, .int 0, .int 0, .int 0])), (a_n7, .inl (cyJ, 6, .inr (.inl (fun _ => (0 : Int64))))), (a_n13, .inr (3, [.ref a_n13_held, .ref a_n13_before, .int (0 : Int32)])), (a_n13_held, .inl (cyJ, 12, .inr (.inl (fun _ => (0 : Int64))))), (a_n13_before, .inl (cyJ, 12, .inr (.inl (fun _ => (0 : Int64))))), (a_n24, .inr (5, [.long 0, .long 0]))] H := hP
  have hD : va_D A [(a_t, .inr (6, [.ref a_n7, .ref a_n13, .null, .null, .null, .null, .null, .int 0, .int 0, .int 0])), (a_n7, .inl (cyJ, 6, .inr (.inl (fun _ => (0 : Int64))))), (a_n13, .inr (3, [.ref a_n13_held, .ref a_n13_before, .int (0 : Int32)])), (a_n13_held, .inl (cyJ, 12, .inr (.inl (fun _ => (0 : Int64))))), (a_n13_before, .inl (cyJ, 12, .inr (.inl (fun _ => (0 : Int64))))), (a_n24, .inr (5, [.long 0, .long 0]))] := hD
  refine lv_dup hx hb dX7_init_27 rfl ?_
  have hPc := hP.sub (ws' := [(a_n24, .inr (5, [.long 0, .long 0]))]) [5] rfl
  have hDc := hD.sub (ws' := [(a_n24, .inr (5, [.long 0, .long 0]))]) [5] (by decide) rfl
  refine hp_n (wr := [(a_t, .inr (6, [.ref a_n7, .ref a_n13, .null, .null, .null, .null, .null, .int 0, .int 0, .int 0])), (a_n7, .inl (cyJ, 6, .inr (.inl (fun _ => (0 : Int64))))), (a_n13, .inr (3, [.ref a_n13_held, .ref a_n13_before, .int (0 : Int32)])), (a_n13_held, .inl (cyJ, 12, .inr (.inl (fun _ => (0 : Int64))))), (a_n13_before, .inl (cyJ, 12, .inr (.inl (fun _ => (0 : Int64)))))]) (va_runI (As := []) (rest := [.ref a_n24, .ref a_t]) hcf (c_X5_init l D cyJ H.size a_n24) (cwI 0 hts gX7_init_X5_init rfl rfl rfl (hts (.initialized RX5) (by decide +kernel)) (hts (.methodLink RX7 22 yX5_init) (by decide +kernel)) (hts (.instanceMethod yX5_init) (by decide +kernel)) rfl (by decide +kernel) ⟨Nat.le_of_ble_eq_true rfl, Nat.le_of_ble_eq_true rfl⟩) ⟨bl_PD, pr_PD hPc hK0 hDc hnw⟩ rfl rfl hl.1 rfl (lv_room (Nat.le_of_ble_eq_true rfl)) dX7_init_28 ⟨Nat.le_of_ble_eq_true rfl, Nat.le_of_ble_eq_true rfl⟩) hP hD hS hA [5] [0, 1, 2, 3, 4] rfl rfl (by decide) (by decide) (fun u28 H locs hP hD hS => ?_)
  have hP : va_P D vwCl [(a_t, .inr (6, [.ref a_n7, .ref a_n13, .null, .null, .null, .null, .null, .int 0, .int 0, .int 0])), (a_n7, .inl (cyJ, 6, .inr (.inl (fun _ => (0 : Int64))))), (a_n13, .inr (3, [.ref a_n13_held, .ref a_n13_before, .int (0 : Int32)])), (a_n13_held, .inl (cyJ, 12, .inr (.inl (fun _ => (0 : Int64))))), (a_n13_before, .inl (cyJ, 12, .inr (.inl (fun _ => (0 : Int64))))), (a_n24, .inr (5, [.long (3 : Int64), .long (1 : Int64)]))] H := hP
  have hD : va_D A [(a_t, .inr (6, [.ref a_n7, .ref a_n13, .null, .null, .null, .null, .null, .int 0, .int 0, .int 0])), (a_n7, .inl (cyJ, 6, .inr (.inl (fun _ => (0 : Int64))))), (a_n13, .inr (3, [.ref a_n13_held, .ref a_n13_before, .int (0 : Int32)])), (a_n13_held, .inl (cyJ, 12, .inr (.inl (fun _ => (0 : Int64))))), (a_n13_before, .inl (cyJ, 12, .inr (.inl (fun _ => (0 : Int64))))), (a_n24, .inr (5, [.long (3 : Int64), .long (1 : Int64)]))] := hD
  refine va_putF (D := D) (ci := 6) (v := .ref a_n24) (ty := tyX7 2) (C := RX7) (T := TX7) (N := 10) hx hb hts hinX7 tyX7 tyX7_ok nmX7 hown hK hP hD hS 0 rfl rfl 2 (by decide) hfl23 (fun _ h9 => h9) rfl hini9 rfl (by decide +kernel) rfl rfl (Nat.le_of_ble_eq_true rfl) dX7_init_31 (fun H locs hP hD hS => ?_)
  have hP : va_P D vwCl [(a_t, .inr (6, [.ref a_n7, .ref a_n13, .ref a_n24, .null, .null, .null, .null, .int 0, .int 0, .int 0])), (a_n7, .inl (cyJ, 6, .inr (.inl (fun _ => (0 : Int64))))), (a_n13, .inr (3, [.ref a_n13_held, .ref a_n13_before, .int (0 : Int32)])), (a_n13_held, .inl (cyJ, 12, .inr (.inl (fun _ => (0 : Int64))))), (a_n13_before, .inl (cyJ, 12, .inr (.inl (fun _ => (0 : Int64))))), (a_n24, .inr (5, [.long (3 : Int64), .long (1 : Int64)]))] H := hP
  have hD : va_D A [(a_t, .inr (6, [.ref a_n7, .ref a_n13, .ref a_n24, .null, .null, .null, .null, .int 0, .int 0, .int 0])), (a_n7, .inl (cyJ, 6, .inr (.inl (fun _ => (0 : Int64))))), (a_n13, .inr (3, [.ref a_n13_held, .ref a_n13_before, .int (0 : Int32)])), (a_n13_held, .inl (cyJ, 12, .inr (.inl (fun _ => (0 : Int64))))), (a_n13_before, .inl (cyJ, 12, .inr (.inl (fun _ => (0 : Int64))))), (a_n24, .inr (5, [.long (3 : Int64), .long (1 : Int64)]))] := hD
  refine lv_aload_n hx hb dX7_init_34 rfl (lv_at hl 0 rfl) ?_
  refine va_new (ci := 4) (fs := [.long 0, .long 0, .long 0, .long 0, .long 0, .long 0]) (C := RX4) (T := TX4) (N := 6) hx hb hts (by decide +kernel) tyX4 tyX4_ok hown (hts (.classLink RX7 27 RX4) (by decide +kernel)) (hts (.instantiable RX4 6) (by decide +kernel)) (hts (.initialized RX4) (by decide +kernel)) hK hP hD hS hA rfl (fun j hj => by rcases (show j = 0 ∨ j = 1 ∨ j = 2 ∨ j = 3 ∨ j = 4 ∨ j = 5 by omega) with rfl | rfl | rfl | rfl | rfl | rfl <;> rfl) (Nat.le_of_ble_eq_true rfl) (Nat.le_of_ble_eq_true rfl) dX7_init_35 (fun a_n35 H hP hD hS => ?_)
  have hP : va_P D vwCl [(a_t, .inr (6, [.ref a_n7, .ref a_n13, .ref a_n24, .null, .null, .null, .null, .int 0, .int 0, .int 0])), (a_n7, .inl (cyJ, 6, .inr (.inl (fun _ => (0 : Int64))))), (a_n13, .inr (3, [.ref a_n13_held, .ref a_n13_before, .int (0 : Int32)])), (a_n13_held, .inl (cyJ, 12, .inr (.inl (fun _ => (0 : Int64))))), (a_n13_before, .inl (cyJ, 12, .inr (.inl (fun _ => (0 : Int64))))), (a_n24, .inr (5, [.long (3 : Int64), .long (1 : Int64)])), (a_n35, .inr (4, [.long 0, .long 0, .long 0, .long 0, .long 0, .long 0]))] H := hP
  have hD : va_D A [(a_t, .inr (6, [.ref a_n7, .ref a_n13, .ref a_n24, .null, .null, .null, .null, .int 0, .int 0, .int 0])), (a_n7, .inl (cyJ, 6, .inr (.inl (fun _ => (0 : Int64))))), (a_n13, .inr (3, [.ref a_n13_held, .ref a_n13_before, .int (0 : Int32)])), (a_n13_held, .inl (cyJ, 12, .inr (.inl (fun _ => (0 : Int64))))), (a_n13_before, .inl (cyJ, 12, .inr (.inl (fun _ => (0 : Int64))))), (a_n24, .inr (5, [.long (3 : Int64), .long (1 : Int64)])), (a_n35, .inr (4, [.long 0, .long 0, .long 0, .long 0, .long 0, .long 0]))] := hD
  refine lv_dup hx hb dX7_init_38 rfl ?_
  have hPc := hP.sub (ws' := [(a_n35, .inr (4, [.long 0, .long 0, .long 0, .long 0, .long 0, .long 0]))]) [6] rfl
  have hDc := hD.sub (ws' := [(a_n35, .inr (4, [.long 0, .long 0, .long 0, .long 0, .long 0, .long 0]))]) [6] (by decide) rfl
  refine hp_n (wr := [(a_t, .inr (6, [.ref a_n7, .ref a_n13, .ref a_n24, .null, .null, .null, .null, .int 0, .int 0, .int 0])), (a_n7, .inl (cyJ, 6, .inr (.inl (fun _ => (0 : Int64))))), (a_n13, .inr (3, [.ref a_n13_held, .ref a_n13_before, .int (0 : Int32)])), (a_n13_held, .inl (cyJ, 12, .inr (.inl (fun _ => (0 : Int64))))), (a_n13_before, .inl (cyJ, 12, .inr (.inl (fun _ => (0 : Int64))))), (a_n24, .inr (5, [.long (3 : Int64), .long (1 : Int64)]))]) (va_runIN (As := []) (rest := [.ref a_n35, .ref a_t]) hcf (c_X4_init l D cyJ H.size a_n35) ⟨va_cnB (host := "Formwheel") 0 hts gX7_init_X4_init_n29 rfl rfl rfl (hnw _ (by decide +kernel) : va_Nw (.methodLinkNest RX7 29 yX4_init "Formwheel") s) (hts (.initialized RX4) (by decide +kernel)) ydnX4_init ⟨Nat.le_of_ble_eq_true rfl, Nat.le_of_ble_eq_true rfl⟩, rfl, hts (.instanceMethod yX4_init) (by decide +kernel)⟩ ⟨bl_PD, pr_PD hPc hK0 hDc hnw⟩ rfl rfl hl.1 rfl (lv_room (Nat.le_of_ble_eq_true rfl)) dX7_init_39 ⟨Nat.le_of_ble_eq_true rfl, Nat.le_of_ble_eq_true rfl⟩) hP hD hS hA [6] [0, 1, 2, 3, 4, 5] rfl rfl (by decide) (by decide) (fun u39 H locs hP hD hS => ?_)
  have hP : va_P D vwCl [(a_t, .inr (6, [.ref a_n7, .ref a_n13, .ref a_n24, .null, .null, .null, .null, .int 0, .int 0, .int 0])), (a_n7, .inl (cyJ, 6, .inr (.inl (fun _ => (0 : Int64))))), (a_n13, .inr (3, [.ref a_n13_held, .ref a_n13_before, .int (0 : Int32)])), (a_n13_held, .inl (cyJ, 12, .inr (.inl (fun _ => (0 : Int64))))), (a_n13_before, .inl (cyJ, 12, .inr (.inl (fun _ => (0 : Int64))))), (a_n24, .inr (5, [.long (3 : Int64), .long (1 : Int64)])), (a_n35, .inr (4, [.long 0, .long 0, .long 0, .long 0, .long 0, .long 0]))] H := hP
  have hD : va_D A [(a_t, .inr (6, [.ref a_n7, .ref a_n13, .ref a_n24, .null, .null, .null, .null, .int 0, .int 0, .int 0])), (a_n7, .inl (cyJ, 6, .inr (.inl (fun _ => (0 : Int64))))), (a_n13, .inr (3, [.ref a_n13_held, .ref a_n13_before, .int (0 : Int32)])), (a_n13_held, .inl (cyJ, 12, .inr (.inl (fun _ => (0 : Int64))))), (a_n13_before, .inl (cyJ, 12, .inr (.inl (fun _ => (0 : Int64))))), (a_n24, .inr (5, [.long (3 : Int64), .long (1 : Int64)])), (a_n35, .inr (4, [.long 0, .long 0, .long 0, .long 0, .long 0, .long 0]))] := hD
  refine va_putF (D := D) (ci := 6) (v := .ref a_n35) (ty := tyX7 3) (C := RX7) (T := TX7) (N := 10) hx hb hts hinX7 tyX7 tyX7_ok nmX7 hown hK hP hD hS 0 rfl rfl 3 (by decide) hfl30 (fun _ h9 => h9) rfl hini9 rfl (by decide +kernel) rfl rfl (Nat.le_of_ble_eq_true rfl) dX7_init_42 (fun H locs hP hD hS => ?_)
  have hP : va_P D vwCl [(a_t, .inr (6, [.ref a_n7, .ref a_n13, .ref a_n24, .ref a_n35, .null, .null, .null, .int 0, .int 0, .int 0])), (a_n7, .inl (cyJ, 6, .inr (.inl (fun _ => (0 : Int64))))), (a_n13, .inr (3, [.ref a_n13_held, .ref a_n13_before, .int (0 : Int32)])), (a_n13_held, .inl (cyJ, 12, .inr (.inl (fun _ => (0 : Int64))))), (a_n13_before, .inl (cyJ, 12, .inr (.inl (fun _ => (0 : Int64))))), (a_n24, .inr (5, [.long (3 : Int64), .long (1 : Int64)])), (a_n35, .inr (4, [.long 0, .long 0, .long 0, .long 0, .long 0, .long 0]))] H := hP
  have hD : va_D A [(a_t, .inr (6, [.ref a_n7, .ref a_n13, .ref a_n24, .ref a_n35, .null, .null, .null, .int 0, .int 0, .int 0])), (a_n7, .inl (cyJ, 6, .inr (.inl (fun _ => (0 : Int64))))), (a_n13, .inr (3, [.ref a_n13_held, .ref a_n13_before, .int (0 : Int32)])), (a_n13_held, .inl (cyJ, 12, .inr (.inl (fun _ => (0 : Int64))))), (a_n13_before, .inl (cyJ, 12, .inr (.inl (fun _ => (0 : Int64))))), (a_n24, .inr (5, [.long (3 : Int64), .long (1 : Int64)])), (a_n35, .inr (4, [.long 0, .long 0, .long 0, .long 0, .long 0, .long 0]))] := hD
  refine lv_aload_n hx hb dX7_init_45 rfl (lv_at hl 0 rfl) ?_
  refine va_new (ci := 2) (fs := [.null]) (C := RX1) (T := TX1) (N := 1) hx hb hts (by decide +kernel) tyX1 tyX1_ok hown (hts (.classLink RX7 34 RX1) (by decide +kernel)) (hts (.instantiable RX1 1) (by decide +kernel)) (hts (.initialized RX1) (by decide +kernel)) hK hP hD hS hA rfl (fun j hj => by rcases (show j = 0 by omega) with rfl <;> rfl) (Nat.le_of_ble_eq_true rfl) (Nat.le_of_ble_eq_true rfl) dX7_init_46 (fun a_n46 H hP hD hS => ?_)
  have hP : va_P D vwCl [(a_t, .inr (6, [.ref a_n7, .ref a_n13, .ref a_n24, .ref a_n35, .null, .null, .null, .int 0, .int 0, .int 0])), (a_n7, .inl (cyJ, 6, .inr (.inl (fun _ => (0 : Int64))))), (a_n13, .inr (3, [.ref a_n13_held, .ref a_n13_before, .int (0 : Int32)])), (a_n13_held, .inl (cyJ, 12, .inr (.inl (fun _ => (0 : Int64))))), (a_n13_before, .inl (cyJ, 12, .inr (.inl (fun _ => (0 : Int64))))), (a_n24, .inr (5, [.long (3 : Int64), .long (1 : Int64)])), (a_n35, .inr (4, [.long 0, .long 0, .long 0, .long 0, .long 0, .long 0])), (a_n46, .inr (2, [.null]))] H := hP
  have hD : va_D A [(a_t, .inr (6, [.ref a_n7, .ref a_n13, .ref a_n24, .ref a_n35, .null, .null, .null, .int 0, .int 0, .int 0])), (a_n7, .inl (cyJ, 6, .inr (.inl (fun _ => (0 : Int64))))), (a_n13, .inr (3, [.ref a_n13_held, .ref a_n13_before, .int (0 : Int32)])), (a_n13_held, .inl (cyJ, 12, .inr (.inl (fun _ => (0 : Int64))))), (a_n13_before, .inl (cyJ, 12, .inr (.inl (fun _ => (0 : Int64))))), (a_n24, .inr (5, [.long (3 : Int64), .long (1 : Int64)])), (a_n35, .inr (4, [.long 0, .long 0, .long 0, .long 0, .long 0, .long 0])), (a_n46, .inr (2, [.null]))] := hD
  refine lv_dup hx hb dX7_init_49 rfl ?_
  have hPc := hP.sub (ws' := [(a_n46, .inr (2, [.null]))]) [7] rfl
  have hDc := hD.sub (ws' := [(a_n46, .inr (2, [.null]))]) [7] (by decide) rfl
  refine hp_n (wr := [(a_t, .inr (6, [.ref a_n7, .ref a_n13, .ref a_n24, .ref a_n35, .null, .null, .null, .int 0, .int 0, .int 0])), (a_n7, .inl (cyJ, 6, .inr (.inl (fun _ => (0 : Int64))))), (a_n13, .inr (3, [.ref a_n13_held, .ref a_n13_before, .int (0 : Int32)])), (a_n13_held, .inl (cyJ, 12, .inr (.inl (fun _ => (0 : Int64))))), (a_n13_before, .inl (cyJ, 12, .inr (.inl (fun _ => (0 : Int64))))), (a_n24, .inr (5, [.long (3 : Int64), .long (1 : Int64)])), (a_n35, .inr (4, [.long 0, .long 0, .long 0, .long 0, .long 0, .long 0]))]) (va_runI (As := []) (rest := [.ref a_n46, .ref a_t]) hcf (c_X1_init l D cyJ H.size a_n46) (cwI 0 hts gX7_init_X1_init rfl rfl rfl (hts (.initialized RX1) (by decide +kernel)) (hts (.methodLink RX7 36 yX1_init) (by decide +kernel)) (hts (.instanceMethod yX1_init) (by decide +kernel)) rfl (by decide +kernel) ⟨Nat.le_of_ble_eq_true rfl, Nat.le_of_ble_eq_true rfl⟩) ⟨bl_PD, pr_PD hPc hK0 hDc hnw⟩ rfl rfl hl.1 rfl (lv_room (Nat.le_of_ble_eq_true rfl)) dX7_init_50 ⟨Nat.le_of_ble_eq_true rfl, Nat.le_of_ble_eq_true rfl⟩) hP hD hS hA [7] [0, 1, 2, 3, 4, 5, 6] rfl rfl (by decide) (by decide) (fun u50 H locs hP hD hS => ?_)
  obtain ⟨a_n46_parts, a_n46_parts_held, a_n46_parts_before⟩ := u50
  have hP : va_P D vwCl [(a_t, .inr (6, [.ref a_n7, .ref a_n13, .ref a_n24, .ref a_n35, .null, .null, .null, .int 0, .int 0, .int 0])), (a_n7, .inl (cyJ, 6, .inr (.inl (fun _ => (0 : Int64))))), (a_n13, .inr (3, [.ref a_n13_held, .ref a_n13_before, .int (0 : Int32)])), (a_n13_held, .inl (cyJ, 12, .inr (.inl (fun _ => (0 : Int64))))), (a_n13_before, .inl (cyJ, 12, .inr (.inl (fun _ => (0 : Int64))))), (a_n24, .inr (5, [.long (3 : Int64), .long (1 : Int64)])), (a_n35, .inr (4, [.long 0, .long 0, .long 0, .long 0, .long 0, .long 0])), (a_n46, .inr (2, [.ref a_n46_parts])), (a_n46_parts, .inr (3, [.ref a_n46_parts_held, .ref a_n46_parts_before, .int (0 : Int32)])), (a_n46_parts_held, .inl (cyJ, 12, .inr (.inl (fun _ => (0 : Int64))))), (a_n46_parts_before, .inl (cyJ, 12, .inr (.inl (fun _ => (0 : Int64)))))] H := hP
  have hD : va_D A [(a_t, .inr (6, [.ref a_n7, .ref a_n13, .ref a_n24, .ref a_n35, .null, .null, .null, .int 0, .int 0, .int 0])), (a_n7, .inl (cyJ, 6, .inr (.inl (fun _ => (0 : Int64))))), (a_n13, .inr (3, [.ref a_n13_held, .ref a_n13_before, .int (0 : Int32)])), (a_n13_held, .inl (cyJ, 12, .inr (.inl (fun _ => (0 : Int64))))), (a_n13_before, .inl (cyJ, 12, .inr (.inl (fun _ => (0 : Int64))))), (a_n24, .inr (5, [.long (3 : Int64), .long (1 : Int64)])), (a_n35, .inr (4, [.long 0, .long 0, .long 0, .long 0, .long 0, .long 0])), (a_n46, .inr (2, [.ref a_n46_parts])), (a_n46_parts, .inr (3, [.ref a_n46_parts_held, .ref a_n46_parts_before, .int (0 : Int32)])), (a_n46_parts_held, .inl (cyJ, 12, .inr (.inl (fun _ => (0 : Int64))))), (a_n46_parts_before, .inl (cyJ, 12, .inr (.inl (fun _ => (0 : Int64)))))] := hD
  refine va_putF (D := D) (ci := 6) (v := .ref a_n46) (ty := tyX7 4) (C := RX7) (T := TX7) (N := 10) hx hb hts hinX7 tyX7 tyX7_ok nmX7 hown hK hP hD hS 0 rfl rfl 4 (by decide) hfl37 (fun _ h9 => h9) rfl hini9 rfl (by decide +kernel) rfl rfl (Nat.le_of_ble_eq_true rfl) dX7_init_53 (fun H locs hP hD hS => ?_)
  have hP : va_P D vwCl [(a_t, .inr (6, [.ref a_n7, .ref a_n13, .ref a_n24, .ref a_n35, .ref a_n46, .null, .null, .int 0, .int 0, .int 0])), (a_n7, .inl (cyJ, 6, .inr (.inl (fun _ => (0 : Int64))))), (a_n13, .inr (3, [.ref a_n13_held, .ref a_n13_before, .int (0 : Int32)])), (a_n13_held, .inl (cyJ, 12, .inr (.inl (fun _ => (0 : Int64))))), (a_n13_before, .inl (cyJ, 12, .inr (.inl (fun _ => (0 : Int64))))), (a_n24, .inr (5, [.long (3 : Int64), .long (1 : Int64)])), (a_n35, .inr (4, [.long 0, .long 0, .long 0, .long 0, .long 0, .long 0])), (a_n46, .inr (2, [.ref a_n46_parts])), (a_n46_parts, .inr (3, [.ref a_n46_parts_held, .ref a_n46_parts_before, .int (0 : Int32)])), (a_n46_parts_held, .inl (cyJ, 12, .inr (.inl (fun _ => (0 : Int64))))), (a_n46_parts_before, .inl (cyJ, 12, .inr (.inl (fun _ => (0 : Int64)))))] H := hP
  have hD : va_D A [(a_t, .inr (6, [.ref a_n7, .ref a_n13, .ref a_n24, .ref a_n35, .ref a_n46, .null, .null, .int 0, .int 0, .int 0])), (a_n7, .inl (cyJ, 6, .inr (.inl (fun _ => (0 : Int64))))), (a_n13, .inr (3, [.ref a_n13_held, .ref a_n13_before, .int (0 : Int32)])), (a_n13_held, .inl (cyJ, 12, .inr (.inl (fun _ => (0 : Int64))))), (a_n13_before, .inl (cyJ, 12, .inr (.inl (fun _ => (0 : Int64))))), (a_n24, .inr (5, [.long (3 : Int64), .long (1 : Int64)])), (a_n35, .inr (4, [.long 0, .long 0, .long 0, .long 0, .long 0, .long 0])), (a_n46, .inr (2, [.ref a_n46_parts])), (a_n46_parts, .inr (3, [.ref a_n46_parts_held, .ref a_n46_parts_before, .int (0 : Int32)])), (a_n46_parts_held, .inl (cyJ, 12, .inr (.inl (fun _ => (0 : Int64))))), (a_n46_parts_before, .inl (cyJ, 12, .inr (.inl (fun _ => (0 : Int64)))))] := hD
  refine lv_aload_n hx hb dX7_init_56 rfl (lv_at hl 0 rfl) ?_
  refine va_new (ci := 3) (fs := [.null, .null, .int 0]) (C := RX3) (T := TX3) (N := 3) hx hb hts (by decide +kernel) tyX3 tyX3_ok hown (hts (.classLink RX7 13 RX3) (by decide +kernel)) (hts (.instantiable RX3 3) (by decide +kernel)) (hts (.initialized RX3) (by decide +kernel)) hK hP hD hS hA rfl (fun j hj => by rcases (show j = 0 ∨ j = 1 ∨ j = 2 by omega) with rfl | rfl | rfl <;> rfl) (Nat.le_of_ble_eq_true rfl) (Nat.le_of_ble_eq_true rfl) dX7_init_57 (fun a_n57 H hP hD hS => ?_)
  have hP : va_P D vwCl [(a_t, .inr (6, [.ref a_n7, .ref a_n13, .ref a_n24, .ref a_n35, .ref a_n46, .null, .null, .int 0, .int 0, .int 0])), (a_n7, .inl (cyJ, 6, .inr (.inl (fun _ => (0 : Int64))))), (a_n13, .inr (3, [.ref a_n13_held, .ref a_n13_before, .int (0 : Int32)])), (a_n13_held, .inl (cyJ, 12, .inr (.inl (fun _ => (0 : Int64))))), (a_n13_before, .inl (cyJ, 12, .inr (.inl (fun _ => (0 : Int64))))), (a_n24, .inr (5, [.long (3 : Int64), .long (1 : Int64)])), (a_n35, .inr (4, [.long 0, .long 0, .long 0, .long 0, .long 0, .long 0])), (a_n46, .inr (2, [.ref a_n46_parts])), (a_n46_parts, .inr (3, [.ref a_n46_parts_held, .ref a_n46_parts_before, .int (0 : Int32)])), (a_n46_parts_held, .inl (cyJ, 12, .inr (.inl (fun _ => (0 : Int64))))), (a_n46_parts_before, .inl (cyJ, 12, .inr (.inl (fun _ => (0 : Int64))))), (a_n57, .inr (3, [.null, .null, .int 0]))] H := hP
  have hD : va_D A [(a_t, .inr (6, [.ref a_n7, .ref a_n13, .ref a_n24, .ref a_n35, .ref a_n46, .null, .null, .int 0, .int 0, .int 0])), (a_n7, .inl (cyJ, 6, .inr (.inl (fun _ => (0 : Int64))))), (a_n13, .inr (3, [.ref a_n13_held, .ref a_n13_before, .int (0 : Int32)])), (a_n13_held, .inl (cyJ, 12, .inr (.inl (fun _ => (0 : Int64))))), (a_n13_before, .inl (cyJ, 12, .inr (.inl (fun _ => (0 : Int64))))), (a_n24, .inr (5, [.long (3 : Int64), .long (1 : Int64)])), (a_n35, .inr (4, [.long 0, .long 0, .long 0, .long 0, .long 0, .long 0])), (a_n46, .inr (2, [.ref a_n46_parts])), (a_n46_parts, .inr (3, [.ref a_n46_parts_held, .ref a_n46_parts_before, .int (0 : Int32)])), (a_n46_parts_held, .inl (cyJ, 12, .inr (.inl (fun _ => (0 : Int64))))), (a_n46_parts_before, .inl (cyJ, 12, .inr (.inl (fun _ => (0 : Int64))))), (a_n57, .inr (3, [.null, .null, .int 0]))] := hD
  refine lv_dup hx hb dX7_init_60 rfl ?_
  have hPc := hP.sub (ws' := [(a_n57, .inr (3, [.null, .null, .int 0]))]) [11] rfl
  have hDc := hD.sub (ws' := [(a_n57, .inr (3, [.null, .null, .int 0]))]) [11] (by decide) rfl
  refine hp_n (wr := [(a_t, .inr (6, [.ref a_n7, .ref a_n13, .ref a_n24, .ref a_n35, .ref a_n46, .null, .null, .int 0, .int 0, .int 0])), (a_n7, .inl (cyJ, 6, .inr (.inl (fun _ => (0 : Int64))))), (a_n13, .inr (3, [.ref a_n13_held, .ref a_n13_before, .int (0 : Int32)])), (a_n13_held, .inl (cyJ, 12, .inr (.inl (fun _ => (0 : Int64))))), (a_n13_before, .inl (cyJ, 12, .inr (.inl (fun _ => (0 : Int64))))), (a_n24, .inr (5, [.long (3 : Int64), .long (1 : Int64)])), (a_n35, .inr (4, [.long 0, .long 0, .long 0, .long 0, .long 0, .long 0])), (a_n46, .inr (2, [.ref a_n46_parts])), (a_n46_parts, .inr (3, [.ref a_n46_parts_held, .ref a_n46_parts_before, .int (0 : Int32)])), (a_n46_parts_held, .inl (cyJ, 12, .inr (.inl (fun _ => (0 : Int64))))), (a_n46_parts_before, .inl (cyJ, 12, .inr (.inl (fun _ => (0 : Int64)))))]) (va_runI (As := []) (rest := [.ref a_n57, .ref a_t]) hcf (c_X3_init l D cyJ H.size a_n57) (cwI 0 hts gX7_init_X3_init rfl rfl rfl (hts (.initialized RX3) (by decide +kernel)) (hts (.methodLink RX7 15 yX3_init) (by decide +kernel)) (hts (.instanceMethod yX3_init) (by decide +kernel)) rfl (by decide +kernel) ⟨Nat.le_of_ble_eq_true rfl, Nat.le_of_ble_eq_true rfl⟩) ⟨bl_PD, pr_PD hPc hK0 hDc hnw⟩ rfl rfl hl.1 rfl (lv_room (Nat.le_of_ble_eq_true rfl)) dX7_init_61 ⟨Nat.le_of_ble_eq_true rfl, Nat.le_of_ble_eq_true rfl⟩) hP hD hS hA [11] [0, 1, 2, 3, 4, 5, 6, 7, 8, 9, 10] rfl rfl (by decide) (by decide) (fun u61 H locs hP hD hS => ?_)
  obtain ⟨a_n57_held, a_n57_before⟩ := u61
  have hP : va_P D vwCl [(a_t, .inr (6, [.ref a_n7, .ref a_n13, .ref a_n24, .ref a_n35, .ref a_n46, .null, .null, .int 0, .int 0, .int 0])), (a_n7, .inl (cyJ, 6, .inr (.inl (fun _ => (0 : Int64))))), (a_n13, .inr (3, [.ref a_n13_held, .ref a_n13_before, .int (0 : Int32)])), (a_n13_held, .inl (cyJ, 12, .inr (.inl (fun _ => (0 : Int64))))), (a_n13_before, .inl (cyJ, 12, .inr (.inl (fun _ => (0 : Int64))))), (a_n24, .inr (5, [.long (3 : Int64), .long (1 : Int64)])), (a_n35, .inr (4, [.long 0, .long 0, .long 0, .long 0, .long 0, .long 0])), (a_n46, .inr (2, [.ref a_n46_parts])), (a_n46_parts, .inr (3, [.ref a_n46_parts_held, .ref a_n46_parts_before, .int (0 : Int32)])), (a_n46_parts_held, .inl (cyJ, 12, .inr (.inl (fun _ => (0 : Int64))))), (a_n46_parts_before, .inl (cyJ, 12, .inr (.inl (fun _ => (0 : Int64))))), (a_n57, .inr (3, [.ref a_n57_held, .ref a_n57_before, .int (0 : Int32)])), (a_n57_held, .inl (cyJ, 12, .inr (.inl (fun _ => (0 : Int64))))), (a_n57_before, .inl (cyJ, 12, .inr (.inl (fun _ => (0 : Int64)))))] H := hP
  have hD : va_D A [(a_t, .inr (6, [.ref a_n7, .ref a_n13, .ref a_n24, .ref a_n35, .ref a_n46, .null, .null, .int 0, .int 0, .int 0])), (a_n7, .inl (cyJ, 6, .inr (.inl (fun _ => (0 : Int64))))), (a_n13, .inr (3, [.ref a_n13_held, .ref a_n13_before, .int (0 : Int32)])), (a_n13_held, .inl (cyJ, 12, .inr (.inl (fun _ => (0 : Int64))))), (a_n13_before, .inl (cyJ, 12, .inr (.inl (fun _ => (0 : Int64))))), (a_n24, .inr (5, [.long (3 : Int64), .long (1 : Int64)])), (a_n35, .inr (4, [.long 0, .long 0, .long 0, .long 0, .long 0, .long 0])), (a_n46, .inr (2, [.ref a_n46_parts])), (a_n46_parts, .inr (3, [.ref a_n46_parts_held, .ref a_n46_parts_before, .int (0 : Int32)])), (a_n46_parts_held, .inl (cyJ, 12, .inr (.inl (fun _ => (0 : Int64))))), (a_n46_parts_before, .inl (cyJ, 12, .inr (.inl (fun _ => (0 : Int64))))), (a_n57, .inr (3, [.ref a_n57_held, .ref a_n57_before, .int (0 : Int32)])), (a_n57_held, .inl (cyJ, 12, .inr (.inl (fun _ => (0 : Int64))))), (a_n57_before, .inl (cyJ, 12, .inr (.inl (fun _ => (0 : Int64)))))] := hD
  refine va_putF (D := D) (ci := 6) (v := .ref a_n57) (ty := tyX7 5) (C := RX7) (T := TX7) (N := 10) hx hb hts hinX7 tyX7 tyX7_ok nmX7 hown hK hP hD hS 0 rfl rfl 5 (by decide) hfl41 (fun _ h9 => h9) rfl hini9 rfl (by decide +kernel) rfl rfl (Nat.le_of_ble_eq_true rfl) dX7_init_64 (fun H locs hP hD hS => ?_)
  have hP : va_P D vwCl [(a_t, .inr (6, [.ref a_n7, .ref a_n13, .ref a_n24, .ref a_n35, .ref a_n46, .ref a_n57, .null, .int 0, .int 0, .int 0])), (a_n7, .inl (cyJ, 6, .inr (.inl (fun _ => (0 : Int64))))), (a_n13, .inr (3, [.ref a_n13_held, .ref a_n13_before, .int (0 : Int32)])), (a_n13_held, .inl (cyJ, 12, .inr (.inl (fun _ => (0 : Int64))))), (a_n13_before, .inl (cyJ, 12, .inr (.inl (fun _ => (0 : Int64))))), (a_n24, .inr (5, [.long (3 : Int64), .long (1 : Int64)])), (a_n35, .inr (4, [.long 0, .long 0, .long 0, .long 0, .long 0, .long 0])), (a_n46, .inr (2, [.ref a_n46_parts])), (a_n46_parts, .inr (3, [.ref a_n46_parts_held, .ref a_n46_parts_before, .int (0 : Int32)])), (a_n46_parts_held, .inl (cyJ, 12, .inr (.inl (fun _ => (0 : Int64))))), (a_n46_parts_before, .inl (cyJ, 12, .inr (.inl (fun _ => (0 : Int64))))), (a_n57, .inr (3, [.ref a_n57_held, .ref a_n57_before, .int (0 : Int32)])), (a_n57_held, .inl (cyJ, 12, .inr (.inl (fun _ => (0 : Int64))))), (a_n57_before, .inl (cyJ, 12, .inr (.inl (fun _ => (0 : Int64)))))] H := hP
  have hD : va_D A [(a_t, .inr (6, [.ref a_n7, .ref a_n13, .ref a_n24, .ref a_n35, .ref a_n46, .ref a_n57, .null, .int 0, .int 0, .int 0])), (a_n7, .inl (cyJ, 6, .inr (.inl (fun _ => (0 : Int64))))), (a_n13, .inr (3, [.ref a_n13_held, .ref a_n13_before, .int (0 : Int32)])), (a_n13_held, .inl (cyJ, 12, .inr (.inl (fun _ => (0 : Int64))))), (a_n13_before, .inl (cyJ, 12, .inr (.inl (fun _ => (0 : Int64))))), (a_n24, .inr (5, [.long (3 : Int64), .long (1 : Int64)])), (a_n35, .inr (4, [.long 0, .long 0, .long 0, .long 0, .long 0, .long 0])), (a_n46, .inr (2, [.ref a_n46_parts])), (a_n46_parts, .inr (3, [.ref a_n46_parts_held, .ref a_n46_parts_before, .int (0 : Int32)])), (a_n46_parts_held, .inl (cyJ, 12, .inr (.inl (fun _ => (0 : Int64))))), (a_n46_parts_before, .inl (cyJ, 12, .inr (.inl (fun _ => (0 : Int64))))), (a_n57, .inr (3, [.ref a_n57_held, .ref a_n57_before, .int (0 : Int32)])), (a_n57_held, .inl (cyJ, 12, .inr (.inl (fun _ => (0 : Int64))))), (a_n57_before, .inl (cyJ, 12, .inr (.inl (fun _ => (0 : Int64)))))] := hD
  refine lv_aload_n hx hb dX7_init_67 rfl (lv_at hl 0 rfl) ?_
  refine va_new (ci := 3) (fs := [.null, .null, .int 0]) (C := RX3) (T := TX3) (N := 3) hx hb hts (by decide +kernel) tyX3 tyX3_ok hown (hts (.classLink RX7 13 RX3) (by decide +kernel)) (hts (.instantiable RX3 3) (by decide +kernel)) (hts (.initialized RX3) (by decide +kernel)) hK hP hD hS hA rfl (fun j hj => by rcases (show j = 0 ∨ j = 1 ∨ j = 2 by omega) with rfl | rfl | rfl <;> rfl) (Nat.le_of_ble_eq_true rfl) (Nat.le_of_ble_eq_true rfl) dX7_init_68 (fun a_n68 H hP hD hS => ?_)
  have hP : va_P D vwCl [(a_t, .inr (6, [.ref a_n7, .ref a_n13, .ref a_n24, .ref a_n35, .ref a_n46, .ref a_n57, .null, .int 0, .int 0, .int 0])), (a_n7, .inl (cyJ, 6, .inr (.inl (fun _ => (0 : Int64))))), (a_n13, .inr (3, [.ref a_n13_held, .ref a_n13_before, .int (0 : Int32)])), (a_n13_held, .inl (cyJ, 12, .inr (.inl (fun _ => (0 : Int64))))), (a_n13_before, .inl (cyJ, 12, .inr (.inl (fun _ => (0 : Int64))))), (a_n24, .inr (5, [.long (3 : Int64), .long (1 : Int64)])), (a_n35, .inr (4, [.long 0, .long 0, .long 0, .long 0, .long 0, .long 0])), (a_n46, .inr (2, [.ref a_n46_parts])), (a_n46_parts, .inr (3, [.ref a_n46_parts_held, .ref a_n46_parts_before, .int (0 : Int32)])), (a_n46_parts_held, .inl (cyJ, 12, .inr (.inl (fun _ => (0 : Int64))))), (a_n46_parts_before, .inl (cyJ, 12, .inr (.inl (fun _ => (0 : Int64))))), (a_n57, .inr (3, [.ref a_n57_held, .ref a_n57_before, .int (0 : Int32)])), (a_n57_held, .inl (cyJ, 12, .inr (.inl (fun _ => (0 : Int64))))), (a_n57_before, .inl (cyJ, 12, .inr (.inl (fun _ => (0 : Int64))))), (a_n68, .inr (3, [.null, .null, .int 0]))] H := hP
  have hD : va_D A [(a_t, .inr (6, [.ref a_n7, .ref a_n13, .ref a_n24, .ref a_n35, .ref a_n46, .ref a_n57, .null, .int 0, .int 0, .int 0])), (a_n7, .inl (cyJ, 6, .inr (.inl (fun _ => (0 : Int64))))), (a_n13, .inr (3, [.ref a_n13_held, .ref a_n13_before, .int (0 : Int32)])), (a_n13_held, .inl (cyJ, 12, .inr (.inl (fun _ => (0 : Int64))))), (a_n13_before, .inl (cyJ, 12, .inr (.inl (fun _ => (0 : Int64))))), (a_n24, .inr (5, [.long (3 : Int64), .long (1 : Int64)])), (a_n35, .inr (4, [.long 0, .long 0, .long 0, .long 0, .long 0, .long 0])), (a_n46, .inr (2, [.ref a_n46_parts])), (a_n46_parts, .inr (3, [.ref a_n46_parts_held, .ref a_n46_parts_before, .int (0 : Int32)])), (a_n46_parts_held, .inl (cyJ, 12, .inr (.inl (fun _ => (0 : Int64))))), (a_n46_parts_before, .inl (cyJ, 12, .inr (.inl (fun _ => (0 : Int64))))), (a_n57, .inr (3, [.ref a_n57_held, .ref a_n57_before, .int (0 : Int32)])), (a_n57_held, .inl (cyJ, 12, .inr (.inl (fun _ => (0 : Int64))))), (a_n57_before, .inl (cyJ, 12, .inr (.inl (fun _ => (0 : Int64))))), (a_n68, .inr (3, [.null, .null, .int 0]))] := hD
  refine lv_dup hx hb dX7_init_71 rfl ?_
  have hPc := hP.sub (ws' := [(a_n68, .inr (3, [.null, .null, .int 0]))]) [14] rfl
  have hDc := hD.sub (ws' := [(a_n68, .inr (3, [.null, .null, .int 0]))]) [14] (by decide) rfl
  refine hp_n (wr := [(a_t, .inr (6, [.ref a_n7, .ref a_n13, .ref a_n24, .ref a_n35, .ref a_n46, .ref a_n57, .null, .int 0, .int 0, .int 0])), (a_n7, .inl (cyJ, 6, .inr (.inl (fun _ => (0 : Int64))))), (a_n13, .inr (3, [.ref a_n13_held, .ref a_n13_before, .int (0 : Int32)])), (a_n13_held, .inl (cyJ, 12, .inr (.inl (fun _ => (0 : Int64))))), (a_n13_before, .inl (cyJ, 12, .inr (.inl (fun _ => (0 : Int64))))), (a_n24, .inr (5, [.long (3 : Int64), .long (1 : Int64)])), (a_n35, .inr (4, [.long 0, .long 0, .long 0, .long 0, .long 0, .long 0])), (a_n46, .inr (2, [.ref a_n46_parts])), (a_n46_parts, .inr (3, [.ref a_n46_parts_held, .ref a_n46_parts_before, .int (0 : Int32)])), (a_n46_parts_held, .inl (cyJ, 12, .inr (.inl (fun _ => (0 : Int64))))), (a_n46_parts_before, .inl (cyJ, 12, .inr (.inl (fun _ => (0 : Int64))))), (a_n57, .inr (3, [.ref a_n57_held, .ref a_n57_before, .int (0 : Int32)])), (a_n57_held, .inl (cyJ, 12, .inr (.inl (fun _ => (0 : Int64))))), (a_n57_before, .inl (cyJ, 12, .inr (.inl (fun _ => (0 : Int64)))))]) (va_runI (As := []) (rest := [.ref a_n68, .ref a_t]) hcf (c_X3_init l D cyJ H.size a_n68) (cwI 0 hts gX7_init_X3_init rfl rfl rfl (hts (.initialized RX3) (by decide +kernel)) (hts (.methodLink RX7 15 yX3_init) (by decide +kernel)) (hts (.instanceMethod yX3_init) (by decide +kernel)) rfl (by decide +kernel) ⟨Nat.le_of_ble_eq_true rfl, Nat.le_of_ble_eq_true rfl⟩) ⟨bl_PD, pr_PD hPc hK0 hDc hnw⟩ rfl rfl hl.1 rfl (lv_room (Nat.le_of_ble_eq_true rfl)) dX7_init_72 ⟨Nat.le_of_ble_eq_true rfl, Nat.le_of_ble_eq_true rfl⟩) hP hD hS hA [14] [0, 1, 2, 3, 4, 5, 6, 7, 8, 9, 10, 11, 12, 13] rfl rfl (by decide) (by decide) (fun u72 H locs hP hD hS => ?_)
  obtain ⟨a_n68_held, a_n68_before⟩ := u72
  have hP : va_P D vwCl [(a_t, .inr (6, [.ref a_n7, .ref a_n13, .ref a_n24, .ref a_n35, .ref a_n46, .ref a_n57, .null, .int 0, .int 0, .int 0])), (a_n7, .inl (cyJ, 6, .inr (.inl (fun _ => (0 : Int64))))), (a_n13, .inr (3, [.ref a_n13_held, .ref a_n13_before, .int (0 : Int32)])), (a_n13_held, .inl (cyJ, 12, .inr (.inl (fun _ => (0 : Int64))))), (a_n13_before, .inl (cyJ, 12, .inr (.inl (fun _ => (0 : Int64))))), (a_n24, .inr (5, [.long (3 : Int64), .long (1 : Int64)])), (a_n35, .inr (4, [.long 0, .long 0, .long 0, .long 0, .long 0, .long 0])), (a_n46, .inr (2, [.ref a_n46_parts])), (a_n46_parts, .inr (3, [.ref a_n46_parts_held, .ref a_n46_parts_before, .int (0 : Int32)])), (a_n46_parts_held, .inl (cyJ, 12, .inr (.inl (fun _ => (0 : Int64))))), (a_n46_parts_before, .inl (cyJ, 12, .inr (.inl (fun _ => (0 : Int64))))), (a_n57, .inr (3, [.ref a_n57_held, .ref a_n57_before, .int (0 : Int32)])), (a_n57_held, .inl (cyJ, 12, .inr (.inl (fun _ => (0 : Int64))))), (a_n57_before, .inl (cyJ, 12, .inr (.inl (fun _ => (0 : Int64))))), (a_n68, .inr (3, [.ref a_n68_held, .ref a_n68_before, .int (0 : Int32)])), (a_n68_held, .inl (cyJ, 12, .inr (.inl (fun _ => (0 : Int64))))), (a_n68_before, .inl (cyJ, 12, .inr (.inl (fun _ => (0 : Int64)))))] H := hP
  have hD : va_D A [(a_t, .inr (6, [.ref a_n7, .ref a_n13, .ref a_n24, .ref a_n35, .ref a_n46, .ref a_n57, .null, .int 0, .int 0, .int 0])), (a_n7, .inl (cyJ, 6, .inr (.inl (fun _ => (0 : Int64))))), (a_n13, .inr (3, [.ref a_n13_held, .ref a_n13_before, .int (0 : Int32)])), (a_n13_held, .inl (cyJ, 12, .inr (.inl (fun _ => (0 : Int64))))), (a_n13_before, .inl (cyJ, 12, .inr (.inl (fun _ => (0 : Int64))))), (a_n24, .inr (5, [.long (3 : Int64), .long (1 : Int64)])), (a_n35, .inr (4, [.long 0, .long 0, .long 0, .long 0, .long 0, .long 0])), (a_n46, .inr (2, [.ref a_n46_parts])), (a_n46_parts, .inr (3, [.ref a_n46_parts_held, .ref a_n46_parts_before, .int (0 : Int32)])), (a_n46_parts_held, .inl (cyJ, 12, .inr (.inl (fun _ => (0 : Int64))))), (a_n46_parts_before, .inl (cyJ, 12, .inr (.inl (fun _ => (0 : Int64))))), (a_n57, .inr (3, [.ref a_n57_held, .ref a_n57_before, .int (0 : Int32)])), (a_n57_held, .inl (cyJ, 12, .inr (.inl (fun _ => (0 : Int64))))), (a_n57_before, .inl (cyJ, 12, .inr (.inl (fun _ => (0 : Int64))))), (a_n68, .inr (3, [.ref a_n68_held, .ref a_n68_before, .int (0 : Int32)])), (a_n68_held, .inl (cyJ, 12, .inr (.inl (fun _ => (0 : Int64))))), (a_n68_before, .inl (cyJ, 12, .inr (.inl (fun _ => (0 : Int64)))))] := hD
  refine va_putF (D := D) (ci := 6) (v := .ref a_n68) (ty := tyX7 6) (C := RX7) (T := TX7) (N := 10) hx hb hts hinX7 tyX7 tyX7_ok nmX7 hown hK hP hD hS 0 rfl rfl 6 (by decide) hfl44 (fun _ h9 => h9) rfl hini9 rfl (by decide +kernel) rfl rfl (Nat.le_of_ble_eq_true rfl) dX7_init_75 (fun H locs hP hD hS => ?_)
  have hP : va_P D vwCl [(a_t, .inr (6, [.ref a_n7, .ref a_n13, .ref a_n24, .ref a_n35, .ref a_n46, .ref a_n57, .ref a_n68, .int 0, .int 0, .int 0])), (a_n7, .inl (cyJ, 6, .inr (.inl (fun _ => (0 : Int64))))), (a_n13, .inr (3, [.ref a_n13_held, .ref a_n13_before, .int (0 : Int32)])), (a_n13_held, .inl (cyJ, 12, .inr (.inl (fun _ => (0 : Int64))))), (a_n13_before, .inl (cyJ, 12, .inr (.inl (fun _ => (0 : Int64))))), (a_n24, .inr (5, [.long (3 : Int64), .long (1 : Int64)])), (a_n35, .inr (4, [.long 0, .long 0, .long 0, .long 0, .long 0, .long 0])), (a_n46, .inr (2, [.ref a_n46_parts])), (a_n46_parts, .inr (3, [.ref a_n46_parts_held, .ref a_n46_parts_before, .int (0 : Int32)])), (a_n46_parts_held, .inl (cyJ, 12, .inr (.inl (fun _ => (0 : Int64))))), (a_n46_parts_before, .inl (cyJ, 12, .inr (.inl (fun _ => (0 : Int64))))), (a_n57, .inr (3, [.ref a_n57_held, .ref a_n57_before, .int (0 : Int32)])), (a_n57_held, .inl (cyJ, 12, .inr (.inl (fun _ => (0 : Int64))))), (a_n57_before, .inl (cyJ, 12, .inr (.inl (fun _ => (0 : Int64))))), (a_n68, .inr (3, [.ref a_n68_held, .ref a_n68_before, .int (0 : Int32)])), (a_n68_held, .inl (cyJ, 12, .inr (.inl (fun _ => (0 : Int64))))), (a_n68_before, .inl (cyJ, 12, .inr (.inl (fun _ => (0 : Int64)))))] H := hP
  have hD : va_D A [(a_t, .inr (6, [.ref a_n7, .ref a_n13, .ref a_n24, .ref a_n35, .ref a_n46, .ref a_n57, .ref a_n68, .int 0, .int 0, .int 0])), (a_n7, .inl (cyJ, 6, .inr (.inl (fun _ => (0 : Int64))))), (a_n13, .inr (3, [.ref a_n13_held, .ref a_n13_before, .int (0 : Int32)])), (a_n13_held, .inl (cyJ, 12, .inr (.inl (fun _ => (0 : Int64))))), (a_n13_before, .inl (cyJ, 12, .inr (.inl (fun _ => (0 : Int64))))), (a_n24, .inr (5, [.long (3 : Int64), .long (1 : Int64)])), (a_n35, .inr (4, [.long 0, .long 0, .long 0, .long 0, .long 0, .long 0])), (a_n46, .inr (2, [.ref a_n46_parts])), (a_n46_parts, .inr (3, [.ref a_n46_parts_held, .ref a_n46_parts_before, .int (0 : Int32)])), (a_n46_parts_held, .inl (cyJ, 12, .inr (.inl (fun _ => (0 : Int64))))), (a_n46_parts_before, .inl (cyJ, 12, .inr (.inl (fun _ => (0 : Int64))))), (a_n57, .inr (3, [.ref a_n57_held, .ref a_n57_before, .int (0 : Int32)])), (a_n57_held, .inl (cyJ, 12, .inr (.inl (fun _ => (0 : Int64))))), (a_n57_before, .inl (cyJ, 12, .inr (.inl (fun _ => (0 : Int64))))), (a_n68, .inr (3, [.ref a_n68_held, .ref a_n68_before, .int (0 : Int32)])), (a_n68_held, .inl (cyJ, 12, .inr (.inl (fun _ => (0 : Int64))))), (a_n68_before, .inl (cyJ, 12, .inr (.inl (fun _ => (0 : Int64)))))] := hD
  refine lv_aload_n hx hb dX7_init_78 rfl (lv_at hl 0 rfl) ?_
  refine lv_iconst (v := 0) hx hb dX7_init_79 (by decide) ?_
  refine va_put (D := D) (ci := 6) (v := .int (0 : Int32)) (ty := .int) (C := RX7) (T := TX7) (N := 10) hx hb hts hinX7 tyX7 tyX7_ok nmX7 hown hK hP hD hS 0 rfl rfl 7 (by decide) hfl47 (fun _ h9 => h9) rfl (by decide +kernel) rfl rfl (Nat.le_of_ble_eq_true rfl) dX7_init_80 (fun H locs hP hD hS => ?_)
  have hP : va_P D vwCl [(a_t, .inr (6, [.ref a_n7, .ref a_n13, .ref a_n24, .ref a_n35, .ref a_n46, .ref a_n57, .ref a_n68, .int (0 : Int32), .int 0, .int 0])), (a_n7, .inl (cyJ, 6, .inr (.inl (fun _ => (0 : Int64))))), (a_n13, .inr (3, [.ref a_n13_held, .ref a_n13_before, .int (0 : Int32)])), (a_n13_held, .inl (cyJ, 12, .inr (.inl (fun _ => (0 : Int64))))), (a_n13_before, .inl (cyJ, 12, .inr (.inl (fun _ => (0 : Int64))))), (a_n24, .inr (5, [.long (3 : Int64), .long (1 : Int64)])), (a_n35, .inr (4, [.long 0, .long 0, .long 0, .long 0, .long 0, .long 0])), (a_n46, .inr (2, [.ref a_n46_parts])), (a_n46_parts, .inr (3, [.ref a_n46_parts_held, .ref a_n46_parts_before, .int (0 : Int32)])), (a_n46_parts_held, .inl (cyJ, 12, .inr (.inl (fun _ => (0 : Int64))))), (a_n46_parts_before, .inl (cyJ, 12, .inr (.inl (fun _ => (0 : Int64))))), (a_n57, .inr (3, [.ref a_n57_held, .ref a_n57_before, .int (0 : Int32)])), (a_n57_held, .inl (cyJ, 12, .inr (.inl (fun _ => (0 : Int64))))), (a_n57_before, .inl (cyJ, 12, .inr (.inl (fun _ => (0 : Int64))))), (a_n68, .inr (3, [.ref a_n68_held, .ref a_n68_before, .int (0 : Int32)])), (a_n68_held, .inl (cyJ, 12, .inr (.inl (fun _ => (0 : Int64))))), (a_n68_before, .inl (cyJ, 12, .inr (.inl (fun _ => (0 : Int64)))))] H := hP
  have hD : va_D A [(a_t, .inr (6, [.ref a_n7, .ref a_n13, .ref a_n24, .ref a_n35, .ref a_n46, .ref a_n57, .ref a_n68, .int (0 : Int32), .int 0, .int 0])), (a_n7, .inl (cyJ, 6, .inr (.inl (fun _ => (0 : Int64))))), (a_n13, .inr (3, [.ref a_n13_held, .ref a_n13_before, .int (0 : Int32)])), (a_n13_held, .inl (cyJ, 12, .inr (.inl (fun _ => (0 : Int64))))), (a_n13_before, .inl (cyJ, 12, .inr (.inl (fun _ => (0 : Int64))))), (a_n24, .inr (5, [.long (3 : Int64), .long (1 : Int64)])), (a_n35, .inr (4, [.long 0, .long 0, .long 0, .long 0, .long 0, .long 0])), (a_n46, .inr (2, [.ref a_n46_parts])), (a_n46_parts, .inr (3, [.ref a_n46_parts_held, .ref a_n46_parts_before, .int (0 : Int32)])), (a_n46_parts_held, .inl (cyJ, 12, .inr (.inl (fun _ => (0 : Int64))))), (a_n46_parts_before, .inl (cyJ, 12, .inr (.inl (fun _ => (0 : Int64))))), (a_n57, .inr (3, [.ref a_n57_held, .ref a_n57_before, .int (0 : Int32)])), (a_n57_held, .inl (cyJ, 12, .inr (.inl (fun _ => (0 : Int64))))), (a_n57_before, .inl (cyJ, 12, .inr (.inl (fun _ => (0 : Int64))))), (a_n68, .inr (3, [.ref a_n68_held, .ref a_n68_before, .int (0 : Int32)])), (a_n68_held, .inl (cyJ, 12, .inr (.inl (fun _ => (0 : Int64))))), (a_n68_before, .inl (cyJ, 12, .inr (.inl (fun _ => (0 : Int64)))))] := hD
  refine lv_aload_n hx hb dX7_init_83 rfl (lv_at hl 0 rfl) ?_
  refine lv_iconst (v := 0) hx hb dX7_init_84 (by decide) ?_
  refine va_put (D := D) (ci := 6) (v := .int (0 : Int32)) (ty := .int) (C := RX7) (T := TX7) (N := 10) hx hb hts hinX7 tyX7 tyX7_ok nmX7 hown hK hP hD hS 0 rfl rfl 8 (by decide) hfl51 (fun _ h9 => h9) rfl (by decide +kernel) rfl rfl (Nat.le_of_ble_eq_true rfl) dX7_init_85 (fun H locs hP hD hS => ?_)
  have hP : va_P D vwCl [(a_t, .inr (6, [.ref a_n7, .ref a_n13, .ref a_n24, .ref a_n35, .ref a_n46, .ref a_n57, .ref a_n68, .int (0 : Int32), .int (0 : Int32), .int 0])), (a_n7, .inl (cyJ, 6, .inr (.inl (fun _ => (0 : Int64))))), (a_n13, .inr (3, [.ref a_n13_held, .ref a_n13_before, .int (0 : Int32)])), (a_n13_held, .inl (cyJ, 12, .inr (.inl (fun _ => (0 : Int64))))), (a_n13_before, .inl (cyJ, 12, .inr (.inl (fun _ => (0 : Int64))))), (a_n24, .inr (5, [.long (3 : Int64), .long (1 : Int64)])), (a_n35, .inr (4, [.long 0, .long 0, .long 0, .long 0, .long 0, .long 0])), (a_n46, .inr (2, [.ref a_n46_parts])), (a_n46_parts, .inr (3, [.ref a_n46_parts_held, .ref a_n46_parts_before, .int (0 : Int32)])), (a_n46_parts_held, .inl (cyJ, 12, .inr (.inl (fun _ => (0 : Int64))))), (a_n46_parts_before, .inl (cyJ, 12, .inr (.inl (fun _ => (0 : Int64))))), (a_n57, .inr (3, [.ref a_n57_held, .ref a_n57_before, .int (0 : Int32)])), (a_n57_held, .inl (cyJ, 12, .inr (.inl (fun _ => (0 : Int64))))), (a_n57_before, .inl (cyJ, 12, .inr (.inl (fun _ => (0 : Int64))))), (a_n68, .inr (3, [.ref a_n68_held, .ref a_n68_before, .int (0 : Int32)])), (a_n68_held, .inl (cyJ, 12, .inr (.inl (fun _ => (0 : Int64))))), (a_n68_before, .inl (cyJ, 12, .inr (.inl (fun _ => (0 : Int64)))))] H := hP
  have hD : va_D A [(a_t, .inr (6, [.ref a_n7, .ref a_n13, .ref a_n24, .ref a_n35, .ref a_n46, .ref a_n57, .ref a_n68, .int (0 : Int32), .int (0 : Int32), .int 0])), (a_n7, .inl (cyJ, 6, .inr (.inl (fun _ => (0 : Int64))))), (a_n13, .inr (3, [.ref a_n13_held, .ref a_n13_before, .int (0 : Int32)])), (a_n13_held, .inl (cyJ, 12, .inr (.inl (fun _ => (0 : Int64))))), (a_n13_before, .inl (cyJ, 12, .inr (.inl (fun _ => (0 : Int64))))), (a_n24, .inr (5, [.long (3 : Int64), .long (1 : Int64)])), (a_n35, .inr (4, [.long 0, .long 0, .long 0, .long 0, .long 0, .long 0])), (a_n46, .inr (2, [.ref a_n46_parts])), (a_n46_parts, .inr (3, [.ref a_n46_parts_held, .ref a_n46_parts_before, .int (0 : Int32)])), (a_n46_parts_held, .inl (cyJ, 12, .inr (.inl (fun _ => (0 : Int64))))), (a_n46_parts_before, .inl (cyJ, 12, .inr (.inl (fun _ => (0 : Int64))))), (a_n57, .inr (3, [.ref a_n57_held, .ref a_n57_before, .int (0 : Int32)])), (a_n57_held, .inl (cyJ, 12, .inr (.inl (fun _ => (0 : Int64))))), (a_n57_before, .inl (cyJ, 12, .inr (.inl (fun _ => (0 : Int64))))), (a_n68, .inr (3, [.ref a_n68_held, .ref a_n68_before, .int (0 : Int32)])), (a_n68_held, .inl (cyJ, 12, .inr (.inl (fun _ => (0 : Int64))))), (a_n68_before, .inl (cyJ, 12, .inr (.inl (fun _ => (0 : Int64)))))] := hD
  refine lv_aload_n hx hb dX7_init_88 rfl (lv_at hl 0 rfl) ?_
  refine lv_iconst (v := 0) hx hb dX7_init_89 (by decide) ?_
  refine va_put (D := D) (ci := 6) (v := .int (0 : Int32)) (ty := .int) (C := RX7) (T := TX7) (N := 10) hx hb hts hinX7 tyX7 tyX7_ok nmX7 hown hK hP hD hS 0 rfl rfl 9 (by decide) hfl54 (fun _ h9 => h9) rfl (by decide +kernel) rfl rfl (Nat.le_of_ble_eq_true rfl) dX7_init_90 (fun H locs hP hD hS => ?_)
  have hP : va_P D vwCl [(a_t, .inr (6, [.ref a_n7, .ref a_n13, .ref a_n24, .ref a_n35, .ref a_n46, .ref a_n57, .ref a_n68, .int (0 : Int32), .int (0 : Int32), .int (0 : Int32)])), (a_n7, .inl (cyJ, 6, .inr (.inl (fun _ => (0 : Int64))))), (a_n13, .inr (3, [.ref a_n13_held, .ref a_n13_before, .int (0 : Int32)])), (a_n13_held, .inl (cyJ, 12, .inr (.inl (fun _ => (0 : Int64))))), (a_n13_before, .inl (cyJ, 12, .inr (.inl (fun _ => (0 : Int64))))), (a_n24, .inr (5, [.long (3 : Int64), .long (1 : Int64)])), (a_n35, .inr (4, [.long 0, .long 0, .long 0, .long 0, .long 0, .long 0])), (a_n46, .inr (2, [.ref a_n46_parts])), (a_n46_parts, .inr (3, [.ref a_n46_parts_held, .ref a_n46_parts_before, .int (0 : Int32)])), (a_n46_parts_held, .inl (cyJ, 12, .inr (.inl (fun _ => (0 : Int64))))), (a_n46_parts_before, .inl (cyJ, 12, .inr (.inl (fun _ => (0 : Int64))))), (a_n57, .inr (3, [.ref a_n57_held, .ref a_n57_before, .int (0 : Int32)])), (a_n57_held, .inl (cyJ, 12, .inr (.inl (fun _ => (0 : Int64))))), (a_n57_before, .inl (cyJ, 12, .inr (.inl (fun _ => (0 : Int64))))), (a_n68, .inr (3, [.ref a_n68_held, .ref a_n68_before, .int (0 : Int32)])), (a_n68_held, .inl (cyJ, 12, .inr (.inl (fun _ => (0 : Int64))))), (a_n68_before, .inl (cyJ, 12, .inr (.inl (fun _ => (0 : Int64)))))] H := hP
  have hD : va_D A [(a_t, .inr (6, [.ref a_n7, .ref a_n13, .ref a_n24, .ref a_n35, .ref a_n46, .ref a_n57, .ref a_n68, .int (0 : Int32), .int (0 : Int32), .int (0 : Int32)])), (a_n7, .inl (cyJ, 6, .inr (.inl (fun _ => (0 : Int64))))), (a_n13, .inr (3, [.ref a_n13_held, .ref a_n13_before, .int (0 : Int32)])), (a_n13_held, .inl (cyJ, 12, .inr (.inl (fun _ => (0 : Int64))))), (a_n13_before, .inl (cyJ, 12, .inr (.inl (fun _ => (0 : Int64))))), (a_n24, .inr (5, [.long (3 : Int64), .long (1 : Int64)])), (a_n35, .inr (4, [.long 0, .long 0, .long 0, .long 0, .long 0, .long 0])), (a_n46, .inr (2, [.ref a_n46_parts])), (a_n46_parts, .inr (3, [.ref a_n46_parts_held, .ref a_n46_parts_before, .int (0 : Int32)])), (a_n46_parts_held, .inl (cyJ, 12, .inr (.inl (fun _ => (0 : Int64))))), (a_n46_parts_before, .inl (cyJ, 12, .inr (.inl (fun _ => (0 : Int64))))), (a_n57, .inr (3, [.ref a_n57_held, .ref a_n57_before, .int (0 : Int32)])), (a_n57_held, .inl (cyJ, 12, .inr (.inl (fun _ => (0 : Int64))))), (a_n57_before, .inl (cyJ, 12, .inr (.inl (fun _ => (0 : Int64))))), (a_n68, .inr (3, [.ref a_n68_held, .ref a_n68_before, .int (0 : Int32)])), (a_n68_held, .inl (cyJ, 12, .inr (.inl (fun _ => (0 : Int64))))), (a_n68_before, .inl (cyJ, 12, .inr (.inl (fun _ => (0 : Int64)))))] := hD
  have hP9 : va_P D vwCl [(a_t, .inr (6, [.ref a_n7, .ref a_n13, .ref a_n24, .ref a_n35, .ref a_n46, .ref a_n57, .ref a_n68, .int (0 : Int32), .int (0 : Int32), .int (0 : Int32)])), (a_n7, .inl (cyJ, 6, .inr (.inl (fun _ => (0 : Int64))))), (a_n13, .inr (3, [.ref a_n13_held, .ref a_n13_before, .int (0 : Int32)])), (a_n13_held, .inl (cyJ, 12, .inr (.inl (fun _ => (0 : Int64))))), (a_n13_before, .inl (cyJ, 12, .inr (.inl (fun _ => (0 : Int64))))), (a_n24, .inr (5, [.long (3 : Int64), .long (1 : Int64)])), (a_n35, .inr (4, [.long 0, .long 0, .long 0, .long 0, .long 0, .long 0])), (a_n46, .inr (2, [.ref a_n46_parts])), (a_n46_parts, .inr (3, [.ref a_n46_parts_held, .ref a_n46_parts_before, .int (0 : Int32)])), (a_n46_parts_held, .inl (cyJ, 12, .inr (.inl (fun _ => (0 : Int64))))), (a_n46_parts_before, .inl (cyJ, 12, .inr (.inl (fun _ => (0 : Int64))))), (a_n57, .inr (3, [.ref a_n57_held, .ref a_n57_before, .int (0 : Int32)])), (a_n57_held, .inl (cyJ, 12, .inr (.inl (fun _ => (0 : Int64))))), (a_n57_before, .inl (cyJ, 12, .inr (.inl (fun _ => (0 : Int64))))), (a_n68, .inr (3, [.ref a_n68_held, .ref a_n68_before, .int (0 : Int32)])), (a_n68_held, .inl (cyJ, 12, .inr (.inl (fun _ => (0 : Int64))))), (a_n68_before, .inl (cyJ, 12, .inr (.inl (fun _ => (0 : Int64)))))] H := hP.sub [0, 1, 2, 3, 4, 5, 6, 7, 8, 9, 10, 11, 12, 13, 14, 15, 16] rfl
  have hD9 : va_D A [(a_t, .inr (6, [.ref a_n7, .ref a_n13, .ref a_n24, .ref a_n35, .ref a_n46, .ref a_n57, .ref a_n68, .int (0 : Int32), .int (0 : Int32), .int (0 : Int32)])), (a_n7, .inl (cyJ, 6, .inr (.inl (fun _ => (0 : Int64))))), (a_n13, .inr (3, [.ref a_n13_held, .ref a_n13_before, .int (0 : Int32)])), (a_n13_held, .inl (cyJ, 12, .inr (.inl (fun _ => (0 : Int64))))), (a_n13_before, .inl (cyJ, 12, .inr (.inl (fun _ => (0 : Int64))))), (a_n24, .inr (5, [.long (3 : Int64), .long (1 : Int64)])), (a_n35, .inr (4, [.long 0, .long 0, .long 0, .long 0, .long 0, .long 0])), (a_n46, .inr (2, [.ref a_n46_parts])), (a_n46_parts, .inr (3, [.ref a_n46_parts_held, .ref a_n46_parts_before, .int (0 : Int32)])), (a_n46_parts_held, .inl (cyJ, 12, .inr (.inl (fun _ => (0 : Int64))))), (a_n46_parts_before, .inl (cyJ, 12, .inr (.inl (fun _ => (0 : Int64))))), (a_n57, .inr (3, [.ref a_n57_held, .ref a_n57_before, .int (0 : Int32)])), (a_n57_held, .inl (cyJ, 12, .inr (.inl (fun _ => (0 : Int64))))), (a_n57_before, .inl (cyJ, 12, .inr (.inl (fun _ => (0 : Int64))))), (a_n68, .inr (3, [.ref a_n68_held, .ref a_n68_before, .int (0 : Int32)])), (a_n68_held, .inl (cyJ, 12, .inr (.inl (fun _ => (0 : Int64))))), (a_n68_before, .inl (cyJ, 12, .inr (.inl (fun _ => (0 : Int64)))))] := hD.sub [0, 1, 2, 3, 4, 5, 6, 7, 8, 9, 10, 11, 12, 13, 14, 15, 16] (by decide) rfl
  exact W.vret hx hb hr (fun t ht hW => ⟨⟨(a_n7, a_n13, a_n13_held, a_n13_before, a_n24, a_n35, a_n46, a_n46_parts, a_n46_parts_held, a_n46_parts_before, a_n57, a_n57_held, a_n57_before, a_n68, a_n68_held, a_n68_before), rfl, trivial, wQA_of ht hP9 hD9⟩, hS.F ht⟩) hS.2.2 dX7_init_93

noncomputable abbrev rmX7_isBetween : Room := { frames := 0, cells := 0, slots := 0, locals := 0 }
theorem ydX7_isBetween : yX7_isBetween.cls ≠ "java/lang/invoke/MethodHandle" ∧ yX7_isBetween.cls ≠ "java/lang/invoke/VarHandle" ∧ (parseMethodDescriptor yX7_isBetween.desc).map (fun d => d.parameters.length) = some 3 := by decide +kernel
noncomputable def F_X7_isBetween (p0 : Int32) (p1 : Int32) (p2 : Int32) : Option (Int32) :=
 (if p0 < p1 then
 some (0 : Int32)
else
 (if p2 < p0 then
 some (0 : Int32)
else
 some (1 : Int32)))
set_option maxHeartbeats 4000000 in
set_option maxRecDepth 100000 in
theorem c_X7_isBetween (l : Launch) (p0 : Int32) (p1 : Int32) (p2 : Int32) (r0 : Int32) (hF : F_X7_isBetween p0 p1 p2 = some r0) : Met l yX7_isBetween wsX7_isBetween rmX7_isBetween (va_Pc [.int p0, .int p1, .int p2] NW) (k2_QcV (.int r0)) 0 0 (fun _ => False) := by
  refine Met.ofW (cc := cX7_isBetween) (maxL := 3) (ret := (some .boolean)) (by decide) rfl ?_
  intro p e s m args below meth c s₁ B hml hv
  obtain ⟨rfl, hnw⟩ := hv
  have hx := B.exec
  have hb := B.bytes
  have hr := B.returns
  have hts := atoms_spec (ws := wsX7_isBetween) B.pre
  have hown : s.vm.findClass RX7 = some m.cls := findClass_of_methodNamed B.named
  have hlocks := B.notSynchronized
  have hcf : CallFix _ _ _ _ _ _ _ _ _ := ⟨hx, hb, hml, hown, hts⟩
  have hl := lv_entry ([.int p0, .int p1, .int p2]) (n := 3) (Nat.le_of_ble_eq_true rfl)
  rw [lg_entry_eq]
  generalize (lg_sl ([.int p0, .int p1, .int p2]) ++ List.replicate (3 - (lg_sl ([.int p0, .int p1, .int p2])).length) Slot.unset).toArray = ls at hl ⊢
  have hl : lv_has ls 3 [(0, .int p0), (1, .int p1), (2, .int p2)] := hl
  have h := hF
  clear hF
  unfold F_X7_isBetween at h
  refine lv_iload_n hx hb dX7_isBetween_0 rfl (lv_at hl 0 rfl) ?_
  refine lv_iload_n hx hb dX7_isBetween_1 rfl (lv_at hl 1 rfl) ?_
  refine lv_icmp_lt (tgt := 14) hx hb dX7_isBetween_2 (by decide) (fun c2 => ?_) (fun c2 => ?_)
  · have h := it_ c2 h
    refine lv_iconst (v := 0) hx hb dX7_isBetween_14 (by decide) ?_
    have e1 := Option.some.inj h
    subst e1
    exact W.zret hx hb hr narrow_b0 (fun t ht _ => ⟨rfl, ht⟩) no_q dX7_isBetween_15
  · have h := if_ c2 h
    refine lv_iload_n hx hb dX7_isBetween_5 rfl (lv_at hl 0 rfl) ?_
    refine lv_iload_n hx hb dX7_isBetween_6 rfl (lv_at hl 2 rfl) ?_
    refine lv_icmp_gt (tgt := 14) hx hb dX7_isBetween_7 (by decide) (fun c7 => ?_) (fun c7 => ?_)
    · have h := it_ c7 h
      refine lv_iconst (v := 0) hx hb dX7_isBetween_14 (by decide) ?_
      have e1 := Option.some.inj h
      subst e1
      exact W.zret hx hb hr narrow_b0 (fun t ht _ => ⟨rfl, ht⟩) no_q dX7_isBetween_15
    · have h := if_ c7 h
      refine lv_iconst (v := 1) hx hb dX7_isBetween_10 (by decide) ?_
      refine lv_goto (tgt := 15) hx hb dX7_isBetween_11 (by decide) ?_
      have e1 := Option.some.inj h
      subst e1
      exact W.zret hx hb hr narrow_b1 (fun t ht _ => ⟨rfl, ht⟩) no_q dX7_isBetween_15

noncomputable abbrev rmX7_testForm : Room := { frames := 8, cells := 1, slots := 6, locals := 100 }
theorem ydX7_testForm : yX7_testForm.cls ≠ "java/lang/invoke/MethodHandle" ∧ yX7_testForm.cls ≠ "java/lang/invoke/VarHandle" ∧ (parseMethodDescriptor yX7_testForm.desc).map (fun d => d.parameters.length) = some 1 := by decide +kernel
noncomputable def F_X7_testForm (p0 : Int32) : Option (Nat) :=
 obn (F_X7_isBetween p0 (0 : Int32) (5 : Int32)) (fun r3 =>
 (if r3 = 0 then
 some 1
else
 some 0))
theorem wsat_X7_testForm : ∀ w ∈ (vx_atS RX7 303 "java/lang/IndexOutOfBoundsException" ["java/lang/RuntimeException", "java/lang/Exception"]).filter goodWord, w ∈ wsX7_testForm := fun w h => List.mem_cons_of_mem _ (by first | exact List.mem_append_right _ h | exact List.mem_append_left _ (List.mem_append_right _ h) | exact List.mem_append_left _ (List.mem_append_left _ (List.mem_append_right _ h)))
theorem hgood_X7_testForm : ∀ w ∈ Cond.classLink RX7 299 "java/lang/IndexOutOfBoundsException" :: Cond.initialized "java/lang/IndexOutOfBoundsException" :: vx_atS RX7 303 "java/lang/IndexOutOfBoundsException" ["java/lang/RuntimeException", "java/lang/Exception"], vx_ot w = true := by decide +kernel
set_option maxHeartbeats 4000000 in
set_option maxRecDepth 100000 in
theorem c_X7_testForm (l : Launch) (hfl : l.stackTraces = false) (D : va_G) (cyJ : ClassId) (sz : Nat) (p0 : Int32) (xc : Nat) (hF : F_X7_testForm p0 = some xc) : vx_Met l yX7_testForm wsX7_testForm rmX7_testForm (va_Pc [.int p0] (wPX D [(cyJ, .long)] [] sz)) (va_Qv (fun (_ : Unit) => xc = 0) (fun _ t => wQA D [] (va_A [] sz) t) (va_A [] sz)) (vx_X (fun (_ : Unit) => ¬ xc = 0) (fun E _ t => E = xcls xc ∧ wQA D [] (va_A [] sz) t) (va_A [] sz)) 1 6 (va_A [] sz) := by
  refine vx_ofW (cc := cX7_testForm) (maxL := 1) (ret := none) (by decide) rfl ?_
  intro p e s m args below meth c s₁ B hml hxt hv
  obtain ⟨rfl, ⟨⟨hsz, hP, hK, hD0, hnw⟩, hE⟩⟩ := hv
  have hx := B.exec
  have hb := B.bytes
  have hr := B.returns
  have hts := atoms_spec (ws := wsX7_testForm) B.pre
  have hown : s.vm.findClass RX7 = some m.cls := findClass_of_methodNamed B.named
  have hlocks := B.notSynchronized
  have hcf : CallFix _ _ _ _ _ _ _ _ _ := ⟨hx, hb, hml, hown, hts⟩
  subst hsz
  have hD := hD0.self (sz := s.heap.size)
  generalize hAe : va_A [] s.heap.size = A at hD hE ⊢
  have hA : ∀ q : Nat, s.heap.size ≤ q → A q := fun q h => by rw [← hAe]; exact Or.inr h
  have hS : va_S A s.heap s.heap [] := va_S.rf
  have hP : va_P D vwCl [] s.heap := hP
  have hK0 := hK
  have hl := lv_entry ([.int p0]) (n := 1) (Nat.le_of_ble_eq_true rfl)
  rw [lg_entry_eq]
  generalize (lg_sl ([.int p0]) ++ List.replicate (1 - (lg_sl ([.int p0])).length) Slot.unset).toArray = ls at hl ⊢
  have hl : lv_has ls 1 [(0, .int p0)] := hl
  have h := hF
  clear hF
  unfold F_X7_testForm at h
  refine lv_iload_n hx hb dX7_testForm_0 rfl (lv_at hl 0 rfl) ?_
  refine lv_iconst (v := 0) hx hb dX7_testForm_1 (by decide) ?_
  refine lv_iconst (v := 5) hx hb dX7_testForm_2 (by decide) ?_
  obtain ⟨r3, hc3, h⟩ := obn_h h
  refine pz_callS (As := [.int p0, .int (0 : Int32), .int (5 : Int32)]) (rest := []) hcf (c_X7_isBetween l p0 (0 : Int32) (5 : Int32) r3 hc3) (va_cwS 3 hts gX7_testForm_X7_isBetween rfl rfl rfl ydX7_isBetween ⟨Nat.le_of_ble_eq_true rfl, Nat.le_of_ble_eq_true rfl⟩) hnw rfl hl.1 rfl (Nat.le_of_ble_eq_true rfl) dX7_testForm_3 ⟨Nat.le_of_ble_eq_true rfl, Nat.le_of_ble_eq_true rfl⟩ ?_
  refine lv_if_ne (tgt := 20) hx hb dX7_testForm_6 (by decide) (fun c6 => ?_) (fun c6 => ?_)
  · have h := if_ c6 h
    have e1 := Option.some.inj h
    subst e1
    have hP9 : va_P D vwCl [] s.heap := hP.sub [] rfl
    have hD9 : va_D A [] := hD.sub [] (by decide) rfl
    refine vx_ret ?_
    refine W.widen (k := 1) (n := 6) (Nat.le_of_ble_eq_true rfl) (Nat.le_of_ble_eq_true rfl) ?_
    exact W.vret hx hb hr (fun t ht hW => ⟨⟨(), rfl, rfl, wQA_of ht hP9 hD9⟩, hS.F ht⟩) hS.2.2 dX7_testForm_20
  · have h := it_ c6 h
    have e1 := Option.some.inj h
    subst e1
    have hP9 : va_P D vwCl [] s.heap := hP.sub [] rfl
    have hD9 : va_D A [] := hD.sub [] (by decide) rfl
    obtain ⟨sa9, hstr9⟩ := hE.2.2 _ (show (RX7, 301, "a form has a number from 0 to 5") ∈ strL from by decide +kernel)
    exact vx_throwSW hx hb hfl hown (cls := "java/lang/IndexOutOfBoundsException") (names := ["java/lang/RuntimeException", "java/lang/Exception"]) (by decide +kernel) (by decide +kernel) (hts (.classLink RX7 299 "java/lang/IndexOutOfBoundsException") (by decide +kernel)) (hts (.initialized "java/lang/IndexOutOfBoundsException") (by decide +kernel)) hstr9 (hat_1 (fun w hw => hts w (wsat_X7_testForm w hw)) hE.2.1) hgood_X7_testForm hE.1.1 hE.1.2 hS (hl.1.trans hml.symm) dX7_testForm_9 dX7_testForm_12 dX7_testForm_13 dX7_testForm_16 dX7_testForm_19 (fun x hx => (hxt x hx).elim) (Nat.le_of_ble_eq_true rfl) (Nat.le_of_ble_eq_true rfl) (Nat.le_of_ble_eq_true rfl) (Nat.le_of_ble_eq_true rfl) hlocks (fun t hW hz hk => ⟨(), by decide, ⟨rfl, wQA_kept hP9 hD9 hk⟩, va_F_kept hS hz hk⟩) hS.2.2 (Nat.le_of_ble_eq_true rfl) (Nat.le_of_ble_eq_true rfl)

noncomputable abbrev rmX7_testRange : Room := { frames := 8, cells := 1, slots := 6, locals := 100 }
theorem ydX7_testRange : yX7_testRange.cls ≠ "java/lang/invoke/MethodHandle" ∧ yX7_testRange.cls ≠ "java/lang/invoke/VarHandle" ∧ (parseMethodDescriptor yX7_testRange.desc).map (fun d => d.parameters.length) = some 3 := by decide +kernel
noncomputable def F_X7_testRange (p0 : Int32) (p1 : Int32) (p2 : Int32) : Option (Nat) :=
 obn (F_X7_isBetween p0 p1 p2) (fun r3 =>
 (if r3 = 0 then
 some 2
else
 some 0))
theorem wsat_X7_testRange : ∀ w ∈ (vx_atS RX7 127 "java/lang/IllegalArgumentException" ["java/lang/RuntimeException", "java/lang/Exception"]).filter goodWord, w ∈ wsX7_testRange := fun w h => List.mem_cons_of_mem _ (by first | exact List.mem_append_right _ h | exact List.mem_append_left _ (List.mem_append_right _ h) | exact List.mem_append_left _ (List.mem_append_left _ (List.mem_append_right _ h)))
theorem hgood_X7_testRange : ∀ w ∈ Cond.classLink RX7 123 "java/lang/IllegalArgumentException" :: Cond.initialized "java/lang/IllegalArgumentException" :: vx_atS RX7 127 "java/lang/IllegalArgumentException" ["java/lang/RuntimeException", "java/lang/Exception"], vx_ot w = true := by decide +kernel
set_option maxHeartbeats 4000000 in
set_option maxRecDepth 100000 in
theorem c_X7_testRange (l : Launch) (hfl : l.stackTraces = false) (D : va_G) (cyJ : ClassId) (sz : Nat) (p0 : Int32) (p1 : Int32) (p2 : Int32) (xc : Nat) (hF : F_X7_testRange p0 p1 p2 = some xc) : vx_Met l yX7_testRange wsX7_testRange rmX7_testRange (va_Pc [.int p0, .int p1, .int p2] (wPX D [(cyJ, .long)] [] sz)) (va_Qv (fun (_ : Unit) => xc = 0) (fun _ t => wQA D [] (va_A [] sz) t) (va_A [] sz)) (vx_X (fun (_ : Unit) => ¬ xc = 0) (fun E _ t => E = xcls xc ∧ wQA D [] (va_A [] sz) t) (va_A [] sz)) 1 6 (va_A [] sz) := by
  refine vx_ofW (cc := cX7_testRange) (maxL := 3) (ret := none) (by decide) rfl ?_
  intro p e s m args below meth c s₁ B hml hxt hv
  obtain ⟨rfl, ⟨⟨hsz, hP, hK, hD0, hnw⟩, hE⟩⟩ := hv
  have hx := B.exec
  have hb := B.bytes
  have hr := B.returns
  have hts := atoms_spec (ws := wsX7_testRange) B.pre
  have hown : s.vm.findClass RX7 = some m.cls := findClass_of_methodNamed B.named
  have hlocks := B.notSynchronized
  have hcf : CallFix _ _ _ _ _ _ _ _ _ := ⟨hx, hb, hml, hown, hts⟩
  subst hsz
  have hD := hD0.self (sz := s.heap.size)
  generalize hAe : va_A [] s.heap.size = A at hD hE ⊢
  have hA : ∀ q : Nat, s.heap.size ≤ q → A q := fun q h => by rw [← hAe]; exact Or.inr h
  have hS : va_S A s.heap s.heap [] := va_S.rf
  have hP : va_P D vwCl [] s.heap := hP
  have hK0 := hK
  have hl := lv_entry ([.int p0, .int p1, .int p2]) (n := 3) (Nat.le_of_ble_eq_true rfl)
  rw [lg_entry_eq]
  generalize (lg_sl ([.int p0, .int p1, .int p2]) ++ List.replicate (3 - (lg_sl ([.int p0, .int p1, .int p2])).length) Slot.unset).toArray = ls at hl ⊢
  have hl : lv_has ls 3 [(0, .int p0), (1, .int p1), (2, .int p2)] := hl
  have h := hF
  clear hF
  unfold F_X7_testRange at h
  refine lv_iload_n hx hb dX7_testRange_0 rfl (lv_at hl 0 rfl) ?_
  refine lv_iload_n hx hb dX7_testRange_1 rfl (lv_at hl 1 rfl) ?_
  refine lv_iload_n hx hb dX7_testRange_2 rfl (lv_at hl 2 rfl) ?_
  obtain ⟨r3, hc3, h⟩ := obn_h h
  refine pz_callS (As := [.int p0, .int p1, .int p2]) (rest := []) hcf (c_X7_isBetween l p0 p1 p2 r3 hc3) (va_cwS 3 hts gX7_testRange_X7_isBetween rfl rfl rfl ydX7_isBetween ⟨Nat.le_of_ble_eq_true rfl, Nat.le_of_ble_eq_true rfl⟩) hnw rfl hl.1 rfl (Nat.le_of_ble_eq_true rfl) dX7_testRange_3 ⟨Nat.le_of_ble_eq_true rfl, Nat.le_of_ble_eq_true rfl⟩ ?_
  refine lv_if_ne (tgt := 20) hx hb dX7_testRange_6 (by decide) (fun c6 => ?_) (fun c6 => ?_)
  · have h := if_ c6 h
    have e1 := Option.some.inj h
    subst e1
    have hP9 : va_P D vwCl [] s.heap := hP.sub [] rfl
    have hD9 : va_D A [] := hD.sub [] (by decide) rfl
    refine vx_ret ?_
    refine W.widen (k := 1) (n := 6) (Nat.le_of_ble_eq_true rfl) (Nat.le_of_ble_eq_true rfl) ?_
    exact W.vret hx hb hr (fun t ht hW => ⟨⟨(), rfl, rfl, wQA_of ht hP9 hD9⟩, hS.F ht⟩) hS.2.2 dX7_testRange_20
  · have h := it_ c6 h
    have e1 := Option.some.inj h
    subst e1
    have hP9 : va_P D vwCl [] s.heap := hP.sub [] rfl
    have hD9 : va_D A [] := hD.sub [] (by decide) rfl
    obtain ⟨sa9, hstr9⟩ := hE.2.2 _ (show (RX7, 308, "a number is out of its range") ∈ strL from by decide +kernel)
    exact vx_throwSW hx hb hfl hown (cls := "java/lang/IllegalArgumentException") (names := ["java/lang/RuntimeException", "java/lang/Exception"]) (by decide +kernel) (by decide +kernel) (hts (.classLink RX7 123 "java/lang/IllegalArgumentException") (by decide +kernel)) (hts (.initialized "java/lang/IllegalArgumentException") (by decide +kernel)) hstr9 (hat_2 (fun w hw => hts w (wsat_X7_testRange w hw)) hE.2.1) hgood_X7_testRange hE.1.1 hE.1.2 hS (hl.1.trans hml.symm) dX7_testRange_9 dX7_testRange_12 dX7_testRange_13 dX7_testRange_16 dX7_testRange_19 (fun x hx => (hxt x hx).elim) (Nat.le_of_ble_eq_true rfl) (Nat.le_of_ble_eq_true rfl) (Nat.le_of_ble_eq_true rfl) (Nat.le_of_ble_eq_true rfl) hlocks (fun t hW hz hk => ⟨(), by decide, ⟨rfl, wQA_kept hP9 hD9 hk⟩, va_F_kept hS hz hk⟩) hS.2.2 (Nat.le_of_ble_eq_true rfl) (Nat.le_of_ble_eq_true rfl)

noncomputable abbrev rmJ13_bitCount_95d88 : Room := { frames := 0, cells := 0, slots := 0, locals := 0 }
theorem ydJ13_bitCount_95d88 : yJ13_bitCount_95d88.cls ≠ "java/lang/invoke/MethodHandle" ∧ yJ13_bitCount_95d88.cls ≠ "java/lang/invoke/VarHandle" ∧ (parseMethodDescriptor yJ13_bitCount_95d88.desc).map (fun d => d.parameters.length) = some 1 := by decide +kernel
noncomputable def F_J13_bitCount_95d88 (p0 : Int64) : Option (Int32) :=
 bnd (p0 - (((p0.toUInt64 >>> ((1 : Int32).toInt64.toUInt64 &&& Int64.toUInt64 63)).toInt64) &&& (6148914691236517205 : Int64))) (fun x0_9 =>
 bnd ((x0_9 &&& (3689348814741910323 : Int64)) + (((x0_9.toUInt64 >>> ((2 : Int32).toInt64.toUInt64 &&& Int64.toUInt64 63)).toInt64) &&& (3689348814741910323 : Int64))) (fun x0_23 =>
 bnd ((x0_23 + ((x0_23.toUInt64 >>> ((4 : Int32).toInt64.toUInt64 &&& Int64.toUInt64 63)).toInt64)) &&& (1085102592571150095 : Int64)) (fun x0_33 =>
 bnd (x0_33 + ((x0_33.toUInt64 >>> ((8 : Int32).toInt64.toUInt64 &&& Int64.toUInt64 63)).toInt64)) (fun x0_40 =>
 bnd (x0_40 + ((x0_40.toUInt64 >>> ((16 : Int32).toInt64.toUInt64 &&& Int64.toUInt64 63)).toInt64)) (fun x0_47 =>
 bnd (x0_47 + ((x0_47.toUInt64 >>> ((32 : Int32).toInt64.toUInt64 &&& Int64.toUInt64 63)).toInt64)) (fun x0_54 =>
 some (x0_54.toInt32 &&& (127 : Int32))))))))
set_option maxHeartbeats 4000000 in
set_option maxRecDepth 100000 in
theorem c_J13_bitCount_95d88 (l : Launch) (p0 : Int64) (r0 : Int32) (hF : F_J13_bitCount_95d88 p0 = some r0) : Met l yJ13_bitCount_95d88 wsJ13_bitCount_95d88 rmJ13_bitCount_95d88 (va_Pc [.long p0] NW) (k2_QcV (.int r0)) 0 0 (fun _ => False) := by
  refine Met.ofW (cc := cJ13_bitCount_95d88) (maxL := 2) (ret := (some .int)) (by decide) rfl ?_
  intro p e s m args below meth c s₁ B hml hv
  obtain ⟨rfl, hnw⟩ := hv
  have hx := B.exec
  have hb := B.bytes
  have hr := B.returns
  have hts := atoms_spec (ws := wsJ13_bitCount_95d88) B.pre
  have hown : s.vm.findClass RJ13 = some m.cls := findClass_of_methodNamed B.named
  have hlocks := B.notSynchronized
  have hcf : CallFix _ _ _ _ _ _ _ _ _ := ⟨hx, hb, hml, hown, hts⟩
  have hl := lv_entry ([.long p0]) (n := 2) (Nat.le_of_ble_eq_true rfl)
  rw [lg_entry_eq]
  generalize (lg_sl ([.long p0]) ++ List.replicate (2 - (lg_sl ([.long p0])).length) Slot.unset).toArray = ls at hl ⊢
  have hl : lv_has ls 2 [(0, .long p0)] := hl
  have h := hF
  clear hF
  unfold F_J13_bitCount_95d88 at h
  refine lv_lload_n hx hb dJ13_bitCount_95d88_0 rfl (lv_at hl 0 rfl) ?_
  refine lv_lload_n hx hb dJ13_bitCount_95d88_1 rfl (lv_at hl 0 rfl) ?_
  refine lv_iconst (v := 1) hx hb dJ13_bitCount_95d88_2 (by decide) ?_
  refine lv_lushr (v := (p0.toUInt64 >>> ((1 : Int32).toInt64.toUInt64 &&& Int64.toUInt64 63)).toInt64) hx hb dJ13_bitCount_95d88_3 rfl ?_
  refine lv_ldc2 hx hb hown (hts (.constantLong RJ13 314 (6148914691236517205)) (by decide +kernel)) dJ13_bitCount_95d88_4 ?_
  refine lv_land hx hb dJ13_bitCount_95d88_7 ?_
  refine lv_lsub hx hb dJ13_bitCount_95d88_8 ?_
  refine lv_topl (fun x0_9 e_x0_9 => ?_)
  have h := bnd_h e_x0_9 h
  refine lv_lstore_n (lv' := [(0, .long x0_9)]) hx hb dJ13_bitCount_95d88_9 rfl hl (by decide) rfl (fun ls hl => ?_)
  refine lv_lload_n hx hb dJ13_bitCount_95d88_10 rfl (lv_at hl 0 rfl) ?_
  refine lv_ldc2 hx hb hown (hts (.constantLong RJ13 316 (3689348814741910323)) (by decide +kernel)) dJ13_bitCount_95d88_11 ?_
  refine lv_land hx hb dJ13_bitCount_95d88_14 ?_
  refine lv_lload_n hx hb dJ13_bitCount_95d88_15 rfl (lv_at hl 0 rfl) ?_
  refine lv_iconst (v := 2) hx hb dJ13_bitCount_95d88_16 (by decide) ?_
  refine lv_lushr (v := (x0_9.toUInt64 >>> ((2 : Int32).toInt64.toUInt64 &&& Int64.toUInt64 63)).toInt64) hx hb dJ13_bitCount_95d88_17 rfl ?_
  refine lv_ldc2 hx hb hown (hts (.constantLong RJ13 316 (3689348814741910323)) (by decide +kernel)) dJ13_bitCount_95d88_18 ?_
  refine lv_land hx hb dJ13_bitCount_95d88_21 ?_
  refine lv_ladd hx hb dJ13_bitCount_95d88_22 ?_
  refine lv_topl (fun x0_23 e_x0_23 => ?_)
  have h := bnd_h e_x0_23 h
  refine lv_lstore_n (lv' := [(0, .long x0_23)]) hx hb dJ13_bitCount_95d88_23 rfl hl (by decide) rfl (fun ls hl => ?_)
  refine lv_lload_n hx hb dJ13_bitCount_95d88_24 rfl (lv_at hl 0 rfl) ?_
  refine lv_lload_n hx hb dJ13_bitCount_95d88_25 rfl (lv_at hl 0 rfl) ?_
  refine lv_iconst (v := 4) hx hb dJ13_bitCount_95d88_26 (by decide) ?_
  refine lv_lushr (v := (x0_23.toUInt64 >>> ((4 : Int32).toInt64.toUInt64 &&& Int64.toUInt64 63)).toInt64) hx hb dJ13_bitCount_95d88_27 rfl ?_
  refine lv_ladd hx hb dJ13_bitCount_95d88_28 ?_
  refine lv_ldc2 hx hb hown (hts (.constantLong RJ13 318 (1085102592571150095)) (by decide +kernel)) dJ13_bitCount_95d88_29 ?_
  refine lv_land hx hb dJ13_bitCount_95d88_32 ?_
  refine lv_topl (fun x0_33 e_x0_33 => ?_)
  have h := bnd_h e_x0_33 h
  refine lv_lstore_n (lv' := [(0, .long x0_33)]) hx hb dJ13_bitCount_95d88_33 rfl hl (by decide) rfl (fun ls hl => ?_)
  refine lv_lload_n hx hb dJ13_bitCount_95d88_34 rfl (lv_at hl 0 rfl) ?_
  refine lv_lload_n hx hb dJ13_bitCount_95d88_35 rfl (lv_at hl 0 rfl) ?_
  refine lv_bipush (v := 8) hx hb dJ13_bitCount_95d88_36 (by decide) ?_
  refine lv_lushr (v := (x0_33.toUInt64 >>> ((8 : Int32).toInt64.toUInt64 &&& Int64.toUInt64 63)).toInt64) hx hb dJ13_bitCount_95d88_38 rfl ?_
  refine lv_ladd hx hb dJ13_bitCount_95d88_39 ?_
  refine lv_topl (fun x0_40 e_x0_40 => ?_)
  have h := bnd_h e_x0_40 h
  refine lv_lstore_n (lv' := [(0, .long x0_40)]) hx hb dJ13_bitCount_95d88_40 rfl hl (by decide) rfl (fun ls hl => ?_)
  refine lv_lload_n hx hb dJ13_bitCount_95d88_41 rfl (lv_at hl 0 rfl) ?_
  refine lv_lload_n hx hb dJ13_bitCount_95d88_42 rfl (lv_at hl 0 rfl) ?_
  refine lv_bipush (v := 16) hx hb dJ13_bitCount_95d88_43 (by decide) ?_
  refine lv_lushr (v := (x0_40.toUInt64 >>> ((16 : Int32).toInt64.toUInt64 &&& Int64.toUInt64 63)).toInt64) hx hb dJ13_bitCount_95d88_45 rfl ?_
  refine lv_ladd hx hb dJ13_bitCount_95d88_46 ?_
  refine lv_topl (fun x0_47 e_x0_47 => ?_)
  have h := bnd_h e_x0_47 h
  refine lv_lstore_n (lv' := [(0, .long x0_47)]) hx hb dJ13_bitCount_95d88_47 rfl hl (by decide) rfl (fun ls hl => ?_)
  refine lv_lload_n hx hb dJ13_bitCount_95d88_48 rfl (lv_at hl 0 rfl) ?_
  refine lv_lload_n hx hb dJ13_bitCount_95d88_49 rfl (lv_at hl 0 rfl) ?_
  refine lv_bipush (v := 32) hx hb dJ13_bitCount_95d88_50 (by decide) ?_
  refine lv_lushr (v := (x0_47.toUInt64 >>> ((32 : Int32).toInt64.toUInt64 &&& Int64.toUInt64 63)).toInt64) hx hb dJ13_bitCount_95d88_52 rfl ?_
  refine lv_ladd hx hb dJ13_bitCount_95d88_53 ?_
  refine lv_topl (fun x0_54 e_x0_54 => ?_)
  have h := bnd_h e_x0_54 h
  refine lv_lstore_n (lv' := [(0, .long x0_54)]) hx hb dJ13_bitCount_95d88_54 rfl hl (by decide) rfl (fun ls hl => ?_)
  refine lv_lload_n hx hb dJ13_bitCount_95d88_55 rfl (lv_at hl 0 rfl) ?_
  refine lv_l2i (v := x0_54.toInt32) hx hb dJ13_bitCount_95d88_56 rfl ?_
  refine lv_bipush (v := 127) hx hb dJ13_bitCount_95d88_57 (by decide) ?_
  refine lv_iand hx hb dJ13_bitCount_95d88_59 ?_
  have e1 := Option.some.inj h
  subst e1
  exact W.iret hx hb hr (fun t ht _ => ⟨rfl, ht⟩) no_q dJ13_bitCount_95d88_60

noncomputable abbrev rmX0_degreeOf : Room := { frames := 1, cells := 0, slots := 0, locals := 21 }
theorem ydX0_degreeOf : yX0_degreeOf.cls ≠ "java/lang/invoke/MethodHandle" ∧ yX0_degreeOf.cls ≠ "java/lang/invoke/VarHandle" ∧ (parseMethodDescriptor yX0_degreeOf.desc).map (fun d => d.parameters.length) = some 1 := by decide +kernel
noncomputable def F_X0_degreeOf (p0 : Int64) : Option (Int32) :=
 bnd (p0 ||| ((p0.toUInt64 >>> ((1 : Int32).toInt64.toUInt64 &&& Int64.toUInt64 63)).toInt64)) (fun x2_7 =>
 bnd (x2_7 ||| ((x2_7.toUInt64 >>> ((2 : Int32).toInt64.toUInt64 &&& Int64.toUInt64 63)).toInt64)) (fun x2_13 =>
 bnd (x2_13 ||| ((x2_13.toUInt64 >>> ((4 : Int32).toInt64.toUInt64 &&& Int64.toUInt64 63)).toInt64)) (fun x2_19 =>
 bnd (x2_19 ||| ((x2_19.toUInt64 >>> ((8 : Int32).toInt64.toUInt64 &&& Int64.toUInt64 63)).toInt64)) (fun x2_26 =>
 bnd (x2_26 ||| ((x2_26.toUInt64 >>> ((16 : Int32).toInt64.toUInt64 &&& Int64.toUInt64 63)).toInt64)) (fun x2_33 =>
 bnd (x2_33 ||| ((x2_33.toUInt64 >>> ((32 : Int32).toInt64.toUInt64 &&& Int64.toUInt64 63)).toInt64)) (fun x2_40 =>
 obn (F_J13_bitCount_95d88 x2_40) (fun r42 =>
 some (r42 - (1 : Int32)))))))))
set_option maxHeartbeats 4000000 in
set_option maxRecDepth 100000 in
theorem c_X0_degreeOf (l : Launch) (p0 : Int64) (r0 : Int32) (hF : F_X0_degreeOf p0 = some r0) : Met l yX0_degreeOf wsX0_degreeOf rmX0_degreeOf (va_Pc [.long p0] NW) (k2_QcV (.int r0)) 0 0 (fun _ => False) := by
  refine Met.ofW (cc := cX0_degreeOf) (maxL := 4) (ret := (some .int)) (by decide) rfl ?_
  intro p e s m args below meth c s₁ B hml hv
  obtain ⟨rfl, hnw⟩ := hv
  have hx := B.exec
  have hb := B.bytes
  have hr := B.returns
  have hts := atoms_spec (ws := wsX0_degreeOf) B.pre
  have hown : s.vm.findClass RX0 = some m.cls := findClass_of_methodNamed B.named
  have hlocks := B.notSynchronized
  have hcf : CallFix _ _ _ _ _ _ _ _ _ := ⟨hx, hb, hml, hown, hts⟩
  have hl := lv_entry ([.long p0]) (n := 4) (Nat.le_of_ble_eq_true rfl)
  rw [lg_entry_eq]
  generalize (lg_sl ([.long p0]) ++ List.replicate (4 - (lg_sl ([.long p0])).length) Slot.unset).toArray = ls at hl ⊢
  have hl : lv_has ls 4 [(0, .long p0)] := hl
  have h := hF
  clear hF
  unfold F_X0_degreeOf at h
  refine lv_lload_n hx hb dX0_degreeOf_0 rfl (lv_at hl 0 rfl) ?_
  refine lv_lstore_n (lv' := [(2, .long p0), (0, .long p0)]) hx hb dX0_degreeOf_1 rfl hl (by decide) rfl (fun ls hl => ?_)
  refine lv_lload_n hx hb dX0_degreeOf_2 rfl (lv_at hl 0 rfl) ?_
  refine lv_lload_n hx hb dX0_degreeOf_3 rfl (lv_at hl 0 rfl) ?_
  refine lv_iconst (v := 1) hx hb dX0_degreeOf_4 (by decide) ?_
  refine lv_lushr (v := (p0.toUInt64 >>> ((1 : Int32).toInt64.toUInt64 &&& Int64.toUInt64 63)).toInt64) hx hb dX0_degreeOf_5 rfl ?_
  refine lv_lor hx hb dX0_degreeOf_6 ?_
  refine lv_topl (fun x2_7 e_x2_7 => ?_)
  have h := bnd_h e_x2_7 h
  refine lv_lstore_n (lv' := [(2, .long x2_7), (0, .long p0)]) hx hb dX0_degreeOf_7 rfl hl (by decide) rfl (fun ls hl => ?_)
  refine lv_lload_n hx hb dX0_degreeOf_8 rfl (lv_at hl 0 rfl) ?_
  refine lv_lload_n hx hb dX0_degreeOf_9 rfl (lv_at hl 0 rfl) ?_
  refine lv_iconst (v := 2) hx hb dX0_degreeOf_10 (by decide) ?_
  refine lv_lushr (v := (x2_7.toUInt64 >>> ((2 : Int32).toInt64.toUInt64 &&& Int64.toUInt64 63)).toInt64) hx hb dX0_degreeOf_11 rfl ?_
  refine lv_lor hx hb dX0_degreeOf_12 ?_
  refine lv_topl (fun x2_13 e_x2_13 => ?_)
  have h := bnd_h e_x2_13 h
  refine lv_lstore_n (lv' := [(2, .long x2_13), (0, .long p0)]) hx hb dX0_degreeOf_13 rfl hl (by decide) rfl (fun ls hl => ?_)
  refine lv_lload_n hx hb dX0_degreeOf_14 rfl (lv_at hl 0 rfl) ?_
  refine lv_lload_n hx hb dX0_degreeOf_15 rfl (lv_at hl 0 rfl) ?_
  refine lv_iconst (v := 4) hx hb dX0_degreeOf_16 (by decide) ?_
  refine lv_lushr (v := (x2_13.toUInt64 >>> ((4 : Int32).toInt64.toUInt64 &&& Int64.toUInt64 63)).toInt64) hx hb dX0_degreeOf_17 rfl ?_
  refine lv_lor hx hb dX0_degreeOf_18 ?_
  refine lv_topl (fun x2_19 e_x2_19 => ?_)
  have h := bnd_h e_x2_19 h
  refine lv_lstore_n (lv' := [(2, .long x2_19), (0, .long p0)]) hx hb dX0_degreeOf_19 rfl hl (by decide) rfl (fun ls hl => ?_)
  refine lv_lload_n hx hb dX0_degreeOf_20 rfl (lv_at hl 0 rfl) ?_
  refine lv_lload_n hx hb dX0_degreeOf_21 rfl (lv_at hl 0 rfl) ?_
  refine lv_bipush (v := 8) hx hb dX0_degreeOf_22 (by decide) ?_
  refine lv_lushr (v := (x2_19.toUInt64 >>> ((8 : Int32).toInt64.toUInt64 &&& Int64.toUInt64 63)).toInt64) hx hb dX0_degreeOf_24 rfl ?_
  refine lv_lor hx hb dX0_degreeOf_25 ?_
  refine lv_topl (fun x2_26 e_x2_26 => ?_)
  have h := bnd_h e_x2_26 h
  refine lv_lstore_n (lv' := [(2, .long x2_26), (0, .long p0)]) hx hb dX0_degreeOf_26 rfl hl (by decide) rfl (fun ls hl => ?_)
  refine lv_lload_n hx hb dX0_degreeOf_27 rfl (lv_at hl 0 rfl) ?_
  refine lv_lload_n hx hb dX0_degreeOf_28 rfl (lv_at hl 0 rfl) ?_
  refine lv_bipush (v := 16) hx hb dX0_degreeOf_29 (by decide) ?_
  refine lv_lushr (v := (x2_26.toUInt64 >>> ((16 : Int32).toInt64.toUInt64 &&& Int64.toUInt64 63)).toInt64) hx hb dX0_degreeOf_31 rfl ?_
  refine lv_lor hx hb dX0_degreeOf_32 ?_
  refine lv_topl (fun x2_33 e_x2_33 => ?_)
  have h := bnd_h e_x2_33 h
  refine lv_lstore_n (lv' := [(2, .long x2_33), (0, .long p0)]) hx hb dX0_degreeOf_33 rfl hl (by decide) rfl (fun ls hl => ?_)
  refine lv_lload_n hx hb dX0_degreeOf_34 rfl (lv_at hl 0 rfl) ?_
  refine lv_lload_n hx hb dX0_degreeOf_35 rfl (lv_at hl 0 rfl) ?_
  refine lv_bipush (v := 32) hx hb dX0_degreeOf_36 (by decide) ?_
  refine lv_lushr (v := (x2_33.toUInt64 >>> ((32 : Int32).toInt64.toUInt64 &&& Int64.toUInt64 63)).toInt64) hx hb dX0_degreeOf_38 rfl ?_
  refine lv_lor hx hb dX0_degreeOf_39 ?_
  refine lv_topl (fun x2_40 e_x2_40 => ?_)
  have h := bnd_h e_x2_40 h
  refine lv_lstore_n (lv' := [(2, .long x2_40), (0, .long p0)]) hx hb dX0_degreeOf_40 rfl hl (by decide) rfl (fun ls hl => ?_)
  refine lv_lload_n hx hb dX0_degreeOf_41 rfl (lv_at hl 0 rfl) ?_
  obtain ⟨r42, hc42, h⟩ := obn_h h
  refine pz_callS (As := [.long x2_40]) (rest := []) hcf (c_J13_bitCount_95d88 l x2_40 r42 hc42) (va_cwS 1 hts gX0_degreeOf_J13_bitCount_95d88 rfl rfl rfl ydJ13_bitCount_95d88 ⟨Nat.le_of_ble_eq_true rfl, Nat.le_of_ble_eq_true rfl⟩) hnw rfl hl.1 rfl (Nat.le_of_ble_eq_true rfl) dX0_degreeOf_42 ⟨Nat.le_of_ble_eq_true rfl, Nat.le_of_ble_eq_true rfl⟩ ?_
  refine lv_iconst (v := 1) hx hb dX0_degreeOf_45 (by decide) ?_
  refine lv_isub hx hb dX0_degreeOf_46 ?_
  have e1 := Option.some.inj h
  subst e1
  exact W.iret hx hb hr (fun t ht _ => ⟨rfl, ht⟩) no_q dX0_degreeOf_47

noncomputable abbrev rmX7_done : Room := { frames := 0, cells := 0, slots := 0, locals := 0 }
theorem ydX7_done : yX7_done.cls = RX7 ∧ yX7_done.cls ≠ "java/lang/invoke/MethodHandle" ∧ yX7_done.cls ≠ "java/lang/invoke/VarHandle" ∧ (parseMethodDescriptor yX7_done.desc).map (fun d => d.parameters.length) = some 1 := by decide +kernel
noncomputable def F_X7_done (c_t_acts : Int32) (p0 : Int32) : Option (Int32 × Int32) :=
 bnd (c_t_acts + (1 : Int32)) (fun c_t_acts_7 =>
 some (p0, c_t_acts_7))
set_option maxHeartbeats 4000000 in
set_option maxRecDepth 100000 in
theorem c_X7_done (l : Launch) (D : va_G) (cyJ : ClassId) (sz : Nat) (a_t : Nat) (a_t_forms : Nat) (a_t_roll : Nat) (a_t_row : Nat) (a_t_rows : Nat) (a_t_factors : Nat) (a_t_found : Nat) (a_t_foundOtherwise : Nat) (c_t_acts : Int32) (c_t_refusals : Int32) (c_t_knocks : Int32) (p0 : Int32) (r0 : Int32) (o_c_t_acts : Int32) (hF : F_X7_done c_t_acts p0 = some (r0, o_c_t_acts)) : Met l yX7_done wsX7_done rmX7_done (va_Pc [.ref a_t, .int p0] (wPD D [(cyJ, .long)] [(a_t, .inr (6, [.ref a_t_forms, .ref a_t_roll, .ref a_t_row, .ref a_t_rows, .ref a_t_factors, .ref a_t_found, .ref a_t_foundOtherwise, .int c_t_acts, .int c_t_refusals, .int c_t_knocks]))] sz)) (va_Qi (fun (r : Int32) (_ : Unit) => r = r0) (fun _ t => wQA D [(a_t, .inr (6, [.ref a_t_forms, .ref a_t_roll, .ref a_t_row, .ref a_t_rows, .ref a_t_factors, .ref a_t_found, .ref a_t_foundOtherwise, .int o_c_t_acts, .int c_t_refusals, .int c_t_knocks]))] (va_A [(a_t, .inr (6, [.ref a_t_forms, .ref a_t_roll, .ref a_t_row, .ref a_t_rows, .ref a_t_factors, .ref a_t_found, .ref a_t_foundOtherwise, .int c_t_acts, .int c_t_refusals, .int c_t_knocks]))] sz) t) (va_A [(a_t, .inr (6, [.ref a_t_forms, .ref a_t_roll, .ref a_t_row, .ref a_t_rows, .ref a_t_factors, .ref a_t_found, .ref a_t_foundOtherwise, .int c_t_acts, .int c_t_refusals, .int c_t_knocks]))] sz)) 0 0 (va_A [(a_t, .inr (6, [.ref a_t_forms, .ref a_t_roll, .ref a_t_row, .ref a_t_rows, .ref a_t_factors, .ref a_t_found, .ref a_t_foundOtherwise, .int c_t_acts, .int c_t_refusals, .int c_t_knocks]))] sz) := by
  refine Met.ofW (cc := cX7_done) (maxL := 2) (ret := (some .int)) (by decide) rfl ?_
  intro p e s m args below meth c s₁ B hml hv
  obtain ⟨rfl, hsz, hP, hK, hD0, hnw⟩ := hv
  have hx := B.exec
  have hb := B.bytes
  have hr := B.returns
  have hts := atoms_spec (ws := wsX7_done) B.pre
  have hown : s.vm.findClass RX7 = some m.cls := findClass_of_methodNamed B.named
  have hlocks := B.notSynchronized
  have hcf : CallFix _ _ _ _ _ _ _ _ _ := ⟨hx, hb, hml, hown, hts⟩
  have hinX7 : ∀ w ∈ u_ws RX7 TX7 10, w ∈ wsX7_done := by decide +kernel
  have hfl47 := hts (.fieldLink RX7 47 "Formwheel" "acts" "I") (by decide +kernel)
  subst hsz
  have hD := hD0.self (sz := s.heap.size)
  generalize hAe : va_A [(a_t, .inr (6, [.ref a_t_forms, .ref a_t_roll, .ref a_t_row, .ref a_t_rows, .ref a_t_factors, .ref a_t_found, .ref a_t_foundOtherwise, .int c_t_acts, .int c_t_refusals, .int c_t_knocks]))] s.heap.size = A at hD ⊢
  have hA : ∀ q : Nat, s.heap.size ≤ q → A q := fun q h => by rw [← hAe]; exact Or.inr h
  have hS : va_S A s.heap s.heap [] := va_S.rf
  have hP : va_P D vwCl [(a_t, .inr (6, [.ref a_t_forms, .ref a_t_roll, .ref a_t_row, .ref a_t_rows, .ref a_t_factors, .ref a_t_found, .ref a_t_foundOtherwise, .int c_t_acts, .int c_t_refusals, .int c_t_knocks]))] s.heap := hP
  have hK0 := hK
  have hl := lv_entry ([.ref a_t, .int p0]) (n := 2) (Nat.le_of_ble_eq_true rfl)
  rw [lg_entry_eq]
  generalize (lg_sl ([.ref a_t, .int p0]) ++ List.replicate (2 - (lg_sl ([.ref a_t, .int p0])).length) Slot.unset).toArray = ls at hl ⊢
  have hl : lv_has ls 2 [(0, .ref a_t), (1, .int p0)] := hl
  have h := hF
  clear hF
  unfold F_X7_done at h
  refine lv_aload_n hx hb dX7_done_0 rfl (lv_at hl 0 rfl) ?_
  refine lv_dup hx hb dX7_done_1 rfl ?_
  refine va_get (D := D) (ci := 6) (v := .int c_t_acts) (C := RX7) (T := TX7) (N := 10) hx hb hts hinX7 hown hK hP 0 rfl rfl 7 (by decide) hfl47 (fun _ h9 => h9) rfl dX7_done_2 ?_
  refine lv_iconst (v := 1) hx hb dX7_done_5 (by decide) ?_
  refine lv_iadd hx hb dX7_done_6 ?_
  refine lv_topi (fun c_t_acts_7 e_c_t_acts_7 => ?_)
  have h := bnd_h e_c_t_acts_7 h
  refine va_put (D := D) (ci := 6) (v := .int c_t_acts_7) (ty := .int) (C := RX7) (T := TX7) (N := 10) hx hb hts hinX7 tyX7 tyX7_ok nmX7 hown hK hP hD hS 0 rfl rfl 7 (by decide) hfl47 (fun _ h9 => h9) rfl (by decide +kernel) rfl rfl (Nat.le_of_ble_eq_true rfl) dX7_done_7 (fun H locs hP hD hS => ?_)
  have hP : va_P D vwCl [(a_t, .inr (6, [.ref a_t_forms, .ref a_t_roll, .ref a_t_row, .ref a_t_rows, .ref a_t_factors, .ref a_t_found, .ref a_t_foundOtherwise, .int c_t_acts_7, .int c_t_refusals, .int c_t_knocks]))] H := hP
  have hD : va_D A [(a_t, .inr (6, [.ref a_t_forms, .ref a_t_roll, .ref a_t_row, .ref a_t_rows, .ref a_t_factors, .ref a_t_found, .ref a_t_foundOtherwise, .int c_t_acts_7, .int c_t_refusals, .int c_t_knocks]))] := hD
  refine lv_iload_n hx hb dX7_done_10 rfl (lv_at hl 1 rfl) ?_
  obtain ⟨e0, e1⟩ := tup2 h
  subst e0
  subst e1
  have hP9 : va_P D vwCl [(a_t, .inr (6, [.ref a_t_forms, .ref a_t_roll, .ref a_t_row, .ref a_t_rows, .ref a_t_factors, .ref a_t_found, .ref a_t_foundOtherwise, .int c_t_acts_7, .int c_t_refusals, .int c_t_knocks]))] H := hP.sub [0] rfl
  have hD9 : va_D A [(a_t, .inr (6, [.ref a_t_forms, .ref a_t_roll, .ref a_t_row, .ref a_t_rows, .ref a_t_factors, .ref a_t_found, .ref a_t_foundOtherwise, .int c_t_acts_7, .int c_t_refusals, .int c_t_knocks]))] := hD.sub [0] (by decide) rfl
  exact W.iret hx hb hr (fun t ht hW => ⟨⟨_, (), rfl, rfl, wQA_of ht hP9 hD9⟩, hS.F ht⟩) hS.2.2 dX7_done_11

noncomputable abbrev rmX7_set : Room := { frames := 9, cells := 2, slots := 12, locals := 122 }
theorem ydX7_set : yX7_set.cls = RX7 ∧ yX7_set.cls ≠ "java/lang/invoke/MethodHandle" ∧ yX7_set.cls ≠ "java/lang/invoke/VarHandle" ∧ (parseMethodDescriptor yX7_set.desc).map (fun d => d.parameters.length) = some 2 := by decide +kernel
noncomputable def F_X7_set (c_t_acts : Int32) (f_t_forms : Nat → Int64) (p0 : Int32) (p1 : Int32) : Option (Nat × Int32 × Int32 × (Nat → Int64)) :=
 obn (F_X7_testForm p0) (fun xc1 =>
 if xc1 = 0 then
 obn (F_X7_testRange p1 (0 : Int32) (2147483647 : Int32)) (fun xc8 =>
 if xc8 = 0 then
 chk (¬ (p0 < 0 ∨ 6 ≤ p0.toNatClampNeg)) (
 obn (F_X0_degreeOf (f_t_forms p0.toNatClampNeg)) (fun r17 =>
 chk (¬ (p0 < 0 ∨ 6 ≤ p0.toNatClampNeg)) (
 bnd (vp_updL f_t_forms p0.toNatClampNeg p1.toInt64) (fun f_t_forms_28 =>
 obn2 (F_X7_done c_t_acts r17) (fun r31 c_t_acts_31 =>
 some (0, r31, c_t_acts_31, f_t_forms_28))))))
else
 some (xc8, 0, c_t_acts, f_t_forms))
else
 some (xc1, 0, c_t_acts, f_t_forms))
set_option maxHeartbeats 4000000 in
set_option maxRecDepth 100000 in
theorem c_X7_set (l : Launch) (hfl : l.stackTraces = false) (D : va_G) (cyJ : ClassId) (sz : Nat) (a_t : Nat) (a_t_forms : Nat) (a_t_roll : Nat) (a_t_row : Nat) (a_t_rows : Nat) (a_t_factors : Nat) (a_t_found : Nat) (a_t_foundOtherwise : Nat) (c_t_acts : Int32) (c_t_refusals : Int32) (c_t_knocks : Int32) (f_t_forms : Nat → Int64) (p0 : Int32) (p1 : Int32) (xc : Nat) (r0 : Int32) (o_c_t_acts : Int32) (o_f_t_forms : Nat → Int64) (hF : F_X7_set c_t_acts f_t_forms p0 p1 = some (xc, r0, o_c_t_acts, o_f_t_forms)) : vx_Met l yX7_set wsX7_set rmX7_set (va_Pc [.ref a_t, .int p0, .int p1] (wPX D [(cyJ, .long)] [(a_t, .inr (6, [.ref a_t_forms, .ref a_t_roll, .ref a_t_row, .ref a_t_rows, .ref a_t_factors, .ref a_t_found, .ref a_t_foundOtherwise, .int c_t_acts, .int c_t_refusals, .int c_t_knocks])), (a_t_forms, .inl (cyJ, 6, .inr (.inl f_t_forms)))] sz)) (va_Qi (fun (r : Int32) (_ : Unit) => xc = 0 ∧ r = r0) (fun _ t => wQA D [(a_t, .inr (6, [.ref a_t_forms, .ref a_t_roll, .ref a_t_row, .ref a_t_rows, .ref a_t_factors, .ref a_t_found, .ref a_t_foundOtherwise, .int o_c_t_acts, .int c_t_refusals, .int c_t_knocks])), (a_t_forms, .inl (cyJ, 6, .inr (.inl o_f_t_forms)))] (va_A [(a_t, .inr (6, [.ref a_t_forms, .ref a_t_roll, .ref a_t_row, .ref a_t_rows, .ref a_t_factors, .ref a_t_found, .ref a_t_foundOtherwise, .int c_t_acts, .int c_t_refusals, .int c_t_knocks])), (a_t_forms, .inl (cyJ, 6, .inr (.inl f_t_forms)))] sz) t) (va_A [(a_t, .inr (6, [.ref a_t_forms, .ref a_t_roll, .ref a_t_row, .ref a_t_rows, .ref a_t_factors, .ref a_t_found, .ref a_t_foundOtherwise, .int c_t_acts, .int c_t_refusals, .int c_t_knocks])), (a_t_forms, .inl (cyJ, 6, .inr (.inl f_t_forms)))] sz)) (vx_X (fun (_ : Unit) => ¬ xc = 0) (fun E _ t => E = xcls xc ∧ wQA D [(a_t, .inr (6, [.ref a_t_forms, .ref a_t_roll, .ref a_t_row, .ref a_t_rows, .ref a_t_factors, .ref a_t_found, .ref a_t_foundOtherwise, .int o_c_t_acts, .int c_t_refusals, .int c_t_knocks])), (a_t_forms, .inl (cyJ, 6, .inr (.inl o_f_t_forms)))] (va_A [(a_t, .inr (6, [.ref a_t_forms, .ref a_t_roll, .ref a_t_row, .ref a_t_rows, .ref a_t_factors, .ref a_t_found, .ref a_t_foundOtherwise, .int c_t_acts, .int c_t_refusals, .int c_t_knocks])), (a_t_forms, .inl (cyJ, 6, .inr (.inl f_t_forms)))] sz) t) (va_A [(a_t, .inr (6, [.ref a_t_forms, .ref a_t_roll, .ref a_t_row, .ref a_t_rows, .ref a_t_factors, .ref a_t_found, .ref a_t_foundOtherwise, .int c_t_acts, .int c_t_refusals, .int c_t_knocks])), (a_t_forms, .inl (cyJ, 6, .inr (.inl f_t_forms)))] sz)) 2 12 (va_A [(a_t, .inr (6, [.ref a_t_forms, .ref a_t_roll, .ref a_t_row, .ref a_t_rows, .ref a_t_factors, .ref a_t_found, .ref a_t_foundOtherwise, .int c_t_acts, .int c_t_refusals, .int c_t_knocks])), (a_t_forms, .inl (cyJ, 6, .inr (.inl f_t_forms)))] sz) := by
  refine vx_ofW (cc := cX7_set) (maxL := 4) (ret := (some .int)) (by decide) rfl ?_
  intro p e s m args below meth c s₁ B hml hxt hv
  obtain ⟨rfl, ⟨⟨hsz, hP, hK, hD0, hnw⟩, hE⟩⟩ := hv
  have hx := B.exec
  have hb := B.bytes
  have hr := B.returns
  have hts := atoms_spec (ws := wsX7_set) B.pre
  have hown : s.vm.findClass RX7 = some m.cls := findClass_of_methodNamed B.named
  have hlocks := B.notSynchronized
  have hcf : CallFix _ _ _ _ _ _ _ _ _ := ⟨hx, hb, hml, hown, hts⟩
  have hinX7 : ∀ w ∈ u_ws RX7 TX7 10, w ∈ wsX7_set := by decide +kernel
  have hfl9 := hts (.fieldLink RX7 9 "Formwheel" "forms" "[J") (by decide +kernel)
  subst hsz
  have hD := hD0.self (sz := s.heap.size)
  generalize hAe : va_A [(a_t, .inr (6, [.ref a_t_forms, .ref a_t_roll, .ref a_t_row, .ref a_t_rows, .ref a_t_factors, .ref a_t_found, .ref a_t_foundOtherwise, .int c_t_acts, .int c_t_refusals, .int c_t_knocks])), (a_t_forms, .inl (cyJ, 6, .inr (.inl f_t_forms)))] s.heap.size = A at hD hE ⊢
  have hA : ∀ q : Nat, s.heap.size ≤ q → A q := fun q h => by rw [← hAe]; exact Or.inr h
  have hS : va_S A s.heap s.heap [] := va_S.rf
  have hP : va_P D vwCl [(a_t, .inr (6, [.ref a_t_forms, .ref a_t_roll, .ref a_t_row, .ref a_t_rows, .ref a_t_factors, .ref a_t_found, .ref a_t_foundOtherwise, .int c_t_acts, .int c_t_refusals, .int c_t_knocks])), (a_t_forms, .inl (cyJ, 6, .inr (.inl f_t_forms)))] s.heap := hP
  have hK0 := hK
  have hl := lv_entry ([.ref a_t, .int p0, .int p1]) (n := 4) (Nat.le_of_ble_eq_true rfl)
  rw [lg_entry_eq]
  generalize (lg_sl ([.ref a_t, .int p0, .int p1]) ++ List.replicate (4 - (lg_sl ([.ref a_t, .int p0, .int p1])).length) Slot.unset).toArray = ls at hl ⊢
  have hl : lv_has ls 4 [(0, .ref a_t), (1, .int p0), (2, .int p1)] := hl
  have h := hF
  clear hF
  unfold F_X7_set at h
  refine lv_iload_n hx hb dX7_set_0 rfl (lv_at hl 1 rfl) ?_
  obtain ⟨xc1, hc1, h⟩ := obn_h h
  have hPc := hP.sub (ws' := []) [] rfl
  have hDc := hD.sub (ws' := []) [] (by decide) rfl
  refine hx_v (w1 := []) (wr := [(a_t, .inr (6, [.ref a_t_forms, .ref a_t_roll, .ref a_t_row, .ref a_t_rows, .ref a_t_factors, .ref a_t_found, .ref a_t_foundOtherwise, .int c_t_acts, .int c_t_refusals, .int c_t_knocks])), (a_t_forms, .inl (cyJ, 6, .inr (.inl f_t_forms)))]) (vx_runS (As := [.int p0]) (rest := []) hcf (c_X7_testForm l hfl D cyJ s.heap.size p0 xc1 hc1) (va_cwS 1 hts gX7_set_X7_testForm rfl rfl rfl ydX7_testForm ⟨Nat.le_of_ble_eq_true rfl, Nat.le_of_ble_eq_true rfl⟩) ⟨bl_PX, pr_PX hPc hK0 hDc hnw hE hS (va_free hD hS hA [] rfl)⟩ rfl rfl hl.1 rfl (lv_room (Nat.le_of_ble_eq_true rfl)) dX7_set_1 ⟨Nat.le_of_ble_eq_true rfl, Nat.le_of_ble_eq_true rfl⟩) hP hD hS hA [] [0, 1] rfl rfl (by decide) (by decide) (fun E9 ce9 q9 H locs hx9 hE9 hP hD hS hce9 hcv9 hcl9 => ?_) (fun hx9 H locs hP hD hS => ?_)
  · have h := if_ hx9 h
    have hP : va_P D vwCl [(a_t, .inr (6, [.ref a_t_forms, .ref a_t_roll, .ref a_t_row, .ref a_t_rows, .ref a_t_factors, .ref a_t_found, .ref a_t_foundOtherwise, .int c_t_acts, .int c_t_refusals, .int c_t_knocks])), (a_t_forms, .inl (cyJ, 6, .inr (.inl f_t_forms)))] H := hP
    have hD : va_D A [(a_t, .inr (6, [.ref a_t_forms, .ref a_t_roll, .ref a_t_row, .ref a_t_rows, .ref a_t_factors, .ref a_t_found, .ref a_t_foundOtherwise, .int c_t_acts, .int c_t_refusals, .int c_t_knocks])), (a_t_forms, .inl (cyJ, 6, .inr (.inl f_t_forms)))] := hD
    obtain ⟨e0, e1, e2, e3⟩ := tup4 h
    subst e0
    subst e1
    subst e2
    subst e3
    have hP9 : va_P D vwCl [(a_t, .inr (6, [.ref a_t_forms, .ref a_t_roll, .ref a_t_row, .ref a_t_rows, .ref a_t_factors, .ref a_t_found, .ref a_t_foundOtherwise, .int c_t_acts, .int c_t_refusals, .int c_t_knocks])), (a_t_forms, .inl (cyJ, 6, .inr (.inl f_t_forms)))] H := hP.sub [0, 1] rfl
    have hD9 : va_D A [(a_t, .inr (6, [.ref a_t_forms, .ref a_t_roll, .ref a_t_row, .ref a_t_rows, .ref a_t_factors, .ref a_t_found, .ref a_t_foundOtherwise, .int c_t_acts, .int c_t_refusals, .int c_t_knocks])), (a_t_forms, .inl (cyJ, 6, .inr (.inl f_t_forms)))] := hD.sub [0, 1] (by decide) rfl
    exact vx_out (fun x hx => (hxt x hx).elim) hlocks hce9 hcv9 hcl9 (fun t ht hW => ⟨(), hx9, ⟨hE9, wQA_of ht hP9 hD9⟩, hS.F ht⟩) hS.2.2 (Nat.le_of_ble_eq_true rfl) (Nat.le_of_ble_eq_true rfl)
  · have h := it_ hx9 h
    have hP : va_P D vwCl [(a_t, .inr (6, [.ref a_t_forms, .ref a_t_roll, .ref a_t_row, .ref a_t_rows, .ref a_t_factors, .ref a_t_found, .ref a_t_foundOtherwise, .int c_t_acts, .int c_t_refusals, .int c_t_knocks])), (a_t_forms, .inl (cyJ, 6, .inr (.inl f_t_forms)))] H := hP
    have hD : va_D A [(a_t, .inr (6, [.ref a_t_forms, .ref a_t_roll, .ref a_t_row, .ref a_t_rows, .ref a_t_factors, .ref a_t_found, .ref a_t_foundOtherwise, .int c_t_acts, .int c_t_refusals, .int c_t_knocks])), (a_t_forms, .inl (cyJ, 6, .inr (.inl f_t_forms)))] := hD
    refine lv_iload_n hx hb dX7_set_4 rfl (lv_at hl 2 rfl) ?_
    refine lv_iconst (v := 0) hx hb dX7_set_5 (by decide) ?_
    refine lv_ldc hx hb hown (hts (.constant RX7 61 (2147483647)) (by decide +kernel)) dX7_set_6 ?_
    obtain ⟨xc8, hc8, h⟩ := obn_h h
    have hPc := hP.sub (ws' := []) [] rfl
    have hDc := hD.sub (ws' := []) [] (by decide) rfl
    refine hx_v (w1 := []) (wr := [(a_t, .inr (6, [.ref a_t_forms, .ref a_t_roll, .ref a_t_row, .ref a_t_rows, .ref a_t_factors, .ref a_t_found, .ref a_t_foundOtherwise, .int c_t_acts, .int c_t_refusals, .int c_t_knocks])), (a_t_forms, .inl (cyJ, 6, .inr (.inl f_t_forms)))]) (vx_runS (As := [.int p1, .int (0 : Int32), .int (2147483647 : Int32)]) (rest := []) hcf (c_X7_testRange l hfl D cyJ H.size p1 (0 : Int32) (2147483647 : Int32) xc8 hc8) (va_cwS 3 hts gX7_set_X7_testRange rfl rfl rfl ydX7_testRange ⟨Nat.le_of_ble_eq_true rfl, Nat.le_of_ble_eq_true rfl⟩) ⟨bl_PX, pr_PX hPc hK0 hDc hnw hE hS (va_free hD hS hA [] rfl)⟩ rfl rfl hl.1 rfl (lv_room (Nat.le_of_ble_eq_true rfl)) dX7_set_8 ⟨Nat.le_of_ble_eq_true rfl, Nat.le_of_ble_eq_true rfl⟩) hP hD hS hA [] [0, 1] rfl rfl (by decide) (by decide) (fun E9 ce9 q9 H locs hx9 hE9 hP hD hS hce9 hcv9 hcl9 => ?_) (fun hx9 H locs hP hD hS => ?_)
    · have h := if_ hx9 h
      have hP : va_P D vwCl [(a_t, .inr (6, [.ref a_t_forms, .ref a_t_roll, .ref a_t_row, .ref a_t_rows, .ref a_t_factors, .ref a_t_found, .ref a_t_foundOtherwise, .int c_t_acts, .int c_t_refusals, .int c_t_knocks])), (a_t_forms, .inl (cyJ, 6, .inr (.inl f_t_forms)))] H := hP
      have hD : va_D A [(a_t, .inr (6, [.ref a_t_forms, .ref a_t_roll, .ref a_t_row, .ref a_t_rows, .ref a_t_factors, .ref a_t_found, .ref a_t_foundOtherwise, .int c_t_acts, .int c_t_refusals, .int c_t_knocks])), (a_t_forms, .inl (cyJ, 6, .inr (.inl f_t_forms)))] := hD
      obtain ⟨e0, e1, e2, e3⟩ := tup4 h
      subst e0
      subst e1
      subst e2
      subst e3
      have hP9 : va_P D vwCl [(a_t, .inr (6, [.ref a_t_forms, .ref a_t_roll, .ref a_t_row, .ref a_t_rows, .ref a_t_factors, .ref a_t_found, .ref a_t_foundOtherwise, .int c_t_acts, .int c_t_refusals, .int c_t_knocks])), (a_t_forms, .inl (cyJ, 6, .inr (.inl f_t_forms)))] H := hP.sub [0, 1] rfl
      have hD9 : va_D A [(a_t, .inr (6, [.ref a_t_forms, .ref a_t_roll, .ref a_t_row, .ref a_t_rows, .ref a_t_factors, .ref a_t_found, .ref a_t_foundOtherwise, .int c_t_acts, .int c_t_refusals, .int c_t_knocks])), (a_t_forms, .inl (cyJ, 6, .inr (.inl f_t_forms)))] := hD.sub [0, 1] (by decide) rfl
      exact vx_out (fun x hx => (hxt x hx).elim) hlocks hce9 hcv9 hcl9 (fun t ht hW => ⟨(), hx9, ⟨hE9, wQA_of ht hP9 hD9⟩, hS.F ht⟩) hS.2.2 (Nat.le_of_ble_eq_true rfl) (Nat.le_of_ble_eq_true rfl)
    · have h := it_ hx9 h
      have hP : va_P D vwCl [(a_t, .inr (6, [.ref a_t_forms, .ref a_t_roll, .ref a_t_row, .ref a_t_rows, .ref a_t_factors, .ref a_t_found, .ref a_t_foundOtherwise, .int c_t_acts, .int c_t_refusals, .int c_t_knocks])), (a_t_forms, .inl (cyJ, 6, .inr (.inl f_t_forms)))] H := hP
      have hD : va_D A [(a_t, .inr (6, [.ref a_t_forms, .ref a_t_roll, .ref a_t_row, .ref a_t_rows, .ref a_t_factors, .ref a_t_found, .ref a_t_foundOtherwise, .int c_t_acts, .int c_t_refusals, .int c_t_knocks])), (a_t_forms, .inl (cyJ, 6, .inr (.inl f_t_forms)))] := hD
      refine lv_aload_n hx hb dX7_set_11 rfl (lv_at hl 0 rfl) ?_
      refine va_get (D := D) (ci := 6) (v := .ref a_t_forms) (C := RX7) (T := TX7) (N := 10) hx hb hts hinX7 hown hK hP 0 rfl rfl 0 (by decide) hfl9 (fun _ h9 => h9) rfl dX7_set_12 ?_
      refine lv_iload_n hx hb dX7_set_15 rfl (lv_at hl 1 rfl) ?_
      obtain ⟨hq16, h⟩ := chk_h h
      refine va_lald hx hb hK hP 1 0 rfl rfl hq16 dX7_set_16 ?_
      obtain ⟨r17, hc17, h⟩ := obn_h h
      refine pz_callS (As := [.long (f_t_forms p0.toNatClampNeg)]) (rest := []) hcf (c_X0_degreeOf l (f_t_forms p0.toNatClampNeg) r17 hc17) (va_cwS 1 hts gX7_set_X0_degreeOf rfl rfl rfl ydX0_degreeOf ⟨Nat.le_of_ble_eq_true rfl, Nat.le_of_ble_eq_true rfl⟩) hnw rfl hl.1 rfl (Nat.le_of_ble_eq_true rfl) dX7_set_17 ⟨Nat.le_of_ble_eq_true rfl, Nat.le_of_ble_eq_true rfl⟩ ?_
      refine lv_istore_n (lv' := [(3, .int r17), (0, .ref a_t), (1, .int p0), (2, .int p1)]) hx hb dX7_set_20 rfl hl (by decide) rfl (fun ls hl => ?_)
      refine lv_aload_n hx hb dX7_set_21 rfl (lv_at hl 1 rfl) ?_
      refine va_get (D := D) (ci := 6) (v := .ref a_t_forms) (C := RX7) (T := TX7) (N := 10) hx hb hts hinX7 hown hK hP 0 rfl rfl 0 (by decide) hfl9 (fun _ h9 => h9) rfl dX7_set_22 ?_
      refine lv_iload_n hx hb dX7_set_25 rfl (lv_at hl 2 rfl) ?_
      refine lv_iload_n hx hb dX7_set_26 rfl (lv_at hl 3 rfl) ?_
      refine lv_i2l (v := p1.toInt64) hx hb dX7_set_27 rfl ?_
      obtain ⟨hq28, h⟩ := chk_h h
      refine va_last hx hb hK hP hD hS 1 0 rfl rfl hq28 dX7_set_28 (fun H locs hP hD hS => ?_)
      obtain ⟨f_t_forms_28, e_f_t_forms_28⟩ : ∃ z, z = vp_updL f_t_forms p0.toNatClampNeg p1.toInt64 := ⟨_, rfl⟩
      have h := bnd_h e_f_t_forms_28 h
      have hP : va_P D vwCl [(a_t, .inr (6, [.ref a_t_forms, .ref a_t_roll, .ref a_t_row, .ref a_t_rows, .ref a_t_factors, .ref a_t_found, .ref a_t_foundOtherwise, .int c_t_acts, .int c_t_refusals, .int c_t_knocks])), (a_t_forms, .inl (cyJ, 6, .inr (.inl f_t_forms_28)))] H := by rw [e_f_t_forms_28]; exact hP
      have hD : va_D A [(a_t, .inr (6, [.ref a_t_forms, .ref a_t_roll, .ref a_t_row, .ref a_t_rows, .ref a_t_factors, .ref a_t_found, .ref a_t_foundOtherwise, .int c_t_acts, .int c_t_refusals, .int c_t_knocks])), (a_t_forms, .inl (cyJ, 6, .inr (.inl f_t_forms_28)))] := by rw [e_f_t_forms_28]; exact hD
      refine lv_aload_n hx hb dX7_set_29 rfl (lv_at hl 1 rfl) ?_
      refine lv_iload_n hx hb dX7_set_30 rfl (lv_at hl 0 rfl) ?_
      obtain ⟨r31, c_t_acts_31, hc31, h⟩ := obn2_h h
      have hPc := hP.sub (ws' := [(a_t, .inr (6, [.ref a_t_forms, .ref a_t_roll, .ref a_t_row, .ref a_t_rows, .ref a_t_factors, .ref a_t_found, .ref a_t_foundOtherwise, .int c_t_acts, .int c_t_refusals, .int c_t_knocks]))]) [0] rfl
      have hDc := hD.sub (ws' := [(a_t, .inr (6, [.ref a_t_forms, .ref a_t_roll, .ref a_t_row, .ref a_t_rows, .ref a_t_factors, .ref a_t_found, .ref a_t_foundOtherwise, .int c_t_acts, .int c_t_refusals, .int c_t_knocks]))]) [0] (by decide) rfl
      refine hp_i (w1 := [(a_t, .inr (6, [.ref a_t_forms, .ref a_t_roll, .ref a_t_row, .ref a_t_rows, .ref a_t_factors, .ref a_t_found, .ref a_t_foundOtherwise, .int c_t_acts_31, .int c_t_refusals, .int c_t_knocks]))]) (wr := [(a_t_forms, .inl (cyJ, 6, .inr (.inl f_t_forms_28)))]) (va_runV (As := [.int r17]) (rest := []) hcf (c_X7_done l D cyJ H.size a_t a_t_forms a_t_roll a_t_row a_t_rows a_t_factors a_t_found a_t_foundOtherwise c_t_acts c_t_refusals c_t_knocks r17 r31 c_t_acts_31 hc31) (cwV 1 hts gX7_set_X7_done rfl rfl rfl ydX7_done ⟨Nat.le_of_ble_eq_true rfl, Nat.le_of_ble_eq_true rfl⟩) ⟨bl_PD, va_recv hK hP (ci := 6) (q0 := 0) rfl rfl, pr_PD hPc hK0 hDc hnw⟩ rfl rfl hl.1 rfl (lv_room (Nat.le_of_ble_eq_true rfl)) dX7_set_31 ⟨Nat.le_of_ble_eq_true rfl, Nat.le_of_ble_eq_true rfl⟩) hP hD hS hA [0] [1] rfl rfl (by decide) (by decide) (fun H locs hP hD hS => ?_)
      have hP : va_P D vwCl [(a_t_forms, .inl (cyJ, 6, .inr (.inl f_t_forms_28))), (a_t, .inr (6, [.ref a_t_forms, .ref a_t_roll, .ref a_t_row, .ref a_t_rows, .ref a_t_factors, .ref a_t_found, .ref a_t_foundOtherwise, .int c_t_acts_31, .int c_t_refusals, .int c_t_knocks]))] H := hP
      have hD : va_D A [(a_t_forms, .inl (cyJ, 6, .inr (.inl f_t_forms_28))), (a_t, .inr (6, [.ref a_t_forms, .ref a_t_roll, .ref a_t_row, .ref a_t_rows, .ref a_t_factors, .ref a_t_found, .ref a_t_foundOtherwise, .int c_t_acts_31, .int c_t_refusals, .int c_t_knocks]))] := hD
      obtain ⟨e0, e1, e2, e3⟩ := tup4 h
      subst e0
      subst e1
      subst e2
      subst e3
      have hP9 : va_P D vwCl [(a_t, .inr (6, [.ref a_t_forms, .ref a_t_roll, .ref a_t_row, .ref a_t_rows, .ref a_t_factors, .ref a_t_found, .ref a_t_foundOtherwise, .int c_t_acts_31, .int c_t_refusals, .int c_t_knocks])), (a_t_forms, .inl (cyJ, 6, .inr (.inl f_t_forms_28)))] H := hP.sub [1, 0] rfl
      have hD9 : va_D A [(a_t, .inr (6, [.ref a_t_forms, .ref a_t_roll, .ref a_t_row, .ref a_t_rows, .ref a_t_factors, .ref a_t_found, .ref a_t_foundOtherwise, .int c_t_acts_31, .int c_t_refusals, .int c_t_knocks])), (a_t_forms, .inl (cyJ, 6, .inr (.inl f_t_forms_28)))] := hD.sub [1, 0] (by decide) rfl
      refine vx_ret ?_
      exact W.iret hx hb hr (fun t ht hW => ⟨⟨_, (), rfl, ⟨rfl, rfl⟩, wQA_of ht hP9 hD9⟩, hS.F ht⟩) hS.2.2 dX7_set_34

noncomputable abbrev rmX7_testPlace : Room := { frames := 8, cells := 1, slots := 6, locals := 100 }
theorem ydX7_testPlace : yX7_testPlace.cls ≠ "java/lang/invoke/MethodHandle" ∧ yX7_testPlace.cls ≠ "java/lang/invoke/VarHandle" ∧ (parseMethodDescriptor yX7_testPlace.desc).map (fun d => d.parameters.length) = some 1 := by decide +kernel
noncomputable def F_X7_testPlace (p0 : Int32) : Option (Nat) :=
 obn (F_X7_isBetween p0 (0 : Int32) (39 : Int32)) (fun r4 =>
 (if r4 = 0 then
 some 1
else
 some 0))
theorem wsat_X7_testPlace : ∀ w ∈ (vx_atS RX7 303 "java/lang/IndexOutOfBoundsException" ["java/lang/RuntimeException", "java/lang/Exception"]).filter goodWord, w ∈ wsX7_testPlace := fun w h => List.mem_cons_of_mem _ (by first | exact List.mem_append_right _ h | exact List.mem_append_left _ (List.mem_append_right _ h) | exact List.mem_append_left _ (List.mem_append_left _ (List.mem_append_right _ h)))
theorem hgood_X7_testPlace : ∀ w ∈ Cond.classLink RX7 299 "java/lang/IndexOutOfBoundsException" :: Cond.initialized "java/lang/IndexOutOfBoundsException" :: vx_atS RX7 303 "java/lang/IndexOutOfBoundsException" ["java/lang/RuntimeException", "java/lang/Exception"], vx_ot w = true := by decide +kernel
set_option maxHeartbeats 4000000 in
set_option maxRecDepth 100000 in
theorem c_X7_testPlace (l : Launch) (hfl : l.stackTraces = false) (D : va_G) (cyJ : ClassId) (sz : Nat) (p0 : Int32) (xc : Nat) (hF : F_X7_testPlace p0 = some xc) : vx_Met l yX7_testPlace wsX7_testPlace rmX7_testPlace (va_Pc [.int p0] (wPX D [(cyJ, .long)] [] sz)) (va_Qv (fun (_ : Unit) => xc = 0) (fun _ t => wQA D [] (va_A [] sz) t) (va_A [] sz)) (vx_X (fun (_ : Unit) => ¬ xc = 0) (fun E _ t => E = xcls xc ∧ wQA D [] (va_A [] sz) t) (va_A [] sz)) 1 6 (va_A [] sz) := by
  refine vx_ofW (cc := cX7_testPlace) (maxL := 1) (ret := none) (by decide) rfl ?_
  intro p e s m args below meth c s₁ B hml hxt hv
  obtain ⟨rfl, ⟨⟨hsz, hP, hK, hD0, hnw⟩, hE⟩⟩ := hv
  have hx := B.exec
  have hb := B.bytes
  have hr := B.returns
  have hts := atoms_spec (ws := wsX7_testPlace) B.pre
  have hown : s.vm.findClass RX7 = some m.cls := findClass_of_methodNamed B.named
  have hlocks := B.notSynchronized
  have hcf : CallFix _ _ _ _ _ _ _ _ _ := ⟨hx, hb, hml, hown, hts⟩
  subst hsz
  have hD := hD0.self (sz := s.heap.size)
  generalize hAe : va_A [] s.heap.size = A at hD hE ⊢
  have hA : ∀ q : Nat, s.heap.size ≤ q → A q := fun q h => by rw [← hAe]; exact Or.inr h
  have hS : va_S A s.heap s.heap [] := va_S.rf
  have hP : va_P D vwCl [] s.heap := hP
  have hK0 := hK
  have hl := lv_entry ([.int p0]) (n := 1) (Nat.le_of_ble_eq_true rfl)
  rw [lg_entry_eq]
  generalize (lg_sl ([.int p0]) ++ List.replicate (1 - (lg_sl ([.int p0])).length) Slot.unset).toArray = ls at hl ⊢
  have hl : lv_has ls 1 [(0, .int p0)] := hl
  have h := hF
  clear hF
  unfold F_X7_testPlace at h
  refine lv_iload_n hx hb dX7_testPlace_0 rfl (lv_at hl 0 rfl) ?_
  refine lv_iconst (v := 0) hx hb dX7_testPlace_1 (by decide) ?_
  refine lv_bipush (v := 39) hx hb dX7_testPlace_2 (by decide) ?_
  obtain ⟨r4, hc4, h⟩ := obn_h h
  refine pz_callS (As := [.int p0, .int (0 : Int32), .int (39 : Int32)]) (rest := []) hcf (c_X7_isBetween l p0 (0 : Int32) (39 : Int32) r4 hc4) (va_cwS 3 hts gX7_testPlace_X7_isBetween rfl rfl rfl ydX7_isBetween ⟨Nat.le_of_ble_eq_true rfl, Nat.le_of_ble_eq_true rfl⟩) hnw rfl hl.1 rfl (Nat.le_of_ble_eq_true rfl) dX7_testPlace_4 ⟨Nat.le_of_ble_eq_true rfl, Nat.le_of_ble_eq_true rfl⟩ ?_
  refine lv_if_ne (tgt := 21) hx hb dX7_testPlace_7 (by decide) (fun c7 => ?_) (fun c7 => ?_)
  · have h := if_ c7 h
    have e1 := Option.some.inj h
    subst e1
    have hP9 : va_P D vwCl [] s.heap := hP.sub [] rfl
    have hD9 : va_D A [] := hD.sub [] (by decide) rfl
    refine vx_ret ?_
    refine W.widen (k := 1) (n := 6) (Nat.le_of_ble_eq_true rfl) (Nat.le_of_ble_eq_true rfl) ?_
    exact W.vret hx hb hr (fun t ht hW => ⟨⟨(), rfl, rfl, wQA_of ht hP9 hD9⟩, hS.F ht⟩) hS.2.2 dX7_testPlace_21
  · have h := it_ c7 h
    have e1 := Option.some.inj h
    subst e1
    have hP9 : va_P D vwCl [] s.heap := hP.sub [] rfl
    have hD9 : va_D A [] := hD.sub [] (by decide) rfl
    obtain ⟨sa9, hstr9⟩ := hE.2.2 _ (show (RX7, 304, "a place is from 0 to 39") ∈ strL from by decide +kernel)
    exact vx_throwSW hx hb hfl hown (cls := "java/lang/IndexOutOfBoundsException") (names := ["java/lang/RuntimeException", "java/lang/Exception"]) (by decide +kernel) (by decide +kernel) (hts (.classLink RX7 299 "java/lang/IndexOutOfBoundsException") (by decide +kernel)) (hts (.initialized "java/lang/IndexOutOfBoundsException") (by decide +kernel)) hstr9 (hat_1 (fun w hw => hts w (wsat_X7_testPlace w hw)) hE.2.1) hgood_X7_testPlace hE.1.1 hE.1.2 hS (hl.1.trans hml.symm) dX7_testPlace_10 dX7_testPlace_13 dX7_testPlace_14 dX7_testPlace_17 dX7_testPlace_20 (fun x hx => (hxt x hx).elim) (Nat.le_of_ble_eq_true rfl) (Nat.le_of_ble_eq_true rfl) (Nat.le_of_ble_eq_true rfl) (Nat.le_of_ble_eq_true rfl) hlocks (fun t hW hz hk => ⟨(), by decide, ⟨rfl, wQA_kept hP9 hD9 hk⟩, va_F_kept hS hz hk⟩) hS.2.2 (Nat.le_of_ble_eq_true rfl) (Nat.le_of_ble_eq_true rfl)

noncomputable abbrev rmX0_hasOne : Room := { frames := 0, cells := 0, slots := 0, locals := 0 }
theorem ydX0_hasOne : yX0_hasOne.cls ≠ "java/lang/invoke/MethodHandle" ∧ yX0_hasOne.cls ≠ "java/lang/invoke/VarHandle" ∧ (parseMethodDescriptor yX0_hasOne.desc).map (fun d => d.parameters.length) = some 2 := by decide +kernel
noncomputable def F_X0_hasOne (p0 : Int64) (p1 : Int32) : Option (Int32) :=
 (if ((p0 >>> (p1.toInt64 &&& 63)) &&& (1 : Int64)) = (1 : Int64) then
 some (1 : Int32)
else
 some (0 : Int32))
set_option maxHeartbeats 4000000 in
set_option maxRecDepth 100000 in
theorem c_X0_hasOne (l : Launch) (p0 : Int64) (p1 : Int32) (r0 : Int32) (hF : F_X0_hasOne p0 p1 = some r0) : Met l yX0_hasOne wsX0_hasOne rmX0_hasOne (va_Pc [.long p0, .int p1] NW) (k2_QcV (.int r0)) 0 0 (fun _ => False) := by
  refine Met.ofW (cc := cX0_hasOne) (maxL := 3) (ret := (some .boolean)) (by decide) rfl ?_
  intro p e s m args below meth c s₁ B hml hv
  obtain ⟨rfl, hnw⟩ := hv
  have hx := B.exec
  have hb := B.bytes
  have hr := B.returns
  have hts := atoms_spec (ws := wsX0_hasOne) B.pre
  have hown : s.vm.findClass RX0 = some m.cls := findClass_of_methodNamed B.named
  have hlocks := B.notSynchronized
  have hcf : CallFix _ _ _ _ _ _ _ _ _ := ⟨hx, hb, hml, hown, hts⟩
  have hl := lv_entry ([.long p0, .int p1]) (n := 3) (Nat.le_of_ble_eq_true rfl)
  rw [lg_entry_eq]
  generalize (lg_sl ([.long p0, .int p1]) ++ List.replicate (3 - (lg_sl ([.long p0, .int p1])).length) Slot.unset).toArray = ls at hl ⊢
  have hl : lv_has ls 3 [(0, .long p0), (2, .int p1)] := hl
  have h := hF
  clear hF
  unfold F_X0_hasOne at h
  refine lv_lload_n hx hb dX0_hasOne_0 rfl (lv_at hl 0 rfl) ?_
  refine lv_iload_n hx hb dX0_hasOne_1 rfl (lv_at hl 1 rfl) ?_
  refine lv_lshr (v := p0 >>> (p1.toInt64 &&& 63)) hx hb dX0_hasOne_2 rfl ?_
  refine lv_lconst (v := 1) hx hb dX0_hasOne_3 (by decide) ?_
  refine lv_land hx hb dX0_hasOne_4 ?_
  refine lv_lconst (v := 1) hx hb dX0_hasOne_5 (by decide) ?_
  refine W.lcmp hx hb dX0_hasOne_6 ?_
  refine lv_if_ne (tgt := 14) hx hb dX0_hasOne_7 (by decide) (fun c7 => ?_) (fun c7 => ?_)
  · have c7 := fun z => c7 ((lg_cmp_eq _ _).mpr z)
    have h := if_ c7 h
    refine lv_iconst (v := 0) hx hb dX0_hasOne_14 (by decide) ?_
    have e1 := Option.some.inj h
    subst e1
    exact W.zret hx hb hr narrow_b0 (fun t ht _ => ⟨rfl, ht⟩) no_q dX0_hasOne_15
  · have c7 := (lg_cmp_eq _ _).mp c7
    have h := it_ c7 h
    refine lv_iconst (v := 1) hx hb dX0_hasOne_10 (by decide) ?_
    refine lv_goto (tgt := 15) hx hb dX0_hasOne_11 (by decide) ?_
    have e1 := Option.some.inj h
    subst e1
    exact W.zret hx hb hr narrow_b1 (fun t ht _ => ⟨rfl, ht⟩) no_q dX0_hasOne_15
