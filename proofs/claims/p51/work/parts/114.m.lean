noncomputable abbrev rmX9_quotientOf : Room := { frames := 3, cells := 0, slots := 0, locals := 64 }
theorem ydX9_quotientOf : yX9_quotientOf.cls ≠ "java/lang/invoke/MethodHandle" ∧ yX9_quotientOf.cls ≠ "java/lang/invoke/VarHandle" ∧ (parseMethodDescriptor yX9_quotientOf.desc).map (fun d => d.parameters.length) = some 2 := by decide +kernel
noncomputable def S_X9_quotientOf_21 (z2_21 : Int64) (z8_21 : Int32) (k68 : Int64 → Option (Int64)) (ih21 : Int64 → Int64 → Int32 → Option (Int64)) (y4_21 : Int64) (y6_21 : Int64) (y9_21 : Int32) : Option (Int64) :=
 (if y9_21 < 0 then
 k68 y6_21
else
 (if ((y4_21 >>> ((y9_21 + z8_21).toInt64 &&& 63)) &&& (1 : Int64)) = (0 : Int64) then
 bnd (y9_21 + (-1)) (fun x9_62 =>
 ih21 y4_21 y6_21 x9_62)
else
 bnd (y4_21 ^^^ (z2_21 <<< (y9_21.toInt64 &&& 63))) (fun x4_51 =>
 bnd (y6_21 ||| ((1 : Int64) <<< (y9_21.toInt64 &&& 63))) (fun x6_60 =>
 bnd (y9_21 + (-1)) (fun x9_62 =>
 ih21 x4_51 x6_60 x9_62)))))
noncomputable def F_X9_quotientOf (p0 : Int64) (p1 : Int64) : Option (Int64) :=
 obn (F_X9_degreeOf p1) (fun r7 =>
 obn (F_X9_degreeOf p0) (fun r13 =>
 bnd (r13 - r7) (fun x9_19 =>
 LQ3 (S_X9_quotientOf_21 p1 r7 (fun y6_21_68 =>
 some y6_21_68)) 20000 p0 (0 : Int64) x9_19)))
set_option maxHeartbeats 4000000 in
set_option maxRecDepth 100000 in
theorem c_X9_quotientOf (l : Launch) (p0 : Int64) (p1 : Int64) (r0 : Int64) (hF : F_X9_quotientOf p0 p1 = some r0) : Met l yX9_quotientOf wsX9_quotientOf rmX9_quotientOf (va_Pc [.long p0, .long p1] NW) (k2_QcV (.long r0)) 0 0 (fun _ => False) := by
  refine Met.ofW (cc := cX9_quotientOf) (maxL := 10) (ret := (some .long)) (by decide) rfl ?_
  intro p e s m args below meth c s₁ B hml hv
  obtain ⟨rfl, hnw⟩ := hv
  have hx := B.exec
  have hb := B.bytes
  have hr := B.returns
  have hts := atoms_spec (ws := wsX9_quotientOf) B.pre
  have hown : s.vm.findClass RX9 = some m.cls := findClass_of_methodNamed B.named
  have hlocks := B.notSynchronized
  have hcf : CallFix _ _ _ _ _ _ _ _ _ := ⟨hx, hb, hml, hown, hts⟩
  have hl := lv_entry ([.long p0, .long p1]) (n := 10) (Nat.le_of_ble_eq_true rfl)
  rw [lg_entry_eq]
  generalize (lg_sl ([.long p0, .long p1]) ++ List.replicate (10 - (lg_sl ([.long p0, .long p1])).length) Slot.unset).toArray = ls at hl ⊢
  have hl : lv_has ls 10 [(0, .long p0), (2, .long p1)] := hl
  have h := hF
  clear hF
  unfold F_X9_quotientOf at h
  refine lv_lload_n hx hb dX9_quotientOf_0 rfl (lv_at hl 0 rfl) ?_
  refine lv_lstore (lv' := [(4, .long p0), (0, .long p0), (2, .long p1)]) hx hb dX9_quotientOf_1 hl (by decide) rfl (fun ls hl => ?_)
  refine lv_lconst (v := 0) hx hb dX9_quotientOf_3 (by decide) ?_
  refine lv_lstore (lv' := [(6, .long (0 : Int64)), (4, .long p0), (0, .long p0), (2, .long p1)]) hx hb dX9_quotientOf_4 hl (by decide) rfl (fun ls hl => ?_)
  refine lv_lload_n hx hb dX9_quotientOf_6 rfl (lv_at hl 3 rfl) ?_
  obtain ⟨r7, hc7, h⟩ := obn_h h
  refine pz_callS (As := [.long p1]) (rest := []) hcf (c_X9_degreeOf l p1 r7 hc7) (va_cwS 1 hts gX9_quotientOf_X9_degreeOf rfl rfl rfl ydX9_degreeOf ⟨Nat.le_of_ble_eq_true rfl, Nat.le_of_ble_eq_true rfl⟩) hnw rfl hl.1 rfl (Nat.le_of_ble_eq_true rfl) dX9_quotientOf_7 ⟨Nat.le_of_ble_eq_true rfl, Nat.le_of_ble_eq_true rfl⟩ ?_
  refine lv_istore (lv' := [(8, .int r7), (6, .long (0 : Int64)), (4, .long p0), (0, .long p0), (2, .long p1)]) hx hb dX9_quotientOf_10 hl (by decide) rfl (fun ls hl => ?_)
  refine lv_lload_n hx hb dX9_quotientOf_12 rfl (lv_at hl 3 rfl) ?_
  obtain ⟨r13, hc13, h⟩ := obn_h h
  refine pz_callS (As := [.long p0]) (rest := []) hcf (c_X9_degreeOf l p0 r13 hc13) (va_cwS 1 hts gX9_quotientOf_X9_degreeOf rfl rfl rfl ydX9_degreeOf ⟨Nat.le_of_ble_eq_true rfl, Nat.le_of_ble_eq_true rfl⟩) hnw rfl hl.1 rfl (Nat.le_of_ble_eq_true rfl) dX9_quotientOf_13 ⟨Nat.le_of_ble_eq_true rfl, Nat.le_of_ble_eq_true rfl⟩ ?_
  refine lv_iload hx hb dX9_quotientOf_16 (lv_at hl 0 rfl) ?_
  refine lv_isub hx hb dX9_quotientOf_18 ?_
  refine lv_topi (fun x9_19 e_x9_19 => ?_)
  have h := bnd_h e_x9_19 h
  refine lv_istore (lv' := [(9, .int x9_19), (8, .int r7), (6, .long (0 : Int64)), (4, .long p0), (0, .long p0), (2, .long p1)]) hx hb dX9_quotientOf_19 hl (by decide) rfl (fun ls hl => ?_)
  refine LQ3_k1 (M := fun (y4_21 : Int64) (y6_21 : Int64) (y9_21 : Int32) => ∀ (ls : Array Slot), lv_has ls 10 [(2, .long p1), (4, .long y4_21), (6, .long y6_21), (8, .int r7), (9, .int y9_21)] → W p l e rmX9_quotientOf s m ([.long p0, .long p1] : List Value).toArray below meth c s.heap [] 0 0 (MQ below (k2_QcV (.long r0)) ([.long p0, .long p1] : List Value).toArray s 0 0 (fun _ => False)) (F0 m 21 ls [])) ?_ _ _ _ _ h ls (lv_sub hl [5, 3, 2, 1, 0] rfl)
  intro k68 hk68 ih21 hih21 y4_21 y6_21 y9_21 h ls hl
  unfold S_X9_quotientOf_21 at h
  refine lv_iload hx hb dX9_quotientOf_21 (lv_at hl 4 rfl) ?_
  refine lv_if_lt (tgt := 68) hx hb dX9_quotientOf_23 (by decide) (fun c23 => ?_) (fun c23 => ?_)
  · have h := it_ c23 h
    rw [hk68] at h
    refine lv_lload hx hb dX9_quotientOf_68 (lv_at hl 2 rfl) ?_
    have e1 := Option.some.inj h
    subst e1
    exact W.lret hx hb hr (fun t ht _ => ⟨rfl, ht⟩) no_q dX9_quotientOf_70
  · have h := if_ c23 h
    refine lv_lload hx hb dX9_quotientOf_26 (lv_at hl 1 rfl) ?_
    refine lv_iload hx hb dX9_quotientOf_28 (lv_at hl 4 rfl) ?_
    refine lv_iload hx hb dX9_quotientOf_30 (lv_at hl 3 rfl) ?_
    refine lv_iadd hx hb dX9_quotientOf_32 ?_
    refine lv_lshr (v := y4_21 >>> ((y9_21 + r7).toInt64 &&& 63)) hx hb dX9_quotientOf_33 rfl ?_
    refine lv_lconst (v := 1) hx hb dX9_quotientOf_34 (by decide) ?_
    refine lv_land hx hb dX9_quotientOf_35 ?_
    refine lv_lconst (v := 0) hx hb dX9_quotientOf_36 (by decide) ?_
    refine W.lcmp hx hb dX9_quotientOf_37 ?_
    refine lv_if_ne (tgt := 44) hx hb dX9_quotientOf_38 (by decide) (fun c38 => ?_) (fun c38 => ?_)
    · have c38 := fun z => c38 ((lg_cmp_eq _ _).mpr z)
      have h := if_ c38 h
      refine lv_lload hx hb dX9_quotientOf_44 (lv_at hl 1 rfl) ?_
      refine lv_lload_n hx hb dX9_quotientOf_46 rfl (lv_at hl 0 rfl) ?_
      refine lv_iload hx hb dX9_quotientOf_47 (lv_at hl 4 rfl) ?_
      refine lv_lshl (v := p1 <<< (y9_21.toInt64 &&& 63)) hx hb dX9_quotientOf_49 rfl ?_
      refine lv_lxor hx hb dX9_quotientOf_50 ?_
      refine lv_topl (fun x4_51 e_x4_51 => ?_)
      have h := bnd_h e_x4_51 h
      refine lv_lstore (lv' := [(4, .long x4_51), (2, .long p1), (6, .long y6_21), (8, .int r7), (9, .int y9_21)]) hx hb dX9_quotientOf_51 hl (by decide) rfl (fun ls hl => ?_)
      refine lv_lload hx hb dX9_quotientOf_53 (lv_at hl 2 rfl) ?_
      refine lv_lconst (v := 1) hx hb dX9_quotientOf_55 (by decide) ?_
      refine lv_iload hx hb dX9_quotientOf_56 (lv_at hl 4 rfl) ?_
      refine lv_lshl (v := (1 : Int64) <<< (y9_21.toInt64 &&& 63)) hx hb dX9_quotientOf_58 rfl ?_
      refine lv_lor hx hb dX9_quotientOf_59 ?_
      refine lv_topl (fun x6_60 e_x6_60 => ?_)
      have h := bnd_h e_x6_60 h
      refine lv_lstore (lv' := [(6, .long x6_60), (4, .long x4_51), (2, .long p1), (8, .int r7), (9, .int y9_21)]) hx hb dX9_quotientOf_60 hl (by decide) rfl (fun ls hl => ?_)
      obtain ⟨x9_62, e_x9_62⟩ : ∃ z : Int32, z = y9_21 + (-1) := ⟨_, rfl⟩
      have h := bnd_h e_x9_62 h
      refine lv_iinc (v := x9_62) (lv' := [(9, .int x9_62), (6, .long x6_60), (4, .long x4_51), (2, .long p1), (8, .int r7)]) hx hb dX9_quotientOf_62 hl (k := 4) rfl (by rw [e_x9_62]; rfl) (by decide) rfl (fun ls hl => ?_)
      refine lv_goto (tgt := 21) hx hb dX9_quotientOf_65 (by decide) ?_
      exact hih21 x4_51 x6_60 x9_62 h ls (lv_sub hl [3, 2, 1, 4, 0] rfl)
    · have c38 := (lg_cmp_eq _ _).mp c38
      have h := it_ c38 h
      refine lv_goto (tgt := 62) hx hb dX9_quotientOf_41 (by decide) ?_
      obtain ⟨x9_62, e_x9_62⟩ : ∃ z : Int32, z = y9_21 + (-1) := ⟨_, rfl⟩
      have h := bnd_h e_x9_62 h
      refine lv_iinc (v := x9_62) (lv' := [(9, .int x9_62), (2, .long p1), (4, .long y4_21), (6, .long y6_21), (8, .int r7)]) hx hb dX9_quotientOf_62 hl (k := 4) rfl (by rw [e_x9_62]; rfl) (by decide) rfl (fun ls hl => ?_)
      refine lv_goto (tgt := 21) hx hb dX9_quotientOf_65 (by decide) ?_
      exact hih21 y4_21 y6_21 x9_62 h ls (lv_sub hl [1, 2, 3, 4, 0] rfl)

noncomputable abbrev rmX9_restOf : Room := { frames := 4, cells := 0, slots := 0, locals := 93 }
theorem ydX9_restOf : yX9_restOf.cls ≠ "java/lang/invoke/MethodHandle" ∧ yX9_restOf.cls ≠ "java/lang/invoke/VarHandle" ∧ (parseMethodDescriptor yX9_restOf.desc).map (fun d => d.parameters.length) = some 2 := by decide +kernel
noncomputable def F_X9_restOf (p0 : Int64) (p1 : Int64) : Option (Int64) :=
 obn (F_X9_quotientOf p0 p1) (fun r3 =>
 obn (F_X9_productOf r3 p1) (fun r7 =>
 some (p0 ^^^ r7)))
set_option maxHeartbeats 4000000 in
set_option maxRecDepth 100000 in
theorem c_X9_restOf (l : Launch) (p0 : Int64) (p1 : Int64) (r0 : Int64) (hF : F_X9_restOf p0 p1 = some r0) : Met l yX9_restOf wsX9_restOf rmX9_restOf (va_Pc [.long p0, .long p1] NW) (k2_QcV (.long r0)) 0 0 (fun _ => False) := by
  refine Met.ofW (cc := cX9_restOf) (maxL := 4) (ret := (some .long)) (by decide) rfl ?_
  intro p e s m args below meth c s₁ B hml hv
  obtain ⟨rfl, hnw⟩ := hv
  have hx := B.exec
  have hb := B.bytes
  have hr := B.returns
  have hts := atoms_spec (ws := wsX9_restOf) B.pre
  have hown : s.vm.findClass RX9 = some m.cls := findClass_of_methodNamed B.named
  have hlocks := B.notSynchronized
  have hcf : CallFix _ _ _ _ _ _ _ _ _ := ⟨hx, hb, hml, hown, hts⟩
  have hl := lv_entry ([.long p0, .long p1]) (n := 4) (Nat.le_of_ble_eq_true rfl)
  rw [lg_entry_eq]
  generalize (lg_sl ([.long p0, .long p1]) ++ List.replicate (4 - (lg_sl ([.long p0, .long p1])).length) Slot.unset).toArray = ls at hl ⊢
  have hl : lv_has ls 4 [(0, .long p0), (2, .long p1)] := hl
  have h := hF
  clear hF
  unfold F_X9_restOf at h
  refine lv_lload_n hx hb dX9_restOf_0 rfl (lv_at hl 0 rfl) ?_
  refine lv_lload_n hx hb dX9_restOf_1 rfl (lv_at hl 0 rfl) ?_
  refine lv_lload_n hx hb dX9_restOf_2 rfl (lv_at hl 1 rfl) ?_
  obtain ⟨r3, hc3, h⟩ := obn_h h
  refine pz_callS (As := [.long p0, .long p1]) (rest := [.long p0]) hcf (c_X9_quotientOf l p0 p1 r3 hc3) (va_cwS 2 hts gX9_restOf_X9_quotientOf rfl rfl rfl ydX9_quotientOf ⟨Nat.le_of_ble_eq_true rfl, Nat.le_of_ble_eq_true rfl⟩) hnw rfl hl.1 rfl (Nat.le_of_ble_eq_true rfl) dX9_restOf_3 ⟨Nat.le_of_ble_eq_true rfl, Nat.le_of_ble_eq_true rfl⟩ ?_
  refine lv_lload_n hx hb dX9_restOf_6 rfl (lv_at hl 1 rfl) ?_
  obtain ⟨r7, hc7, h⟩ := obn_h h
  refine pz_callS (As := [.long r3, .long p1]) (rest := [.long p0]) hcf (c_X9_productOf l r3 p1 r7 hc7) (va_cwS 2 hts gX9_restOf_X9_productOf rfl rfl rfl ydX9_productOf ⟨Nat.le_of_ble_eq_true rfl, Nat.le_of_ble_eq_true rfl⟩) hnw rfl hl.1 rfl (Nat.le_of_ble_eq_true rfl) dX9_restOf_7 ⟨Nat.le_of_ble_eq_true rfl, Nat.le_of_ble_eq_true rfl⟩ ?_
  refine lv_lxor hx hb dX9_restOf_10 ?_
  have e1 := Option.some.inj h
  subst e1
  exact W.lret hx hb hr (fun t ht _ => ⟨rfl, ht⟩) no_q dX9_restOf_11

noncomputable abbrev rmX9_commonOf : Room := { frames := 5, cells := 0, slots := 0, locals := 116 }
theorem ydX9_commonOf : yX9_commonOf.cls ≠ "java/lang/invoke/MethodHandle" ∧ yX9_commonOf.cls ≠ "java/lang/invoke/VarHandle" ∧ (parseMethodDescriptor yX9_commonOf.desc).map (fun d => d.parameters.length) = some 2 := by decide +kernel
noncomputable def S_X9_commonOf_6 (k33 : Int64 → Option (Int64)) (ih6 : Int64 → Int64 → Option (Int64)) (y4_6 : Int64) (y6_6 : Int64) : Option (Int64) :=
 (if y6_6 = (0 : Int64) then
 k33 y4_6
else
 obn (F_X9_restOf y4_6 y6_6) (fun r17 =>
 ih6 y6_6 r17))
noncomputable def F_X9_commonOf (p0 : Int64) (p1 : Int64) : Option (Int64) :=
 LQ2 (S_X9_commonOf_6 (fun y4_6_33 =>
 some y4_6_33)) 20000 p0 p1
set_option maxHeartbeats 4000000 in
set_option maxRecDepth 100000 in
theorem c_X9_commonOf (l : Launch) (p0 : Int64) (p1 : Int64) (r0 : Int64) (hF : F_X9_commonOf p0 p1 = some r0) : Met l yX9_commonOf wsX9_commonOf rmX9_commonOf (va_Pc [.long p0, .long p1] NW) (k2_QcV (.long r0)) 0 0 (fun _ => False) := by
  refine Met.ofW (cc := cX9_commonOf) (maxL := 10) (ret := (some .long)) (by decide) rfl ?_
  intro p e s m args below meth c s₁ B hml hv
  obtain ⟨rfl, hnw⟩ := hv
  have hx := B.exec
  have hb := B.bytes
  have hr := B.returns
  have hts := atoms_spec (ws := wsX9_commonOf) B.pre
  have hown : s.vm.findClass RX9 = some m.cls := findClass_of_methodNamed B.named
  have hlocks := B.notSynchronized
  have hcf : CallFix _ _ _ _ _ _ _ _ _ := ⟨hx, hb, hml, hown, hts⟩
  have hl := lv_entry ([.long p0, .long p1]) (n := 10) (Nat.le_of_ble_eq_true rfl)
  rw [lg_entry_eq]
  generalize (lg_sl ([.long p0, .long p1]) ++ List.replicate (10 - (lg_sl ([.long p0, .long p1])).length) Slot.unset).toArray = ls at hl ⊢
  have hl : lv_has ls 10 [(0, .long p0), (2, .long p1)] := hl
  have h := hF
  clear hF
  unfold F_X9_commonOf at h
  refine lv_lload_n hx hb dX9_commonOf_0 rfl (lv_at hl 0 rfl) ?_
  refine lv_lstore (lv' := [(4, .long p0), (0, .long p0), (2, .long p1)]) hx hb dX9_commonOf_1 hl (by decide) rfl (fun ls hl => ?_)
  refine lv_lload_n hx hb dX9_commonOf_3 rfl (lv_at hl 2 rfl) ?_
  refine lv_lstore (lv' := [(6, .long p1), (4, .long p0), (0, .long p0), (2, .long p1)]) hx hb dX9_commonOf_4 hl (by decide) rfl (fun ls hl => ?_)
  refine LQ2_k1 (M := fun (y4_6 : Int64) (y6_6 : Int64) => ∀ (ls : Array Slot), lv_has ls 10 [(4, .long y4_6), (6, .long y6_6)] → W p l e rmX9_commonOf s m ([.long p0, .long p1] : List Value).toArray below meth c s.heap [] 0 0 (MQ below (k2_QcV (.long r0)) ([.long p0, .long p1] : List Value).toArray s 0 0 (fun _ => False)) (F0 m 6 ls [])) ?_ _ _ _ h ls (lv_sub hl [1, 0] rfl)
  intro k33 hk33 ih6 hih6 y4_6 y6_6 h ls hl
  unfold S_X9_commonOf_6 at h
  refine lv_lload hx hb dX9_commonOf_6 (lv_at hl 1 rfl) ?_
  refine lv_lconst (v := 0) hx hb dX9_commonOf_8 (by decide) ?_
  refine W.lcmp hx hb dX9_commonOf_9 ?_
  refine lv_if_eq (tgt := 33) hx hb dX9_commonOf_10 (by decide) (fun c10 => ?_) (fun c10 => ?_)
  · have c10 := (lg_cmp_eq _ _).mp c10
    have h := it_ c10 h
    rw [hk33] at h
    refine lv_lload hx hb dX9_commonOf_33 (lv_at hl 0 rfl) ?_
    have e1 := Option.some.inj h
    subst e1
    exact W.lret hx hb hr (fun t ht _ => ⟨rfl, ht⟩) no_q dX9_commonOf_35
  · have c10 := fun z => c10 ((lg_cmp_eq _ _).mpr z)
    have h := if_ c10 h
    refine lv_lload hx hb dX9_commonOf_13 (lv_at hl 0 rfl) ?_
    refine lv_lload hx hb dX9_commonOf_15 (lv_at hl 1 rfl) ?_
    obtain ⟨r17, hc17, h⟩ := obn_h h
    refine pz_callS (As := [.long y4_6, .long y6_6]) (rest := []) hcf (c_X9_restOf l y4_6 y6_6 r17 hc17) (va_cwS 2 hts gX9_commonOf_X9_restOf rfl rfl rfl ydX9_restOf ⟨Nat.le_of_ble_eq_true rfl, Nat.le_of_ble_eq_true rfl⟩) hnw rfl hl.1 rfl (Nat.le_of_ble_eq_true rfl) dX9_commonOf_17 ⟨Nat.le_of_ble_eq_true rfl, Nat.le_of_ble_eq_true rfl⟩ ?_
    refine lv_lstore (lv' := [(8, .long r17), (4, .long y4_6), (6, .long y6_6)]) hx hb dX9_commonOf_20 hl (by decide) rfl (fun ls hl => ?_)
    refine lv_lload hx hb dX9_commonOf_22 (lv_at hl 2 rfl) ?_
    refine lv_lstore (lv' := [(4, .long y6_6), (8, .long r17), (6, .long y6_6)]) hx hb dX9_commonOf_24 hl (by decide) rfl (fun ls hl => ?_)
    refine lv_lload hx hb dX9_commonOf_26 (lv_at hl 1 rfl) ?_
    refine lv_lstore (lv' := [(6, .long r17), (4, .long y6_6), (8, .long r17)]) hx hb dX9_commonOf_28 hl (by decide) rfl (fun ls hl => ?_)
    refine lv_goto (tgt := 6) hx hb dX9_commonOf_30 (by decide) ?_
    exact hih6 y6_6 r17 h ls (lv_sub hl [1, 0] rfl)

noncomputable abbrev rmX9_isDivided : Room := { frames := 5, cells := 0, slots := 0, locals := 116 }
theorem ydX9_isDivided : yX9_isDivided.cls ≠ "java/lang/invoke/MethodHandle" ∧ yX9_isDivided.cls ≠ "java/lang/invoke/VarHandle" ∧ (parseMethodDescriptor yX9_isDivided.desc).map (fun d => d.parameters.length) = some 2 := by decide +kernel
noncomputable def F_X9_isDivided (p0 : Int64) (p1 : Int64) : Option (Int32) :=
 (if p1 = (0 : Int64) then
 (if p0 = (0 : Int64) then
 some (1 : Int32)
else
 some (0 : Int32))
else
 obn (F_X9_restOf p0 p1) (fun r22 =>
 (if r22 = (0 : Int64) then
 some (1 : Int32)
else
 some (0 : Int32))))
set_option maxHeartbeats 4000000 in
set_option maxRecDepth 100000 in
theorem c_X9_isDivided (l : Launch) (p0 : Int64) (p1 : Int64) (r0 : Int32) (hF : F_X9_isDivided p0 p1 = some r0) : Met l yX9_isDivided wsX9_isDivided rmX9_isDivided (va_Pc [.long p0, .long p1] NW) (k2_QcV (.int r0)) 0 0 (fun _ => False) := by
  refine Met.ofW (cc := cX9_isDivided) (maxL := 4) (ret := (some .boolean)) (by decide) rfl ?_
  intro p e s m args below meth c s₁ B hml hv
  obtain ⟨rfl, hnw⟩ := hv
  have hx := B.exec
  have hb := B.bytes
  have hr := B.returns
  have hts := atoms_spec (ws := wsX9_isDivided) B.pre
  have hown : s.vm.findClass RX9 = some m.cls := findClass_of_methodNamed B.named
  have hlocks := B.notSynchronized
  have hcf : CallFix _ _ _ _ _ _ _ _ _ := ⟨hx, hb, hml, hown, hts⟩
  have hl := lv_entry ([.long p0, .long p1]) (n := 4) (Nat.le_of_ble_eq_true rfl)
  rw [lg_entry_eq]
  generalize (lg_sl ([.long p0, .long p1]) ++ List.replicate (4 - (lg_sl ([.long p0, .long p1])).length) Slot.unset).toArray = ls at hl ⊢
  have hl : lv_has ls 4 [(0, .long p0), (2, .long p1)] := hl
  have h := hF
  clear hF
  unfold F_X9_isDivided at h
  refine lv_lload_n hx hb dX9_isDivided_0 rfl (lv_at hl 1 rfl) ?_
  refine lv_lconst (v := 0) hx hb dX9_isDivided_1 (by decide) ?_
  refine W.lcmp hx hb dX9_isDivided_2 ?_
  refine lv_if_ne (tgt := 20) hx hb dX9_isDivided_3 (by decide) (fun c3 => ?_) (fun c3 => ?_)
  · have c3 := fun z => c3 ((lg_cmp_eq _ _).mpr z)
    have h := if_ c3 h
    refine lv_lload_n hx hb dX9_isDivided_20 rfl (lv_at hl 0 rfl) ?_
    refine lv_lload_n hx hb dX9_isDivided_21 rfl (lv_at hl 1 rfl) ?_
    obtain ⟨r22, hc22, h⟩ := obn_h h
    refine pz_callS (As := [.long p0, .long p1]) (rest := []) hcf (c_X9_restOf l p0 p1 r22 hc22) (va_cwS 2 hts gX9_isDivided_X9_restOf rfl rfl rfl ydX9_restOf ⟨Nat.le_of_ble_eq_true rfl, Nat.le_of_ble_eq_true rfl⟩) hnw rfl hl.1 rfl (Nat.le_of_ble_eq_true rfl) dX9_isDivided_22 ⟨Nat.le_of_ble_eq_true rfl, Nat.le_of_ble_eq_true rfl⟩ ?_
    refine lv_lconst (v := 0) hx hb dX9_isDivided_25 (by decide) ?_
    refine W.lcmp hx hb dX9_isDivided_26 ?_
    refine lv_if_ne (tgt := 34) hx hb dX9_isDivided_27 (by decide) (fun c27 => ?_) (fun c27 => ?_)
    · have c27 := fun z => c27 ((lg_cmp_eq _ _).mpr z)
      have h := if_ c27 h
      refine lv_iconst (v := 0) hx hb dX9_isDivided_34 (by decide) ?_
      have e1 := Option.some.inj h
      subst e1
      exact W.zret hx hb hr narrow_b0 (fun t ht _ => ⟨rfl, ht⟩) no_q dX9_isDivided_35
    · have c27 := (lg_cmp_eq _ _).mp c27
      have h := it_ c27 h
      refine lv_iconst (v := 1) hx hb dX9_isDivided_30 (by decide) ?_
      refine lv_goto (tgt := 35) hx hb dX9_isDivided_31 (by decide) ?_
      have e1 := Option.some.inj h
      subst e1
      exact W.zret hx hb hr narrow_b1 (fun t ht _ => ⟨rfl, ht⟩) no_q dX9_isDivided_35
  · have c3 := (lg_cmp_eq _ _).mp c3
    have h := it_ c3 h
    refine lv_lload_n hx hb dX9_isDivided_6 rfl (lv_at hl 0 rfl) ?_
    refine lv_lconst (v := 0) hx hb dX9_isDivided_7 (by decide) ?_
    refine W.lcmp hx hb dX9_isDivided_8 ?_
    refine lv_if_ne (tgt := 16) hx hb dX9_isDivided_9 (by decide) (fun c9 => ?_) (fun c9 => ?_)
    · have c9 := fun z => c9 ((lg_cmp_eq _ _).mpr z)
      have h := if_ c9 h
      refine lv_iconst (v := 0) hx hb dX9_isDivided_16 (by decide) ?_
      refine lv_goto (tgt := 35) hx hb dX9_isDivided_17 (by decide) ?_
      have e1 := Option.some.inj h
      subst e1
      exact W.zret hx hb hr narrow_b0 (fun t ht _ => ⟨rfl, ht⟩) no_q dX9_isDivided_35
    · have c9 := (lg_cmp_eq _ _).mp c9
      have h := it_ c9 h
      refine lv_iconst (v := 1) hx hb dX9_isDivided_12 (by decide) ?_
      refine lv_goto (tgt := 35) hx hb dX9_isDivided_13 (by decide) ?_
      have e1 := Option.some.inj h
      subst e1
      exact W.zret hx hb hr narrow_b1 (fun t ht _ => ⟨rfl, ht⟩) no_q dX9_isDivided_35

noncomputable abbrev rmX9_turnedOf : Room := { frames := 3, cells := 0, slots := 0, locals := 64 }
theorem ydX9_turnedOf : yX9_turnedOf.cls ≠ "java/lang/invoke/MethodHandle" ∧ yX9_turnedOf.cls ≠ "java/lang/invoke/VarHandle" ∧ (parseMethodDescriptor yX9_turnedOf.desc).map (fun d => d.parameters.length) = some 1 := by decide +kernel
noncomputable def S_X9_turnedOf_11 (z0_11 : Int64) (z4_11 : Int32) (k39 : Int64 → Option (Int64)) (ih11 : Int64 → Int32 → Option (Int64)) (y2_11 : Int64) (y5_11 : Int32) : Option (Int64) :=
 (if z4_11 < y5_11 then
 k39 y2_11
else
 bnd (y2_11 ||| (((z0_11 >>> (y5_11.toInt64 &&& 63)) &&& (1 : Int64)) <<< ((z4_11 - y5_11).toInt64 &&& 63))) (fun x2_32 =>
 bnd (y5_11 + 1) (fun x5_33 =>
 ih11 x2_32 x5_33)))
noncomputable def F_X9_turnedOf (p0 : Int64) : Option (Int64) :=
 obn (F_X9_degreeOf p0) (fun r3 =>
 LQ2 (S_X9_turnedOf_11 p0 r3 (fun y2_11_39 =>
 some y2_11_39)) 20000 (0 : Int64) (0 : Int32))
set_option maxHeartbeats 4000000 in
set_option maxRecDepth 100000 in
theorem c_X9_turnedOf (l : Launch) (p0 : Int64) (r0 : Int64) (hF : F_X9_turnedOf p0 = some r0) : Met l yX9_turnedOf wsX9_turnedOf rmX9_turnedOf (va_Pc [.long p0] NW) (k2_QcV (.long r0)) 0 0 (fun _ => False) := by
  refine Met.ofW (cc := cX9_turnedOf) (maxL := 6) (ret := (some .long)) (by decide) rfl ?_
  intro p e s m args below meth c s₁ B hml hv
  obtain ⟨rfl, hnw⟩ := hv
  have hx := B.exec
  have hb := B.bytes
  have hr := B.returns
  have hts := atoms_spec (ws := wsX9_turnedOf) B.pre
  have hown : s.vm.findClass RX9 = some m.cls := findClass_of_methodNamed B.named
  have hlocks := B.notSynchronized
  have hcf : CallFix _ _ _ _ _ _ _ _ _ := ⟨hx, hb, hml, hown, hts⟩
  have hl := lv_entry ([.long p0]) (n := 6) (Nat.le_of_ble_eq_true rfl)
  rw [lg_entry_eq]
  generalize (lg_sl ([.long p0]) ++ List.replicate (6 - (lg_sl ([.long p0])).length) Slot.unset).toArray = ls at hl ⊢
  have hl : lv_has ls 6 [(0, .long p0)] := hl
  have h := hF
  clear hF
  unfold F_X9_turnedOf at h
  refine lv_lconst (v := 0) hx hb dX9_turnedOf_0 (by decide) ?_
  refine lv_lstore_n (lv' := [(2, .long (0 : Int64)), (0, .long p0)]) hx hb dX9_turnedOf_1 rfl hl (by decide) rfl (fun ls hl => ?_)
  refine lv_lload_n hx hb dX9_turnedOf_2 rfl (lv_at hl 1 rfl) ?_
  obtain ⟨r3, hc3, h⟩ := obn_h h
  refine pz_callS (As := [.long p0]) (rest := []) hcf (c_X9_degreeOf l p0 r3 hc3) (va_cwS 1 hts gX9_turnedOf_X9_degreeOf rfl rfl rfl ydX9_degreeOf ⟨Nat.le_of_ble_eq_true rfl, Nat.le_of_ble_eq_true rfl⟩) hnw rfl hl.1 rfl (Nat.le_of_ble_eq_true rfl) dX9_turnedOf_3 ⟨Nat.le_of_ble_eq_true rfl, Nat.le_of_ble_eq_true rfl⟩ ?_
  refine lv_istore (lv' := [(4, .int r3), (2, .long (0 : Int64)), (0, .long p0)]) hx hb dX9_turnedOf_6 hl (by decide) rfl (fun ls hl => ?_)
  refine lv_iconst (v := 0) hx hb dX9_turnedOf_8 (by decide) ?_
  refine lv_istore (lv' := [(5, .int (0 : Int32)), (4, .int r3), (2, .long (0 : Int64)), (0, .long p0)]) hx hb dX9_turnedOf_9 hl (by decide) rfl (fun ls hl => ?_)
  refine LQ2_k1 (M := fun (y2_11 : Int64) (y5_11 : Int32) => ∀ (ls : Array Slot), lv_has ls 6 [(0, .long p0), (2, .long y2_11), (4, .int r3), (5, .int y5_11)] → W p l e rmX9_turnedOf s m ([.long p0] : List Value).toArray below meth c s.heap [] 0 0 (MQ below (k2_QcV (.long r0)) ([.long p0] : List Value).toArray s 0 0 (fun _ => False)) (F0 m 11 ls [])) ?_ _ _ _ h ls (lv_sub hl [3, 2, 1, 0] rfl)
  intro k39 hk39 ih11 hih11 y2_11 y5_11 h ls hl
  unfold S_X9_turnedOf_11 at h
  refine lv_iload hx hb dX9_turnedOf_11 (lv_at hl 3 rfl) ?_
  refine lv_iload hx hb dX9_turnedOf_13 (lv_at hl 2 rfl) ?_
  refine lv_icmp_gt (tgt := 39) hx hb dX9_turnedOf_15 (by decide) (fun c15 => ?_) (fun c15 => ?_)
  · have h := it_ c15 h
    rw [hk39] at h
    refine lv_lload_n hx hb dX9_turnedOf_39 rfl (lv_at hl 1 rfl) ?_
    have e1 := Option.some.inj h
    subst e1
    exact W.lret hx hb hr (fun t ht _ => ⟨rfl, ht⟩) no_q dX9_turnedOf_40
  · have h := if_ c15 h
    refine lv_lload_n hx hb dX9_turnedOf_18 rfl (lv_at hl 1 rfl) ?_
    refine lv_lload_n hx hb dX9_turnedOf_19 rfl (lv_at hl 0 rfl) ?_
    refine lv_iload hx hb dX9_turnedOf_20 (lv_at hl 3 rfl) ?_
    refine lv_lshr (v := p0 >>> (y5_11.toInt64 &&& 63)) hx hb dX9_turnedOf_22 rfl ?_
    refine lv_lconst (v := 1) hx hb dX9_turnedOf_23 (by decide) ?_
    refine lv_land hx hb dX9_turnedOf_24 ?_
    refine lv_iload hx hb dX9_turnedOf_25 (lv_at hl 2 rfl) ?_
    refine lv_iload hx hb dX9_turnedOf_27 (lv_at hl 3 rfl) ?_
    refine lv_isub hx hb dX9_turnedOf_29 ?_
    refine lv_lshl (v := ((p0 >>> (y5_11.toInt64 &&& 63)) &&& (1 : Int64)) <<< ((r3 - y5_11).toInt64 &&& 63)) hx hb dX9_turnedOf_30 rfl ?_
    refine lv_lor hx hb dX9_turnedOf_31 ?_
    refine lv_topl (fun x2_32 e_x2_32 => ?_)
    have h := bnd_h e_x2_32 h
    refine lv_lstore_n (lv' := [(2, .long x2_32), (0, .long p0), (4, .int r3), (5, .int y5_11)]) hx hb dX9_turnedOf_32 rfl hl (by decide) rfl (fun ls hl => ?_)
    obtain ⟨x5_33, e_x5_33⟩ : ∃ z : Int32, z = y5_11 + 1 := ⟨_, rfl⟩
    have h := bnd_h e_x5_33 h
    refine lv_iinc (v := x5_33) (lv' := [(5, .int x5_33), (2, .long x2_32), (0, .long p0), (4, .int r3)]) hx hb dX9_turnedOf_33 hl (k := 3) rfl (by rw [e_x5_33]; rfl) (by decide) rfl (fun ls hl => ?_)
    refine lv_goto (tgt := 11) hx hb dX9_turnedOf_36 (by decide) ?_
    exact hih11 x2_32 x5_33 h ls (lv_sub hl [2, 1, 3, 0] rfl)

noncomputable abbrev rmX9_powerOf : Room := { frames := 5, cells := 0, slots := 0, locals := 116 }
theorem ydX9_powerOf : yX9_powerOf.cls ≠ "java/lang/invoke/MethodHandle" ∧ yX9_powerOf.cls ≠ "java/lang/invoke/VarHandle" ∧ (parseMethodDescriptor yX9_powerOf.desc).map (fun d => d.parameters.length) = some 3 := by decide +kernel
noncomputable def S_X9_powerOf_17 (z2_17 : Int32) (z3_17 : Int64) (z7_17 : Int64) (k42 : Int64 → Option (Int64)) (ih17 : Int64 → Int32 → Option (Int64)) (y5_17 : Int64) (y9_17 : Int32) : Option (Int64) :=
 (if z2_17 ≤ y9_17 then
 k42 y5_17
else
 obn (F_X9_productOf y5_17 z7_17) (fun r27 =>
 obn (F_X9_restOf r27 z3_17) (fun r31 =>
 bnd (y9_17 + 1) (fun x9_36 =>
 ih17 r31 x9_36))))
noncomputable def F_X9_powerOf (p0 : Int64) (p1 : Int32) (p2 : Int64) : Option (Int64) :=
 obn (F_X9_restOf (1 : Int64) p2) (fun r2 =>
 obn (F_X9_restOf p0 p2) (fun r9 =>
 LQ2 (S_X9_powerOf_17 p1 p2 r9 (fun y5_17_42 =>
 some y5_17_42)) 20000 r2 (0 : Int32)))
set_option maxHeartbeats 4000000 in
set_option maxRecDepth 100000 in
theorem c_X9_powerOf (l : Launch) (p0 : Int64) (p1 : Int32) (p2 : Int64) (r0 : Int64) (hF : F_X9_powerOf p0 p1 p2 = some r0) : Met l yX9_powerOf wsX9_powerOf rmX9_powerOf (va_Pc [.long p0, .int p1, .long p2] NW) (k2_QcV (.long r0)) 0 0 (fun _ => False) := by
  refine Met.ofW (cc := cX9_powerOf) (maxL := 10) (ret := (some .long)) (by decide) rfl ?_
  intro p e s m args below meth c s₁ B hml hv
  obtain ⟨rfl, hnw⟩ := hv
  have hx := B.exec
  have hb := B.bytes
  have hr := B.returns
  have hts := atoms_spec (ws := wsX9_powerOf) B.pre
  have hown : s.vm.findClass RX9 = some m.cls := findClass_of_methodNamed B.named
  have hlocks := B.notSynchronized
  have hcf : CallFix _ _ _ _ _ _ _ _ _ := ⟨hx, hb, hml, hown, hts⟩
  have hl := lv_entry ([.long p0, .int p1, .long p2]) (n := 10) (Nat.le_of_ble_eq_true rfl)
  rw [lg_entry_eq]
  generalize (lg_sl ([.long p0, .int p1, .long p2]) ++ List.replicate (10 - (lg_sl ([.long p0, .int p1, .long p2])).length) Slot.unset).toArray = ls at hl ⊢
  have hl : lv_has ls 10 [(0, .long p0), (2, .int p1), (3, .long p2)] := hl
  have h := hF
  clear hF
  unfold F_X9_powerOf at h
  refine lv_lconst (v := 1) hx hb dX9_powerOf_0 (by decide) ?_
  refine lv_lload_n hx hb dX9_powerOf_1 rfl (lv_at hl 2 rfl) ?_
  obtain ⟨r2, hc2, h⟩ := obn_h h
  refine pz_callS (As := [.long (1 : Int64), .long p2]) (rest := []) hcf (c_X9_restOf l (1 : Int64) p2 r2 hc2) (va_cwS 2 hts gX9_powerOf_X9_restOf rfl rfl rfl ydX9_restOf ⟨Nat.le_of_ble_eq_true rfl, Nat.le_of_ble_eq_true rfl⟩) hnw rfl hl.1 rfl (Nat.le_of_ble_eq_true rfl) dX9_powerOf_2 ⟨Nat.le_of_ble_eq_true rfl, Nat.le_of_ble_eq_true rfl⟩ ?_
  refine lv_lstore (lv' := [(5, .long r2), (0, .long p0), (2, .int p1), (3, .long p2)]) hx hb dX9_powerOf_5 hl (by decide) rfl (fun ls hl => ?_)
  refine lv_lload_n hx hb dX9_powerOf_7 rfl (lv_at hl 1 rfl) ?_
  refine lv_lload_n hx hb dX9_powerOf_8 rfl (lv_at hl 3 rfl) ?_
  obtain ⟨r9, hc9, h⟩ := obn_h h
  refine pz_callS (As := [.long p0, .long p2]) (rest := []) hcf (c_X9_restOf l p0 p2 r9 hc9) (va_cwS 2 hts gX9_powerOf_X9_restOf rfl rfl rfl ydX9_restOf ⟨Nat.le_of_ble_eq_true rfl, Nat.le_of_ble_eq_true rfl⟩) hnw rfl hl.1 rfl (Nat.le_of_ble_eq_true rfl) dX9_powerOf_9 ⟨Nat.le_of_ble_eq_true rfl, Nat.le_of_ble_eq_true rfl⟩ ?_
  refine lv_lstore (lv' := [(7, .long r9), (5, .long r2), (0, .long p0), (2, .int p1), (3, .long p2)]) hx hb dX9_powerOf_12 hl (by decide) rfl (fun ls hl => ?_)
  refine lv_iconst (v := 0) hx hb dX9_powerOf_14 (by decide) ?_
  refine lv_istore (lv' := [(9, .int (0 : Int32)), (7, .long r9), (5, .long r2), (0, .long p0), (2, .int p1), (3, .long p2)]) hx hb dX9_powerOf_15 hl (by decide) rfl (fun ls hl => ?_)
  refine LQ2_k1 (M := fun (y5_17 : Int64) (y9_17 : Int32) => ∀ (ls : Array Slot), lv_has ls 10 [(2, .int p1), (3, .long p2), (5, .long y5_17), (7, .long r9), (9, .int y9_17)] → W p l e rmX9_powerOf s m ([.long p0, .int p1, .long p2] : List Value).toArray below meth c s.heap [] 0 0 (MQ below (k2_QcV (.long r0)) ([.long p0, .int p1, .long p2] : List Value).toArray s 0 0 (fun _ => False)) (F0 m 17 ls [])) ?_ _ _ _ h ls (lv_sub hl [4, 5, 2, 1, 0] rfl)
  intro k42 hk42 ih17 hih17 y5_17 y9_17 h ls hl
  unfold S_X9_powerOf_17 at h
  refine lv_iload hx hb dX9_powerOf_17 (lv_at hl 4 rfl) ?_
  refine lv_iload_n hx hb dX9_powerOf_19 rfl (lv_at hl 0 rfl) ?_
  refine lv_icmp_ge (tgt := 42) hx hb dX9_powerOf_20 (by decide) (fun c20 => ?_) (fun c20 => ?_)
  · have h := it_ c20 h
    rw [hk42] at h
    refine lv_lload hx hb dX9_powerOf_42 (lv_at hl 2 rfl) ?_
    have e1 := Option.some.inj h
    subst e1
    exact W.lret hx hb hr (fun t ht _ => ⟨rfl, ht⟩) no_q dX9_powerOf_44
  · have h := if_ c20 h
    refine lv_lload hx hb dX9_powerOf_23 (lv_at hl 2 rfl) ?_
    refine lv_lload hx hb dX9_powerOf_25 (lv_at hl 3 rfl) ?_
    obtain ⟨r27, hc27, h⟩ := obn_h h
    refine pz_callS (As := [.long y5_17, .long r9]) (rest := []) hcf (c_X9_productOf l y5_17 r9 r27 hc27) (va_cwS 2 hts gX9_powerOf_X9_productOf rfl rfl rfl ydX9_productOf ⟨Nat.le_of_ble_eq_true rfl, Nat.le_of_ble_eq_true rfl⟩) hnw rfl hl.1 rfl (Nat.le_of_ble_eq_true rfl) dX9_powerOf_27 ⟨Nat.le_of_ble_eq_true rfl, Nat.le_of_ble_eq_true rfl⟩ ?_
    refine lv_lload_n hx hb dX9_powerOf_30 rfl (lv_at hl 1 rfl) ?_
    obtain ⟨r31, hc31, h⟩ := obn_h h
    refine pz_callS (As := [.long r27, .long p2]) (rest := []) hcf (c_X9_restOf l r27 p2 r31 hc31) (va_cwS 2 hts gX9_powerOf_X9_restOf rfl rfl rfl ydX9_restOf ⟨Nat.le_of_ble_eq_true rfl, Nat.le_of_ble_eq_true rfl⟩) hnw rfl hl.1 rfl (Nat.le_of_ble_eq_true rfl) dX9_powerOf_31 ⟨Nat.le_of_ble_eq_true rfl, Nat.le_of_ble_eq_true rfl⟩ ?_
    refine lv_lstore (lv' := [(5, .long r31), (2, .int p1), (3, .long p2), (7, .long r9), (9, .int y9_17)]) hx hb dX9_powerOf_34 hl (by decide) rfl (fun ls hl => ?_)
    obtain ⟨x9_36, e_x9_36⟩ : ∃ z : Int32, z = y9_17 + 1 := ⟨_, rfl⟩
    have h := bnd_h e_x9_36 h
    refine lv_iinc (v := x9_36) (lv' := [(9, .int x9_36), (5, .long r31), (2, .int p1), (3, .long p2), (7, .long r9)]) hx hb dX9_powerOf_36 hl (k := 4) rfl (by rw [e_x9_36]; rfl) (by decide) rfl (fun ls hl => ?_)
    refine lv_goto (tgt := 17) hx hb dX9_powerOf_39 (by decide) ?_
    exact hih17 r31 x9_36 h ls (lv_sub hl [2, 3, 1, 4, 0] rfl)

noncomputable abbrev rmX9_isPrimeNow : Room := { frames := 5, cells := 0, slots := 0, locals := 116 }
theorem ydX9_isPrimeNow : yX9_isPrimeNow.cls ≠ "java/lang/invoke/MethodHandle" ∧ yX9_isPrimeNow.cls ≠ "java/lang/invoke/VarHandle" ∧ (parseMethodDescriptor yX9_isPrimeNow.desc).map (fun d => d.parameters.length) = some 1 := by decide +kernel
noncomputable def S_X9_isPrimeNow_14 (z0_14 : Int64) (k37 : Unit → Option (Int32)) (k46 : Unit → Option (Int32)) (ih14 : Int64 → Option (Int32)) (y2_14 : Int64) : Option (Int32) :=
 obn (F_X9_degreeOf y2_14) (fun r16 =>
 obn (F_X9_degreeOf z0_14) (fun r21 =>
 (if r21 < ((2 : Int32) * r16) then
 k46 ()
else
 obn (F_X9_restOf z0_14 y2_14) (fun r29 =>
 (if r29 = (0 : Int64) then
 k37 ()
else
 bnd (y2_14 + (1 : Int64)) (fun x2_42 =>
 ih14 x2_42))))))
noncomputable def F_X9_isPrimeNow (p0 : Int64) : Option (Int32) :=
 obn (F_X9_degreeOf p0) (fun r1 =>
 (if (1 : Int32) ≤ r1 then
 LQ1 (S_X9_isPrimeNow_14 p0 (fun _ =>
 some (0 : Int32)) (fun _ =>
 some (1 : Int32))) 20000 (2 : Int64)
else
 some (0 : Int32)))
set_option maxHeartbeats 4000000 in
set_option maxRecDepth 100000 in
theorem c_X9_isPrimeNow (l : Launch) (p0 : Int64) (r0 : Int32) (hF : F_X9_isPrimeNow p0 = some r0) : Met l yX9_isPrimeNow wsX9_isPrimeNow rmX9_isPrimeNow (va_Pc [.long p0] NW) (k2_QcV (.int r0)) 0 0 (fun _ => False) := by
  refine Met.ofW (cc := cX9_isPrimeNow) (maxL := 4) (ret := (some .boolean)) (by decide) rfl ?_
  intro p e s m args below meth c s₁ B hml hv
  obtain ⟨rfl, hnw⟩ := hv
  have hx := B.exec
  have hb := B.bytes
  have hr := B.returns
  have hts := atoms_spec (ws := wsX9_isPrimeNow) B.pre
  have hown : s.vm.findClass RX9 = some m.cls := findClass_of_methodNamed B.named
  have hlocks := B.notSynchronized
  have hcf : CallFix _ _ _ _ _ _ _ _ _ := ⟨hx, hb, hml, hown, hts⟩
  have hl := lv_entry ([.long p0]) (n := 4) (Nat.le_of_ble_eq_true rfl)
  rw [lg_entry_eq]
  generalize (lg_sl ([.long p0]) ++ List.replicate (4 - (lg_sl ([.long p0])).length) Slot.unset).toArray = ls at hl ⊢
  have hl : lv_has ls 4 [(0, .long p0)] := hl
  have h := hF
  clear hF
  unfold F_X9_isPrimeNow at h
  refine lv_lload_n hx hb dX9_isPrimeNow_0 rfl (lv_at hl 0 rfl) ?_
  obtain ⟨r1, hc1, h⟩ := obn_h h
  refine pz_callS (As := [.long p0]) (rest := []) hcf (c_X9_degreeOf l p0 r1 hc1) (va_cwS 1 hts gX9_isPrimeNow_X9_degreeOf rfl rfl rfl ydX9_degreeOf ⟨Nat.le_of_ble_eq_true rfl, Nat.le_of_ble_eq_true rfl⟩) hnw rfl hl.1 rfl (Nat.le_of_ble_eq_true rfl) dX9_isPrimeNow_1 ⟨Nat.le_of_ble_eq_true rfl, Nat.le_of_ble_eq_true rfl⟩ ?_
  refine lv_iconst (v := 1) hx hb dX9_isPrimeNow_4 (by decide) ?_
  refine lv_icmp_ge (tgt := 10) hx hb dX9_isPrimeNow_5 (by decide) (fun c5 => ?_) (fun c5 => ?_)
  · have h := it_ c5 h
    refine lv_ldc2 hx hb hown (hts (.constantLong RX9 54 (2)) (by decide +kernel)) dX9_isPrimeNow_10 ?_
    refine lv_lstore_n (lv' := [(2, .long (2 : Int64)), (0, .long p0)]) hx hb dX9_isPrimeNow_13 rfl hl (by decide) rfl (fun ls hl => ?_)
    refine LQ1_k2 (M := fun (y2_14 : Int64) => ∀ (ls : Array Slot), lv_has ls 4 [(0, .long p0), (2, .long y2_14)] → W p l e rmX9_isPrimeNow s m ([.long p0] : List Value).toArray below meth c s.heap [] 0 0 (MQ below (k2_QcV (.int r0)) ([.long p0] : List Value).toArray s 0 0 (fun _ => False)) (F0 m 14 ls [])) ?_ _ _ h ls (lv_sub hl [1, 0] rfl)
    intro k37 hk37 k46 hk46 ih14 hih14 y2_14 h ls hl
    unfold S_X9_isPrimeNow_14 at h
    refine lv_iconst (v := 2) hx hb dX9_isPrimeNow_14 (by decide) ?_
    refine lv_lload_n hx hb dX9_isPrimeNow_15 rfl (lv_at hl 1 rfl) ?_
    obtain ⟨r16, hc16, h⟩ := obn_h h
    refine pz_callS (As := [.long y2_14]) (rest := [.int (2 : Int32)]) hcf (c_X9_degreeOf l y2_14 r16 hc16) (va_cwS 1 hts gX9_isPrimeNow_X9_degreeOf rfl rfl rfl ydX9_degreeOf ⟨Nat.le_of_ble_eq_true rfl, Nat.le_of_ble_eq_true rfl⟩) hnw rfl hl.1 rfl (Nat.le_of_ble_eq_true rfl) dX9_isPrimeNow_16 ⟨Nat.le_of_ble_eq_true rfl, Nat.le_of_ble_eq_true rfl⟩ ?_
    refine lv_imul hx hb dX9_isPrimeNow_19 ?_
    refine lv_lload_n hx hb dX9_isPrimeNow_20 rfl (lv_at hl 0 rfl) ?_
    obtain ⟨r21, hc21, h⟩ := obn_h h
    refine pz_callS (As := [.long p0]) (rest := [.int ((2 : Int32) * r16)]) hcf (c_X9_degreeOf l p0 r21 hc21) (va_cwS 1 hts gX9_isPrimeNow_X9_degreeOf rfl rfl rfl ydX9_degreeOf ⟨Nat.le_of_ble_eq_true rfl, Nat.le_of_ble_eq_true rfl⟩) hnw rfl hl.1 rfl (Nat.le_of_ble_eq_true rfl) dX9_isPrimeNow_21 ⟨Nat.le_of_ble_eq_true rfl, Nat.le_of_ble_eq_true rfl⟩ ?_
    refine lv_icmp_gt (tgt := 46) hx hb dX9_isPrimeNow_24 (by decide) (fun c24 => ?_) (fun c24 => ?_)
    · have h := it_ c24 h
      rw [hk46] at h
      refine lv_iconst (v := 1) hx hb dX9_isPrimeNow_46 (by decide) ?_
      have e1 := Option.some.inj h
      subst e1
      exact W.zret hx hb hr narrow_b1 (fun t ht _ => ⟨rfl, ht⟩) no_q dX9_isPrimeNow_47
    · have h := if_ c24 h
      refine lv_lload_n hx hb dX9_isPrimeNow_27 rfl (lv_at hl 0 rfl) ?_
      refine lv_lload_n hx hb dX9_isPrimeNow_28 rfl (lv_at hl 1 rfl) ?_
      obtain ⟨r29, hc29, h⟩ := obn_h h
      refine pz_callS (As := [.long p0, .long y2_14]) (rest := []) hcf (c_X9_restOf l p0 y2_14 r29 hc29) (va_cwS 2 hts gX9_isPrimeNow_X9_restOf rfl rfl rfl ydX9_restOf ⟨Nat.le_of_ble_eq_true rfl, Nat.le_of_ble_eq_true rfl⟩) hnw rfl hl.1 rfl (Nat.le_of_ble_eq_true rfl) dX9_isPrimeNow_29 ⟨Nat.le_of_ble_eq_true rfl, Nat.le_of_ble_eq_true rfl⟩ ?_
      refine lv_lconst (v := 0) hx hb dX9_isPrimeNow_32 (by decide) ?_
      refine W.lcmp hx hb dX9_isPrimeNow_33 ?_
      refine lv_if_ne (tgt := 39) hx hb dX9_isPrimeNow_34 (by decide) (fun c34 => ?_) (fun c34 => ?_)
      · have c34 := fun z => c34 ((lg_cmp_eq _ _).mpr z)
        have h := if_ c34 h
        refine lv_lload_n hx hb dX9_isPrimeNow_39 rfl (lv_at hl 1 rfl) ?_
        refine lv_lconst (v := 1) hx hb dX9_isPrimeNow_40 (by decide) ?_
        refine lv_ladd hx hb dX9_isPrimeNow_41 ?_
        refine lv_topl (fun x2_42 e_x2_42 => ?_)
        have h := bnd_h e_x2_42 h
        refine lv_lstore_n (lv' := [(2, .long x2_42), (0, .long p0)]) hx hb dX9_isPrimeNow_42 rfl hl (by decide) rfl (fun ls hl => ?_)
        refine lv_goto (tgt := 14) hx hb dX9_isPrimeNow_43 (by decide) ?_
        exact hih14 x2_42 h ls (lv_sub hl [1, 0] rfl)
      · have c34 := (lg_cmp_eq _ _).mp c34
        have h := it_ c34 h
        rw [hk37] at h
        refine lv_iconst (v := 0) hx hb dX9_isPrimeNow_37 (by decide) ?_
        have e1 := Option.some.inj h
        subst e1
        exact W.zret hx hb hr narrow_b0 (fun t ht _ => ⟨rfl, ht⟩) no_q dX9_isPrimeNow_38
  · have h := if_ c5 h
    refine lv_iconst (v := 0) hx hb dX9_isPrimeNow_8 (by decide) ?_
    have e1 := Option.some.inj h
    subst e1
    exact W.zret hx hb hr narrow_b0 (fun t ht _ => ⟨rfl, ht⟩) no_q dX9_isPrimeNow_9

noncomputable abbrev rmX9_primesOf : Room := { frames := 6, cells := 0, slots := 0, locals := 139 }
theorem ydX9_primesOf : yX9_primesOf.cls ≠ "java/lang/invoke/MethodHandle" ∧ yX9_primesOf.cls ≠ "java/lang/invoke/VarHandle" ∧ (parseMethodDescriptor yX9_primesOf.desc).map (fun d => d.parameters.length) = some 1 := by decide +kernel
noncomputable def S_X9_primesOf_6 (z0_6 : Int32) (k38 : Int32 → Option (Int32)) (ih6 : Int32 → Int64 → Option (Int32)) (y1_6 : Int32) (y2_6 : Int64) : Option (Int32) :=
 (if ((2 : Int64) <<< (z0_6.toInt64 &&& 63)) ≤ y2_6 then
 k38 y1_6
else
 obn (F_X9_isPrimeNow y2_6) (fun r18 =>
 (if r18 = 0 then
 bnd (y1_6 + (0 : Int32)) (fun x1_30 =>
 bnd (y2_6 + (1 : Int64)) (fun x2_34 =>
 ih6 x1_30 x2_34))
else
 bnd (y1_6 + (1 : Int32)) (fun x1_30 =>
 bnd (y2_6 + (1 : Int64)) (fun x2_34 =>
 ih6 x1_30 x2_34)))))
noncomputable def F_X9_primesOf (p0 : Int32) : Option (Int32) :=
 bnd ((1 : Int64) <<< (p0.toInt64 &&& 63)) (fun x2_5 =>
 LQ2 (S_X9_primesOf_6 p0 (fun y1_6_38 =>
 some y1_6_38)) 20000 (0 : Int32) x2_5)
set_option maxHeartbeats 4000000 in
set_option maxRecDepth 100000 in
theorem c_X9_primesOf (l : Launch) (p0 : Int32) (r0 : Int32) (hF : F_X9_primesOf p0 = some r0) : Met l yX9_primesOf wsX9_primesOf rmX9_primesOf (va_Pc [.int p0] NW) (k2_QcV (.int r0)) 0 0 (fun _ => False) := by
  refine Met.ofW (cc := cX9_primesOf) (maxL := 4) (ret := (some .int)) (by decide) rfl ?_
  intro p e s m args below meth c s₁ B hml hv
  obtain ⟨rfl, hnw⟩ := hv
  have hx := B.exec
  have hb := B.bytes
  have hr := B.returns
  have hts := atoms_spec (ws := wsX9_primesOf) B.pre
  have hown : s.vm.findClass RX9 = some m.cls := findClass_of_methodNamed B.named
  have hlocks := B.notSynchronized
  have hcf : CallFix _ _ _ _ _ _ _ _ _ := ⟨hx, hb, hml, hown, hts⟩
  have hl := lv_entry ([.int p0]) (n := 4) (Nat.le_of_ble_eq_true rfl)
  rw [lg_entry_eq]
  generalize (lg_sl ([.int p0]) ++ List.replicate (4 - (lg_sl ([.int p0])).length) Slot.unset).toArray = ls at hl ⊢
  have hl : lv_has ls 4 [(0, .int p0)] := hl
  have h := hF
  clear hF
  unfold F_X9_primesOf at h
  refine lv_iconst (v := 0) hx hb dX9_primesOf_0 (by decide) ?_
  refine lv_istore_n (lv' := [(1, .int (0 : Int32)), (0, .int p0)]) hx hb dX9_primesOf_1 rfl hl (by decide) rfl (fun ls hl => ?_)
  refine lv_lconst (v := 1) hx hb dX9_primesOf_2 (by decide) ?_
  refine lv_iload_n hx hb dX9_primesOf_3 rfl (lv_at hl 1 rfl) ?_
  refine lv_lshl (v := (1 : Int64) <<< (p0.toInt64 &&& 63)) hx hb dX9_primesOf_4 rfl ?_
  refine lv_topl (fun x2_5 e_x2_5 => ?_)
  have h := bnd_h e_x2_5 h
  refine lv_lstore_n (lv' := [(2, .long x2_5), (1, .int (0 : Int32)), (0, .int p0)]) hx hb dX9_primesOf_5 rfl hl (by decide) rfl (fun ls hl => ?_)
  refine LQ2_k1 (M := fun (y1_6 : Int32) (y2_6 : Int64) => ∀ (ls : Array Slot), lv_has ls 4 [(0, .int p0), (1, .int y1_6), (2, .long y2_6)] → W p l e rmX9_primesOf s m ([.int p0] : List Value).toArray below meth c s.heap [] 0 0 (MQ below (k2_QcV (.int r0)) ([.int p0] : List Value).toArray s 0 0 (fun _ => False)) (F0 m 6 ls [])) ?_ _ _ _ h ls (lv_sub hl [2, 1, 0] rfl)
  intro k38 hk38 ih6 hih6 y1_6 y2_6 h ls hl
  unfold S_X9_primesOf_6 at h
  refine lv_lload_n hx hb dX9_primesOf_6 rfl (lv_at hl 2 rfl) ?_
  refine lv_ldc2 hx hb hown (hts (.constantLong RX9 54 (2)) (by decide +kernel)) dX9_primesOf_7 ?_
  refine lv_iload_n hx hb dX9_primesOf_10 rfl (lv_at hl 0 rfl) ?_
  refine lv_lshl (v := (2 : Int64) <<< (p0.toInt64 &&& 63)) hx hb dX9_primesOf_11 rfl ?_
  refine W.lcmp hx hb dX9_primesOf_12 ?_
  refine lv_if_ge (tgt := 38) hx hb dX9_primesOf_13 (by decide) (fun c13 => ?_) (fun c13 => ?_)
  · have c13 := (lg_cmp_ge _ _).mp c13
    have h := it_ c13 h
    rw [hk38] at h
    refine lv_iload_n hx hb dX9_primesOf_38 rfl (lv_at hl 1 rfl) ?_
    have e1 := Option.some.inj h
    subst e1
    exact W.iret hx hb hr (fun t ht _ => ⟨rfl, ht⟩) no_q dX9_primesOf_39
  · have c13 := fun z => c13 ((lg_cmp_ge _ _).mpr z)
    have h := if_ c13 h
    refine lv_iload_n hx hb dX9_primesOf_16 rfl (lv_at hl 1 rfl) ?_
    refine lv_lload_n hx hb dX9_primesOf_17 rfl (lv_at hl 2 rfl) ?_
    obtain ⟨r18, hc18, h⟩ := obn_h h
    refine pz_callS (As := [.long y2_6]) (rest := [.int y1_6]) hcf (c_X9_isPrimeNow l y2_6 r18 hc18) (va_cwS 1 hts gX9_primesOf_X9_isPrimeNow rfl rfl rfl ydX9_isPrimeNow ⟨Nat.le_of_ble_eq_true rfl, Nat.le_of_ble_eq_true rfl⟩) hnw rfl hl.1 rfl (Nat.le_of_ble_eq_true rfl) dX9_primesOf_18 ⟨Nat.le_of_ble_eq_true rfl, Nat.le_of_ble_eq_true rfl⟩ ?_
    refine lv_if_eq (tgt := 28) hx hb dX9_primesOf_21 (by decide) (fun c21 => ?_) (fun c21 => ?_)
    · have h := it_ c21 h
      refine lv_iconst (v := 0) hx hb dX9_primesOf_28 (by decide) ?_
      refine lv_iadd hx hb dX9_primesOf_29 ?_
      refine lv_topi (fun x1_30 e_x1_30 => ?_)
      have h := bnd_h e_x1_30 h
      refine lv_istore_n (lv' := [(1, .int x1_30), (0, .int p0), (2, .long y2_6)]) hx hb dX9_primesOf_30 rfl hl (by decide) rfl (fun ls hl => ?_)
      refine lv_lload_n hx hb dX9_primesOf_31 rfl (lv_at hl 2 rfl) ?_
      refine lv_lconst (v := 1) hx hb dX9_primesOf_32 (by decide) ?_
      refine lv_ladd hx hb dX9_primesOf_33 ?_
      refine lv_topl (fun x2_34 e_x2_34 => ?_)
      have h := bnd_h e_x2_34 h
      refine lv_lstore_n (lv' := [(2, .long x2_34), (1, .int x1_30), (0, .int p0)]) hx hb dX9_primesOf_34 rfl hl (by decide) rfl (fun ls hl => ?_)
      refine lv_goto (tgt := 6) hx hb dX9_primesOf_35 (by decide) ?_
      exact hih6 x1_30 x2_34 h ls (lv_sub hl [2, 1, 0] rfl)
    · have h := if_ c21 h
      refine lv_iconst (v := 1) hx hb dX9_primesOf_24 (by decide) ?_
      refine lv_goto (tgt := 29) hx hb dX9_primesOf_25 (by decide) ?_
      refine lv_iadd hx hb dX9_primesOf_29 ?_
      refine lv_topi (fun x1_30 e_x1_30 => ?_)
      have h := bnd_h e_x1_30 h
      refine lv_istore_n (lv' := [(1, .int x1_30), (0, .int p0), (2, .long y2_6)]) hx hb dX9_primesOf_30 rfl hl (by decide) rfl (fun ls hl => ?_)
      refine lv_lload_n hx hb dX9_primesOf_31 rfl (lv_at hl 2 rfl) ?_
      refine lv_lconst (v := 1) hx hb dX9_primesOf_32 (by decide) ?_
      refine lv_ladd hx hb dX9_primesOf_33 ?_
      refine lv_topl (fun x2_34 e_x2_34 => ?_)
      have h := bnd_h e_x2_34 h
      refine lv_lstore_n (lv' := [(2, .long x2_34), (1, .int x1_30), (0, .int p0)]) hx hb dX9_primesOf_34 rfl hl (by decide) rfl (fun ls hl => ?_)
      refine lv_goto (tgt := 6) hx hb dX9_primesOf_35 (by decide) ?_
      exact hih6 x1_30 x2_34 h ls (lv_sub hl [2, 1, 0] rfl)

noncomputable abbrev rmX9_least : Room := { frames := 5, cells := 0, slots := 0, locals := 116 }
theorem ydX9_least : yX9_least.cls ≠ "java/lang/invoke/MethodHandle" ∧ yX9_least.cls ≠ "java/lang/invoke/VarHandle" ∧ (parseMethodDescriptor yX9_least.desc).map (fun d => d.parameters.length) = some 1 := by decide +kernel
noncomputable def S_X9_least_4 (z0_4 : Int64) (k34 : Int64 → Option (Int64)) (ih4 : Int64 → Option (Int64)) (y2_4 : Int64) : Option (Int64) :=
 obn (F_X9_degreeOf y2_4) (fun r6 =>
 obn (F_X9_degreeOf z0_4) (fun r11 =>
 (if r11 < ((2 : Int32) * r6) then
 k34 y2_4
else
 obn (F_X9_restOf z0_4 y2_4) (fun r19 =>
 (if r19 = (0 : Int64) then
 k34 y2_4
else
 bnd (y2_4 + (1 : Int64)) (fun x2_30 =>
 ih4 x2_30))))))
noncomputable def F_X9_least (p0 : Int64) : Option (Int64) :=
 LQ1 (S_X9_least_4 p0 (fun y2_4_34 =>
 obn (F_X9_degreeOf y2_4_34) (fun r36 =>
 obn (F_X9_degreeOf p0) (fun r41 =>
 (if r41 < ((2 : Int32) * r36) then
 some p0
else
 some y2_4_34))))) 20000 (2 : Int64)
set_option maxHeartbeats 4000000 in
set_option maxRecDepth 100000 in
theorem c_X9_least (l : Launch) (p0 : Int64) (r0 : Int64) (hF : F_X9_least p0 = some r0) : Met l yX9_least wsX9_least rmX9_least (va_Pc [.long p0] NW) (k2_QcV (.long r0)) 0 0 (fun _ => False) := by
  refine Met.ofW (cc := cX9_least) (maxL := 4) (ret := (some .long)) (by decide) rfl ?_
  intro p e s m args below meth c s₁ B hml hv
  obtain ⟨rfl, hnw⟩ := hv
  have hx := B.exec
  have hb := B.bytes
  have hr := B.returns
  have hts := atoms_spec (ws := wsX9_least) B.pre
  have hown : s.vm.findClass RX9 = some m.cls := findClass_of_methodNamed B.named
  have hlocks := B.notSynchronized
  have hcf : CallFix _ _ _ _ _ _ _ _ _ := ⟨hx, hb, hml, hown, hts⟩
  have hl := lv_entry ([.long p0]) (n := 4) (Nat.le_of_ble_eq_true rfl)
  rw [lg_entry_eq]
  generalize (lg_sl ([.long p0]) ++ List.replicate (4 - (lg_sl ([.long p0])).length) Slot.unset).toArray = ls at hl ⊢
  have hl : lv_has ls 4 [(0, .long p0)] := hl
  have h := hF
  clear hF
  unfold F_X9_least at h
  refine lv_ldc2 hx hb hown (hts (.constantLong RX9 54 (2)) (by decide +kernel)) dX9_least_0 ?_
  refine lv_lstore_n (lv' := [(2, .long (2 : Int64)), (0, .long p0)]) hx hb dX9_least_3 rfl hl (by decide) rfl (fun ls hl => ?_)
  refine LQ1_k1 (M := fun (y2_4 : Int64) => ∀ (ls : Array Slot), lv_has ls 4 [(0, .long p0), (2, .long y2_4)] → W p l e rmX9_least s m ([.long p0] : List Value).toArray below meth c s.heap [] 0 0 (MQ below (k2_QcV (.long r0)) ([.long p0] : List Value).toArray s 0 0 (fun _ => False)) (F0 m 4 ls [])) ?_ _ _ h ls (lv_sub hl [1, 0] rfl)
  intro k34 hk34 ih4 hih4 y2_4 h ls hl
  unfold S_X9_least_4 at h
  refine lv_iconst (v := 2) hx hb dX9_least_4 (by decide) ?_
  refine lv_lload_n hx hb dX9_least_5 rfl (lv_at hl 1 rfl) ?_
  obtain ⟨r6, hc6, h⟩ := obn_h h
  refine pz_callS (As := [.long y2_4]) (rest := [.int (2 : Int32)]) hcf (c_X9_degreeOf l y2_4 r6 hc6) (va_cwS 1 hts gX9_least_X9_degreeOf rfl rfl rfl ydX9_degreeOf ⟨Nat.le_of_ble_eq_true rfl, Nat.le_of_ble_eq_true rfl⟩) hnw rfl hl.1 rfl (Nat.le_of_ble_eq_true rfl) dX9_least_6 ⟨Nat.le_of_ble_eq_true rfl, Nat.le_of_ble_eq_true rfl⟩ ?_
  refine lv_imul hx hb dX9_least_9 ?_
  refine lv_lload_n hx hb dX9_least_10 rfl (lv_at hl 0 rfl) ?_
  obtain ⟨r11, hc11, h⟩ := obn_h h
  refine pz_callS (As := [.long p0]) (rest := [.int ((2 : Int32) * r6)]) hcf (c_X9_degreeOf l p0 r11 hc11) (va_cwS 1 hts gX9_least_X9_degreeOf rfl rfl rfl ydX9_degreeOf ⟨Nat.le_of_ble_eq_true rfl, Nat.le_of_ble_eq_true rfl⟩) hnw rfl hl.1 rfl (Nat.le_of_ble_eq_true rfl) dX9_least_11 ⟨Nat.le_of_ble_eq_true rfl, Nat.le_of_ble_eq_true rfl⟩ ?_
  refine lv_icmp_gt (tgt := 34) hx hb dX9_least_14 (by decide) (fun c14 => ?_) (fun c14 => ?_)
  · have h := it_ c14 h
    rw [hk34] at h
    refine lv_iconst (v := 2) hx hb dX9_least_34 (by decide) ?_
    refine lv_lload_n hx hb dX9_least_35 rfl (lv_at hl 1 rfl) ?_
    obtain ⟨r36, hc36, h⟩ := obn_h h
    refine pz_callS (As := [.long y2_4]) (rest := [.int (2 : Int32)]) hcf (c_X9_degreeOf l y2_4 r36 hc36) (va_cwS 1 hts gX9_least_X9_degreeOf rfl rfl rfl ydX9_degreeOf ⟨Nat.le_of_ble_eq_true rfl, Nat.le_of_ble_eq_true rfl⟩) hnw rfl hl.1 rfl (Nat.le_of_ble_eq_true rfl) dX9_least_36 ⟨Nat.le_of_ble_eq_true rfl, Nat.le_of_ble_eq_true rfl⟩ ?_
    refine lv_imul hx hb dX9_least_39 ?_
    refine lv_lload_n hx hb dX9_least_40 rfl (lv_at hl 0 rfl) ?_
    obtain ⟨r41, hc41, h⟩ := obn_h h
    refine pz_callS (As := [.long p0]) (rest := [.int ((2 : Int32) * r36)]) hcf (c_X9_degreeOf l p0 r41 hc41) (va_cwS 1 hts gX9_least_X9_degreeOf rfl rfl rfl ydX9_degreeOf ⟨Nat.le_of_ble_eq_true rfl, Nat.le_of_ble_eq_true rfl⟩) hnw rfl hl.1 rfl (Nat.le_of_ble_eq_true rfl) dX9_least_41 ⟨Nat.le_of_ble_eq_true rfl, Nat.le_of_ble_eq_true rfl⟩ ?_
    refine lv_icmp_gt (tgt := 51) hx hb dX9_least_44 (by decide) (fun c44 => ?_) (fun c44 => ?_)
    · have h := it_ c44 h
      refine lv_lload_n hx hb dX9_least_51 rfl (lv_at hl 0 rfl) ?_
      have e1 := Option.some.inj h
      subst e1
      exact W.lret hx hb hr (fun t ht _ => ⟨rfl, ht⟩) no_q dX9_least_52
    · have h := if_ c44 h
      refine lv_lload_n hx hb dX9_least_47 rfl (lv_at hl 1 rfl) ?_
      refine lv_goto (tgt := 52) hx hb dX9_least_48 (by decide) ?_
      have e1 := Option.some.inj h
      subst e1
      exact W.lret hx hb hr (fun t ht _ => ⟨rfl, ht⟩) no_q dX9_least_52
  · have h := if_ c14 h
    refine lv_lload_n hx hb dX9_least_17 rfl (lv_at hl 0 rfl) ?_
    refine lv_lload_n hx hb dX9_least_18 rfl (lv_at hl 1 rfl) ?_
    obtain ⟨r19, hc19, h⟩ := obn_h h
    refine pz_callS (As := [.long p0, .long y2_4]) (rest := []) hcf (c_X9_restOf l p0 y2_4 r19 hc19) (va_cwS 2 hts gX9_least_X9_restOf rfl rfl rfl ydX9_restOf ⟨Nat.le_of_ble_eq_true rfl, Nat.le_of_ble_eq_true rfl⟩) hnw rfl hl.1 rfl (Nat.le_of_ble_eq_true rfl) dX9_least_19 ⟨Nat.le_of_ble_eq_true rfl, Nat.le_of_ble_eq_true rfl⟩ ?_
    refine lv_lconst (v := 0) hx hb dX9_least_22 (by decide) ?_
    refine W.lcmp hx hb dX9_least_23 ?_
    refine lv_if_eq (tgt := 34) hx hb dX9_least_24 (by decide) (fun c24 => ?_) (fun c24 => ?_)
    · have c24 := (lg_cmp_eq _ _).mp c24
      have h := it_ c24 h
      rw [hk34] at h
      refine lv_iconst (v := 2) hx hb dX9_least_34 (by decide) ?_
      refine lv_lload_n hx hb dX9_least_35 rfl (lv_at hl 1 rfl) ?_
      obtain ⟨r36, hc36, h⟩ := obn_h h
      refine pz_callS (As := [.long y2_4]) (rest := [.int (2 : Int32)]) hcf (c_X9_degreeOf l y2_4 r36 hc36) (va_cwS 1 hts gX9_least_X9_degreeOf rfl rfl rfl ydX9_degreeOf ⟨Nat.le_of_ble_eq_true rfl, Nat.le_of_ble_eq_true rfl⟩) hnw rfl hl.1 rfl (Nat.le_of_ble_eq_true rfl) dX9_least_36 ⟨Nat.le_of_ble_eq_true rfl, Nat.le_of_ble_eq_true rfl⟩ ?_
      refine lv_imul hx hb dX9_least_39 ?_
      refine lv_lload_n hx hb dX9_least_40 rfl (lv_at hl 0 rfl) ?_
      obtain ⟨r41, hc41, h⟩ := obn_h h
      refine pz_callS (As := [.long p0]) (rest := [.int ((2 : Int32) * r36)]) hcf (c_X9_degreeOf l p0 r41 hc41) (va_cwS 1 hts gX9_least_X9_degreeOf rfl rfl rfl ydX9_degreeOf ⟨Nat.le_of_ble_eq_true rfl, Nat.le_of_ble_eq_true rfl⟩) hnw rfl hl.1 rfl (Nat.le_of_ble_eq_true rfl) dX9_least_41 ⟨Nat.le_of_ble_eq_true rfl, Nat.le_of_ble_eq_true rfl⟩ ?_
      refine lv_icmp_gt (tgt := 51) hx hb dX9_least_44 (by decide) (fun c44 => ?_) (fun c44 => ?_)
      · have h := it_ c44 h
        refine lv_lload_n hx hb dX9_least_51 rfl (lv_at hl 0 rfl) ?_
        have e1 := Option.some.inj h
        subst e1
        exact W.lret hx hb hr (fun t ht _ => ⟨rfl, ht⟩) no_q dX9_least_52
      · have h := if_ c44 h
        refine lv_lload_n hx hb dX9_least_47 rfl (lv_at hl 1 rfl) ?_
        refine lv_goto (tgt := 52) hx hb dX9_least_48 (by decide) ?_
        have e1 := Option.some.inj h
        subst e1
        exact W.lret hx hb hr (fun t ht _ => ⟨rfl, ht⟩) no_q dX9_least_52
    · have c24 := fun z => c24 ((lg_cmp_eq _ _).mpr z)
      have h := if_ c24 h
      refine lv_lload_n hx hb dX9_least_27 rfl (lv_at hl 1 rfl) ?_
      refine lv_lconst (v := 1) hx hb dX9_least_28 (by decide) ?_
      refine lv_ladd hx hb dX9_least_29 ?_
      refine lv_topl (fun x2_30 e_x2_30 => ?_)
      have h := bnd_h e_x2_30 h
      refine lv_lstore_n (lv' := [(2, .long x2_30), (0, .long p0)]) hx hb dX9_least_30 rfl hl (by decide) rfl (fun ls hl => ?_)
      refine lv_goto (tgt := 4) hx hb dX9_least_31 (by decide) ?_
      exact hih4 x2_30 h ls (lv_sub hl [1, 0] rfl)

noncomputable abbrev rmX9_isWheel : Room := { frames := 3, cells := 0, slots := 0, locals := 64 }
theorem ydX9_isWheel : yX9_isWheel.cls ≠ "java/lang/invoke/MethodHandle" ∧ yX9_isWheel.cls ≠ "java/lang/invoke/VarHandle" ∧ (parseMethodDescriptor yX9_isWheel.desc).map (fun d => d.parameters.length) = some 1 := by decide +kernel
noncomputable def F_X9_isWheel (p0 : Int64) : Option (Int32) :=
 obn (F_X9_degreeOf p0) (fun r1 =>
 (if r1 < (1 : Int32) then
 some (0 : Int32)
else
 obn (F_X9_degreeOf p0) (fun r9 =>
 (if (8 : Int32) < r9 then
 some (0 : Int32)
else
 (if (p0 &&& (1 : Int64)) = (1 : Int64) then
 some (1 : Int32)
else
 some (0 : Int32))))))
set_option maxHeartbeats 4000000 in
set_option maxRecDepth 100000 in
theorem c_X9_isWheel (l : Launch) (p0 : Int64) (r0 : Int32) (hF : F_X9_isWheel p0 = some r0) : Met l yX9_isWheel wsX9_isWheel rmX9_isWheel (va_Pc [.long p0] NW) (k2_QcV (.int r0)) 0 0 (fun _ => False) := by
  refine Met.ofW (cc := cX9_isWheel) (maxL := 2) (ret := (some .boolean)) (by decide) rfl ?_
  intro p e s m args below meth c s₁ B hml hv
  obtain ⟨rfl, hnw⟩ := hv
  have hx := B.exec
  have hb := B.bytes
  have hr := B.returns
  have hts := atoms_spec (ws := wsX9_isWheel) B.pre
  have hown : s.vm.findClass RX9 = some m.cls := findClass_of_methodNamed B.named
  have hlocks := B.notSynchronized
  have hcf : CallFix _ _ _ _ _ _ _ _ _ := ⟨hx, hb, hml, hown, hts⟩
  have hl := lv_entry ([.long p0]) (n := 2) (Nat.le_of_ble_eq_true rfl)
  rw [lg_entry_eq]
  generalize (lg_sl ([.long p0]) ++ List.replicate (2 - (lg_sl ([.long p0])).length) Slot.unset).toArray = ls at hl ⊢
  have hl : lv_has ls 2 [(0, .long p0)] := hl
  have h := hF
  clear hF
  unfold F_X9_isWheel at h
  refine lv_lload_n hx hb dX9_isWheel_0 rfl (lv_at hl 0 rfl) ?_
  obtain ⟨r1, hc1, h⟩ := obn_h h
  refine pz_callS (As := [.long p0]) (rest := []) hcf (c_X9_degreeOf l p0 r1 hc1) (va_cwS 1 hts gX9_isWheel_X9_degreeOf rfl rfl rfl ydX9_degreeOf ⟨Nat.le_of_ble_eq_true rfl, Nat.le_of_ble_eq_true rfl⟩) hnw rfl hl.1 rfl (Nat.le_of_ble_eq_true rfl) dX9_isWheel_1 ⟨Nat.le_of_ble_eq_true rfl, Nat.le_of_ble_eq_true rfl⟩ ?_
  refine lv_iconst (v := 1) hx hb dX9_isWheel_4 (by decide) ?_
  refine lv_icmp_lt (tgt := 29) hx hb dX9_isWheel_5 (by decide) (fun c5 => ?_) (fun c5 => ?_)
  · have h := it_ c5 h
    refine lv_iconst (v := 0) hx hb dX9_isWheel_29 (by decide) ?_
    have e1 := Option.some.inj h
    subst e1
    exact W.zret hx hb hr narrow_b0 (fun t ht _ => ⟨rfl, ht⟩) no_q dX9_isWheel_30
  · have h := if_ c5 h
    refine lv_lload_n hx hb dX9_isWheel_8 rfl (lv_at hl 0 rfl) ?_
    obtain ⟨r9, hc9, h⟩ := obn_h h
    refine pz_callS (As := [.long p0]) (rest := []) hcf (c_X9_degreeOf l p0 r9 hc9) (va_cwS 1 hts gX9_isWheel_X9_degreeOf rfl rfl rfl ydX9_degreeOf ⟨Nat.le_of_ble_eq_true rfl, Nat.le_of_ble_eq_true rfl⟩) hnw rfl hl.1 rfl (Nat.le_of_ble_eq_true rfl) dX9_isWheel_9 ⟨Nat.le_of_ble_eq_true rfl, Nat.le_of_ble_eq_true rfl⟩ ?_
    refine lv_bipush (v := 8) hx hb dX9_isWheel_12 (by decide) ?_
    refine lv_icmp_gt (tgt := 29) hx hb dX9_isWheel_14 (by decide) (fun c14 => ?_) (fun c14 => ?_)
    · have h := it_ c14 h
      refine lv_iconst (v := 0) hx hb dX9_isWheel_29 (by decide) ?_
      have e1 := Option.some.inj h
      subst e1
      exact W.zret hx hb hr narrow_b0 (fun t ht _ => ⟨rfl, ht⟩) no_q dX9_isWheel_30
    · have h := if_ c14 h
      refine lv_lload_n hx hb dX9_isWheel_17 rfl (lv_at hl 0 rfl) ?_
      refine lv_lconst (v := 1) hx hb dX9_isWheel_18 (by decide) ?_
      refine lv_land hx hb dX9_isWheel_19 ?_
      refine lv_lconst (v := 1) hx hb dX9_isWheel_20 (by decide) ?_
      refine W.lcmp hx hb dX9_isWheel_21 ?_
      refine lv_if_ne (tgt := 29) hx hb dX9_isWheel_22 (by decide) (fun c22 => ?_) (fun c22 => ?_)
      · have c22 := fun z => c22 ((lg_cmp_eq _ _).mpr z)
        have h := if_ c22 h
        refine lv_iconst (v := 0) hx hb dX9_isWheel_29 (by decide) ?_
        have e1 := Option.some.inj h
        subst e1
        exact W.zret hx hb hr narrow_b0 (fun t ht _ => ⟨rfl, ht⟩) no_q dX9_isWheel_30
      · have c22 := (lg_cmp_eq _ _).mp c22
        have h := it_ c22 h
        refine lv_iconst (v := 1) hx hb dX9_isWheel_25 (by decide) ?_
        refine lv_goto (tgt := 30) hx hb dX9_isWheel_26 (by decide) ?_
        have e1 := Option.some.inj h
        subst e1
        exact W.zret hx hb hr narrow_b1 (fun t ht _ => ⟨rfl, ht⟩) no_q dX9_isWheel_30

noncomputable abbrev rmX9_periodOf : Room := { frames := 5, cells := 0, slots := 0, locals := 116 }
theorem ydX9_periodOf : yX9_periodOf.cls ≠ "java/lang/invoke/MethodHandle" ∧ yX9_periodOf.cls ≠ "java/lang/invoke/VarHandle" ∧ (parseMethodDescriptor yX9_periodOf.desc).map (fun d => d.parameters.length) = some 1 := by decide +kernel
noncomputable def S_X9_periodOf_17 (z0_17 : Int64) (z3_17 : Int64) (k40 : Int32 → Option (Int32)) (ih17 : Int32 → Int64 → Option (Int32)) (y2_17 : Int32) (y5_17 : Int64) : Option (Int32) :=
 (if y5_17 = z3_17 then
 k40 y2_17
else
 bnd (y2_17 + 1) (fun x2_24 =>
 obn (F_X9_restOf (y5_17 <<< ((1 : Int32).toInt64 &&& 63)) z0_17) (fun r32 =>
 ih17 x2_24 r32)))
noncomputable def F_X9_periodOf (p0 : Int64) : Option (Int32) :=
 obn (F_X9_restOf (1 : Int64) p0) (fun r4 =>
 obn (F_X9_restOf (2 : Int64) p0) (fun r12 =>
 LQ2 (S_X9_periodOf_17 p0 r4 (fun y2_17_40 =>
 some y2_17_40)) 20000 (1 : Int32) r12))
set_option maxHeartbeats 4000000 in
set_option maxRecDepth 100000 in
theorem c_X9_periodOf (l : Launch) (p0 : Int64) (r0 : Int32) (hF : F_X9_periodOf p0 = some r0) : Met l yX9_periodOf wsX9_periodOf rmX9_periodOf (va_Pc [.long p0] NW) (k2_QcV (.int r0)) 0 0 (fun _ => False) := by
  refine Met.ofW (cc := cX9_periodOf) (maxL := 7) (ret := (some .int)) (by decide) rfl ?_
  intro p e s m args below meth c s₁ B hml hv
  obtain ⟨rfl, hnw⟩ := hv
  have hx := B.exec
  have hb := B.bytes
  have hr := B.returns
  have hts := atoms_spec (ws := wsX9_periodOf) B.pre
  have hown : s.vm.findClass RX9 = some m.cls := findClass_of_methodNamed B.named
  have hlocks := B.notSynchronized
  have hcf : CallFix _ _ _ _ _ _ _ _ _ := ⟨hx, hb, hml, hown, hts⟩
  have hl := lv_entry ([.long p0]) (n := 7) (Nat.le_of_ble_eq_true rfl)
  rw [lg_entry_eq]
  generalize (lg_sl ([.long p0]) ++ List.replicate (7 - (lg_sl ([.long p0])).length) Slot.unset).toArray = ls at hl ⊢
  have hl : lv_has ls 7 [(0, .long p0)] := hl
  have h := hF
  clear hF
  unfold F_X9_periodOf at h
  refine lv_iconst (v := 1) hx hb dX9_periodOf_0 (by decide) ?_
  refine lv_istore_n (lv' := [(2, .int (1 : Int32)), (0, .long p0)]) hx hb dX9_periodOf_1 rfl hl (by decide) rfl (fun ls hl => ?_)
  refine lv_lconst (v := 1) hx hb dX9_periodOf_2 (by decide) ?_
  refine lv_lload_n hx hb dX9_periodOf_3 rfl (lv_at hl 1 rfl) ?_
  obtain ⟨r4, hc4, h⟩ := obn_h h
  refine pz_callS (As := [.long (1 : Int64), .long p0]) (rest := []) hcf (c_X9_restOf l (1 : Int64) p0 r4 hc4) (va_cwS 2 hts gX9_periodOf_X9_restOf rfl rfl rfl ydX9_restOf ⟨Nat.le_of_ble_eq_true rfl, Nat.le_of_ble_eq_true rfl⟩) hnw rfl hl.1 rfl (Nat.le_of_ble_eq_true rfl) dX9_periodOf_4 ⟨Nat.le_of_ble_eq_true rfl, Nat.le_of_ble_eq_true rfl⟩ ?_
  refine lv_lstore_n (lv' := [(3, .long r4), (2, .int (1 : Int32)), (0, .long p0)]) hx hb dX9_periodOf_7 rfl hl (by decide) rfl (fun ls hl => ?_)
  refine lv_ldc2 hx hb hown (hts (.constantLong RX9 54 (2)) (by decide +kernel)) dX9_periodOf_8 ?_
  refine lv_lload_n hx hb dX9_periodOf_11 rfl (lv_at hl 2 rfl) ?_
  obtain ⟨r12, hc12, h⟩ := obn_h h
  refine pz_callS (As := [.long (2 : Int64), .long p0]) (rest := []) hcf (c_X9_restOf l (2 : Int64) p0 r12 hc12) (va_cwS 2 hts gX9_periodOf_X9_restOf rfl rfl rfl ydX9_restOf ⟨Nat.le_of_ble_eq_true rfl, Nat.le_of_ble_eq_true rfl⟩) hnw rfl hl.1 rfl (Nat.le_of_ble_eq_true rfl) dX9_periodOf_12 ⟨Nat.le_of_ble_eq_true rfl, Nat.le_of_ble_eq_true rfl⟩ ?_
  refine lv_lstore (lv' := [(5, .long r12), (3, .long r4), (2, .int (1 : Int32)), (0, .long p0)]) hx hb dX9_periodOf_15 hl (by decide) rfl (fun ls hl => ?_)
  refine LQ2_k1 (M := fun (y2_17 : Int32) (y5_17 : Int64) => ∀ (ls : Array Slot), lv_has ls 7 [(0, .long p0), (2, .int y2_17), (3, .long r4), (5, .long y5_17)] → W p l e rmX9_periodOf s m ([.long p0] : List Value).toArray below meth c s.heap [] 0 0 (MQ below (k2_QcV (.int r0)) ([.long p0] : List Value).toArray s 0 0 (fun _ => False)) (F0 m 17 ls [])) ?_ _ _ _ h ls (lv_sub hl [3, 2, 1, 0] rfl)
  intro k40 hk40 ih17 hih17 y2_17 y5_17 h ls hl
  unfold S_X9_periodOf_17 at h
  refine lv_lload hx hb dX9_periodOf_17 (lv_at hl 3 rfl) ?_
  refine lv_lload_n hx hb dX9_periodOf_19 rfl (lv_at hl 2 rfl) ?_
  refine W.lcmp hx hb dX9_periodOf_20 ?_
  refine lv_if_eq (tgt := 40) hx hb dX9_periodOf_21 (by decide) (fun c21 => ?_) (fun c21 => ?_)
  · have c21 := (lg_cmp_eq _ _).mp c21
    have h := it_ c21 h
    rw [hk40] at h
    refine lv_iload_n hx hb dX9_periodOf_40 rfl (lv_at hl 1 rfl) ?_
    have e1 := Option.some.inj h
    subst e1
    exact W.iret hx hb hr (fun t ht _ => ⟨rfl, ht⟩) no_q dX9_periodOf_41
  · have c21 := fun z => c21 ((lg_cmp_eq _ _).mpr z)
    have h := if_ c21 h
    obtain ⟨x2_24, e_x2_24⟩ : ∃ z : Int32, z = y2_17 + 1 := ⟨_, rfl⟩
    have h := bnd_h e_x2_24 h
    refine lv_iinc (v := x2_24) (lv' := [(2, .int x2_24), (0, .long p0), (3, .long r4), (5, .long y5_17)]) hx hb dX9_periodOf_24 hl (k := 1) rfl (by rw [e_x2_24]; rfl) (by decide) rfl (fun ls hl => ?_)
    refine lv_lload hx hb dX9_periodOf_27 (lv_at hl 3 rfl) ?_
    refine lv_iconst (v := 1) hx hb dX9_periodOf_29 (by decide) ?_
    refine lv_lshl (v := y5_17 <<< ((1 : Int32).toInt64 &&& 63)) hx hb dX9_periodOf_30 rfl ?_
    refine lv_lload_n hx hb dX9_periodOf_31 rfl (lv_at hl 1 rfl) ?_
    obtain ⟨r32, hc32, h⟩ := obn_h h
    refine pz_callS (As := [.long (y5_17 <<< ((1 : Int32).toInt64 &&& 63)), .long p0]) (rest := []) hcf (c_X9_restOf l (y5_17 <<< ((1 : Int32).toInt64 &&& 63)) p0 r32 hc32) (va_cwS 2 hts gX9_periodOf_X9_restOf rfl rfl rfl ydX9_restOf ⟨Nat.le_of_ble_eq_true rfl, Nat.le_of_ble_eq_true rfl⟩) hnw rfl hl.1 rfl (Nat.le_of_ble_eq_true rfl) dX9_periodOf_32 ⟨Nat.le_of_ble_eq_true rfl, Nat.le_of_ble_eq_true rfl⟩ ?_
    refine lv_lstore (lv' := [(5, .long r32), (2, .int x2_24), (0, .long p0), (3, .long r4)]) hx hb dX9_periodOf_35 hl (by decide) rfl (fun ls hl => ?_)
    refine lv_goto (tgt := 17) hx hb dX9_periodOf_37 (by decide) ?_
    exact hih17 x2_24 r32 h ls (lv_sub hl [2, 1, 3, 0] rfl)

noncomputable abbrev rmX9_next : Room := { frames := 3, cells := 0, slots := 0, locals := 64 }
theorem ydX9_next : yX9_next.cls = RX9 ∧ yX9_next.cls ≠ "java/lang/invoke/MethodHandle" ∧ yX9_next.cls ≠ "java/lang/invoke/VarHandle" ∧ (parseMethodDescriptor yX9_next.desc).map (fun d => d.parameters.length) = some 1 := by decide +kernel
noncomputable def F_X9_next (c_t_taps : Int64) (p0 : Int32) : Option (Int32) :=
 obn (F_X9_degreeOf c_t_taps) (fun r4 =>
 obn (F_X9_onesOf ((p0.toInt64 &&& c_t_taps) &&& (((1 : Int64) <<< (r4.toInt64 &&& 63)) - (1 : Int64)))) (fun r21 =>
 bnd (r21 - r21 / (2 : Int32) * (2 : Int32)) (fun x3_26 =>
 some ((p0 >>> ((1 : Int32) &&& 31)) ||| (x3_26 <<< ((r4 - (1 : Int32)) &&& 31))))))
set_option maxHeartbeats 4000000 in
set_option maxRecDepth 100000 in
theorem c_X9_next (l : Launch) (D : va_G) (cyJ : ClassId) (a_t : Nat) (a_t_forms : Nat) (a_t_roll : Nat) (c_t_many : Int32) (c_t_taps : Int64) (c_t_cells : Int32) (c_t_acts : Int32) (c_t_refused : Int32) (c_t_knocks : Int32) (c_t_thrown : Int32) (p0 : Int32) (r0 : Int32) (hF : F_X9_next c_t_taps p0 = some r0) : Met l yX9_next wsX9_next rmX9_next (va_Pc [.ref a_t, .int p0] (wPK D [(cyJ, .long)] [(a_t, .inr (8, [.ref a_t_forms, .ref a_t_roll, .int c_t_many, .long c_t_taps, .int c_t_cells, .int c_t_acts, .int c_t_refused, .int c_t_knocks, .int c_t_thrown]))])) (k2_QcV (.int r0)) 0 0 (fun _ => False) := by
  refine Met.ofW (cc := cX9_next) (maxL := 4) (ret := (some .int)) (by decide) rfl ?_
  intro p e s m args below meth c s₁ B hml hv
  obtain ⟨rfl, hP, hK, hnw⟩ := hv
  have hx := B.exec
  have hb := B.bytes
  have hr := B.returns
  have hts := atoms_spec (ws := wsX9_next) B.pre
  have hown : s.vm.findClass RX9 = some m.cls := findClass_of_methodNamed B.named
  have hlocks := B.notSynchronized
  have hcf : CallFix _ _ _ _ _ _ _ _ _ := ⟨hx, hb, hml, hown, hts⟩
  have hinX9 : ∀ w ∈ u_ws RX9 TX9 9, w ∈ wsX9_next := by decide +kernel
  have hfl18 := hts (.fieldLink RX9 18 "FormwheelModel" "taps" "J") (by decide +kernel)
  have hK0 := hK
  have hl := lv_entry ([.ref a_t, .int p0]) (n := 4) (Nat.le_of_ble_eq_true rfl)
  rw [lg_entry_eq]
  generalize (lg_sl ([.ref a_t, .int p0]) ++ List.replicate (4 - (lg_sl ([.ref a_t, .int p0])).length) Slot.unset).toArray = ls at hl ⊢
  have hl : lv_has ls 4 [(0, .ref a_t), (1, .int p0)] := hl
  have h := hF
  clear hF
  unfold F_X9_next at h
  refine lv_aload_n hx hb dX9_next_0 rfl (lv_at hl 0 rfl) ?_
  refine va_get (D := D) (ci := 8) (v := .long c_t_taps) (C := RX9) (T := TX9) (N := 9) hx hb hts hinX9 hown hK hP 0 rfl rfl 3 (by decide) hfl18 (fun _ h9 => h9) rfl dX9_next_1 ?_
  obtain ⟨r4, hc4, h⟩ := obn_h h
  refine pz_callS (As := [.long c_t_taps]) (rest := []) hcf (c_X9_degreeOf l c_t_taps r4 hc4) (va_cwS 1 hts gX9_next_X9_degreeOf rfl rfl rfl ydX9_degreeOf ⟨Nat.le_of_ble_eq_true rfl, Nat.le_of_ble_eq_true rfl⟩) hnw rfl hl.1 rfl (Nat.le_of_ble_eq_true rfl) dX9_next_4 ⟨Nat.le_of_ble_eq_true rfl, Nat.le_of_ble_eq_true rfl⟩ ?_
  refine lv_istore_n (lv' := [(2, .int r4), (0, .ref a_t), (1, .int p0)]) hx hb dX9_next_7 rfl hl (by decide) rfl (fun ls hl => ?_)
  refine lv_iload_n hx hb dX9_next_8 rfl (lv_at hl 2 rfl) ?_
  refine lv_i2l (v := p0.toInt64) hx hb dX9_next_9 rfl ?_
  refine lv_aload_n hx hb dX9_next_10 rfl (lv_at hl 1 rfl) ?_
  refine va_get (D := D) (ci := 8) (v := .long c_t_taps) (C := RX9) (T := TX9) (N := 9) hx hb hts hinX9 hown hK hP 0 rfl rfl 3 (by decide) hfl18 (fun _ h9 => h9) rfl dX9_next_11 ?_
  refine lv_land hx hb dX9_next_14 ?_
  refine lv_lconst (v := 1) hx hb dX9_next_15 (by decide) ?_
  refine lv_iload_n hx hb dX9_next_16 rfl (lv_at hl 0 rfl) ?_
  refine lv_lshl (v := (1 : Int64) <<< (r4.toInt64 &&& 63)) hx hb dX9_next_17 rfl ?_
  refine lv_lconst (v := 1) hx hb dX9_next_18 (by decide) ?_
  refine lv_lsub hx hb dX9_next_19 ?_
  refine lv_land hx hb dX9_next_20 ?_
  obtain ⟨r21, hc21, h⟩ := obn_h h
  refine pz_callS (As := [.long ((p0.toInt64 &&& c_t_taps) &&& (((1 : Int64) <<< (r4.toInt64 &&& 63)) - (1 : Int64)))]) (rest := []) hcf (c_X9_onesOf l ((p0.toInt64 &&& c_t_taps) &&& (((1 : Int64) <<< (r4.toInt64 &&& 63)) - (1 : Int64))) r21 hc21) (va_cwS 1 hts gX9_next_X9_onesOf rfl rfl rfl ydX9_onesOf ⟨Nat.le_of_ble_eq_true rfl, Nat.le_of_ble_eq_true rfl⟩) hnw rfl hl.1 rfl (Nat.le_of_ble_eq_true rfl) dX9_next_21 ⟨Nat.le_of_ble_eq_true rfl, Nat.le_of_ble_eq_true rfl⟩ ?_
  refine lv_iconst (v := 2) hx hb dX9_next_24 (by decide) ?_
  refine lv_irem hx hb dX9_next_25 (by decide) ?_
  refine lv_topi (fun x3_26 e_x3_26 => ?_)
  have h := bnd_h e_x3_26 h
  refine lv_istore_n (lv' := [(3, .int x3_26), (2, .int r4), (0, .ref a_t), (1, .int p0)]) hx hb dX9_next_26 rfl hl (by decide) rfl (fun ls hl => ?_)
  refine lv_iload_n hx hb dX9_next_27 rfl (lv_at hl 3 rfl) ?_
  refine lv_iconst (v := 1) hx hb dX9_next_28 (by decide) ?_
  refine lv_ishr hx hb dX9_next_29 ?_
  refine lv_iload_n hx hb dX9_next_30 rfl (lv_at hl 0 rfl) ?_
  refine lv_iload_n hx hb dX9_next_31 rfl (lv_at hl 1 rfl) ?_
  refine lv_iconst (v := 1) hx hb dX9_next_32 (by decide) ?_
  refine lv_isub hx hb dX9_next_33 ?_
  refine lv_ishl hx hb dX9_next_34 ?_
  refine lv_ior hx hb dX9_next_35 ?_
  have e1 := Option.some.inj h
  subst e1
  exact W.iret hx hb hr (fun t ht _ => ⟨rfl, ht⟩) no_q dX9_next_36

noncomputable abbrev rmX9_isForm : Room := { frames := 0, cells := 0, slots := 0, locals := 0 }
theorem ydX9_isForm : yX9_isForm.cls ≠ "java/lang/invoke/MethodHandle" ∧ yX9_isForm.cls ≠ "java/lang/invoke/VarHandle" ∧ (parseMethodDescriptor yX9_isForm.desc).map (fun d => d.parameters.length) = some 1 := by decide +kernel
noncomputable def F_X9_isForm (p0 : Int32) : Option (Int32) :=
 (if p0 < 0 then
 some (0 : Int32)
else
 (if (6 : Int32) ≤ p0 then
 some (0 : Int32)
else
 some (1 : Int32)))
set_option maxHeartbeats 4000000 in
set_option maxRecDepth 100000 in
theorem c_X9_isForm (l : Launch) (p0 : Int32) (r0 : Int32) (hF : F_X9_isForm p0 = some r0) : Met l yX9_isForm wsX9_isForm rmX9_isForm (va_Pc [.int p0] NW) (k2_QcV (.int r0)) 0 0 (fun _ => False) := by
  refine Met.ofW (cc := cX9_isForm) (maxL := 1) (ret := (some .boolean)) (by decide) rfl ?_
  intro p e s m args below meth c s₁ B hml hv
  obtain ⟨rfl, hnw⟩ := hv
  have hx := B.exec
  have hb := B.bytes
  have hr := B.returns
  have hts := atoms_spec (ws := wsX9_isForm) B.pre
  have hown : s.vm.findClass RX9 = some m.cls := findClass_of_methodNamed B.named
  have hlocks := B.notSynchronized
  have hcf : CallFix _ _ _ _ _ _ _ _ _ := ⟨hx, hb, hml, hown, hts⟩
  have hl := lv_entry ([.int p0]) (n := 1) (Nat.le_of_ble_eq_true rfl)
  rw [lg_entry_eq]
  generalize (lg_sl ([.int p0]) ++ List.replicate (1 - (lg_sl ([.int p0])).length) Slot.unset).toArray = ls at hl ⊢
  have hl : lv_has ls 1 [(0, .int p0)] := hl
  have h := hF
  clear hF
  unfold F_X9_isForm at h
  refine lv_iload_n hx hb dX9_isForm_0 rfl (lv_at hl 0 rfl) ?_
  refine lv_if_lt (tgt := 14) hx hb dX9_isForm_1 (by decide) (fun c1 => ?_) (fun c1 => ?_)
  · have h := it_ c1 h
    refine lv_iconst (v := 0) hx hb dX9_isForm_14 (by decide) ?_
    have e1 := Option.some.inj h
    subst e1
    exact W.zret hx hb hr narrow_b0 (fun t ht _ => ⟨rfl, ht⟩) no_q dX9_isForm_15
  · have h := if_ c1 h
    refine lv_iload_n hx hb dX9_isForm_4 rfl (lv_at hl 0 rfl) ?_
    refine lv_bipush (v := 6) hx hb dX9_isForm_5 (by decide) ?_
    refine lv_icmp_ge (tgt := 14) hx hb dX9_isForm_7 (by decide) (fun c7 => ?_) (fun c7 => ?_)
    · have h := it_ c7 h
      refine lv_iconst (v := 0) hx hb dX9_isForm_14 (by decide) ?_
      have e1 := Option.some.inj h
      subst e1
      exact W.zret hx hb hr narrow_b0 (fun t ht _ => ⟨rfl, ht⟩) no_q dX9_isForm_15
    · have h := if_ c7 h
      refine lv_iconst (v := 1) hx hb dX9_isForm_10 (by decide) ?_
      refine lv_goto (tgt := 15) hx hb dX9_isForm_11 (by decide) ?_
      have e1 := Option.some.inj h
      subst e1
      exact W.zret hx hb hr narrow_b1 (fun t ht _ => ⟨rfl, ht⟩) no_q dX9_isForm_15

noncomputable abbrev rmX9_isPlace : Room := { frames := 0, cells := 0, slots := 0, locals := 0 }
theorem ydX9_isPlace : yX9_isPlace.cls ≠ "java/lang/invoke/MethodHandle" ∧ yX9_isPlace.cls ≠ "java/lang/invoke/VarHandle" ∧ (parseMethodDescriptor yX9_isPlace.desc).map (fun d => d.parameters.length) = some 1 := by decide +kernel
noncomputable def F_X9_isPlace (p0 : Int32) : Option (Int32) :=
 (if p0 < 0 then
 some (0 : Int32)
else
 (if (40 : Int32) ≤ p0 then
 some (0 : Int32)
else
 some (1 : Int32)))
set_option maxHeartbeats 4000000 in
set_option maxRecDepth 100000 in
theorem c_X9_isPlace (l : Launch) (p0 : Int32) (r0 : Int32) (hF : F_X9_isPlace p0 = some r0) : Met l yX9_isPlace wsX9_isPlace rmX9_isPlace (va_Pc [.int p0] NW) (k2_QcV (.int r0)) 0 0 (fun _ => False) := by
  refine Met.ofW (cc := cX9_isPlace) (maxL := 1) (ret := (some .boolean)) (by decide) rfl ?_
  intro p e s m args below meth c s₁ B hml hv
  obtain ⟨rfl, hnw⟩ := hv
  have hx := B.exec
  have hb := B.bytes
  have hr := B.returns
  have hts := atoms_spec (ws := wsX9_isPlace) B.pre
  have hown : s.vm.findClass RX9 = some m.cls := findClass_of_methodNamed B.named
  have hlocks := B.notSynchronized
  have hcf : CallFix _ _ _ _ _ _ _ _ _ := ⟨hx, hb, hml, hown, hts⟩
  have hl := lv_entry ([.int p0]) (n := 1) (Nat.le_of_ble_eq_true rfl)
  rw [lg_entry_eq]
  generalize (lg_sl ([.int p0]) ++ List.replicate (1 - (lg_sl ([.int p0])).length) Slot.unset).toArray = ls at hl ⊢
  have hl : lv_has ls 1 [(0, .int p0)] := hl
  have h := hF
  clear hF
  unfold F_X9_isPlace at h
  refine lv_iload_n hx hb dX9_isPlace_0 rfl (lv_at hl 0 rfl) ?_
  refine lv_if_lt (tgt := 14) hx hb dX9_isPlace_1 (by decide) (fun c1 => ?_) (fun c1 => ?_)
  · have h := it_ c1 h
    refine lv_iconst (v := 0) hx hb dX9_isPlace_14 (by decide) ?_
    have e1 := Option.some.inj h
    subst e1
    exact W.zret hx hb hr narrow_b0 (fun t ht _ => ⟨rfl, ht⟩) no_q dX9_isPlace_15
  · have h := if_ c1 h
    refine lv_iload_n hx hb dX9_isPlace_4 rfl (lv_at hl 0 rfl) ?_
    refine lv_bipush (v := 40) hx hb dX9_isPlace_5 (by decide) ?_
    refine lv_icmp_ge (tgt := 14) hx hb dX9_isPlace_7 (by decide) (fun c7 => ?_) (fun c7 => ?_)
    · have h := it_ c7 h
      refine lv_iconst (v := 0) hx hb dX9_isPlace_14 (by decide) ?_
      have e1 := Option.some.inj h
      subst e1
      exact W.zret hx hb hr narrow_b0 (fun t ht _ => ⟨rfl, ht⟩) no_q dX9_isPlace_15
    · have h := if_ c7 h
      refine lv_iconst (v := 1) hx hb dX9_isPlace_10 (by decide) ?_
      refine lv_goto (tgt := 15) hx hb dX9_isPlace_11 (by decide) ?_
      have e1 := Option.some.inj h
      subst e1
      exact W.zret hx hb hr narrow_b1 (fun t ht _ => ⟨rfl, ht⟩) no_q dX9_isPlace_15

noncomputable abbrev rmX9_isThrown : Room := { frames := 0, cells := 0, slots := 0, locals := 0 }
theorem ydX9_isThrown : yX9_isThrown.cls = RX9 ∧ yX9_isThrown.cls ≠ "java/lang/invoke/MethodHandle" ∧ yX9_isThrown.cls ≠ "java/lang/invoke/VarHandle" ∧ (parseMethodDescriptor yX9_isThrown.desc).map (fun d => d.parameters.length) = some 2 := by decide +kernel
noncomputable def F_X9_isThrown (p0 : Int32) (p1 : Int32) : Option (Int32 × Int32) :=
 (if p0 = 0 then
 (if p1 = 0 then
 some ((0 : Int32), (0 : Int32))
else
 some ((1 : Int32), (2 : Int32)))
else
 some ((1 : Int32), (1 : Int32)))
set_option maxHeartbeats 4000000 in
set_option maxRecDepth 100000 in
theorem c_X9_isThrown (l : Launch) (D : va_G) (cyJ : ClassId) (sz : Nat) (a_t : Nat) (a_t_forms : Nat) (a_t_roll : Nat) (c_t_many : Int32) (c_t_taps : Int64) (c_t_cells : Int32) (c_t_acts : Int32) (c_t_refused : Int32) (c_t_knocks : Int32) (c_t_thrown : Int32) (p0 : Int32) (p1 : Int32) (r0 : Int32) (o_c_t_thrown : Int32) (hF : F_X9_isThrown p0 p1 = some (r0, o_c_t_thrown)) : Met l yX9_isThrown wsX9_isThrown rmX9_isThrown (va_Pc [.ref a_t, .int p0, .int p1] (wPD D [(cyJ, .long)] [(a_t, .inr (8, [.ref a_t_forms, .ref a_t_roll, .int c_t_many, .long c_t_taps, .int c_t_cells, .int c_t_acts, .int c_t_refused, .int c_t_knocks, .int c_t_thrown]))] sz)) (va_Qi (fun (r : Int32) (_ : Unit) => r = r0) (fun _ t => wQA D [(a_t, .inr (8, [.ref a_t_forms, .ref a_t_roll, .int c_t_many, .long c_t_taps, .int c_t_cells, .int c_t_acts, .int c_t_refused, .int c_t_knocks, .int o_c_t_thrown]))] (va_A [(a_t, .inr (8, [.ref a_t_forms, .ref a_t_roll, .int c_t_many, .long c_t_taps, .int c_t_cells, .int c_t_acts, .int c_t_refused, .int c_t_knocks, .int c_t_thrown]))] sz) t) (va_A [(a_t, .inr (8, [.ref a_t_forms, .ref a_t_roll, .int c_t_many, .long c_t_taps, .int c_t_cells, .int c_t_acts, .int c_t_refused, .int c_t_knocks, .int c_t_thrown]))] sz)) 0 0 (va_A [(a_t, .inr (8, [.ref a_t_forms, .ref a_t_roll, .int c_t_many, .long c_t_taps, .int c_t_cells, .int c_t_acts, .int c_t_refused, .int c_t_knocks, .int c_t_thrown]))] sz) := by
  refine Met.ofW (cc := cX9_isThrown) (maxL := 3) (ret := (some .boolean)) (by decide) rfl ?_
  intro p e s m args below meth c s₁ B hml hv
  obtain ⟨rfl, hsz, hP, hK, hD0, hnw⟩ := hv
  have hx := B.exec
  have hb := B.bytes
  have hr := B.returns
  have hts := atoms_spec (ws := wsX9_isThrown) B.pre
  have hown : s.vm.findClass RX9 = some m.cls := findClass_of_methodNamed B.named
  have hlocks := B.notSynchronized
  have hcf : CallFix _ _ _ _ _ _ _ _ _ := ⟨hx, hb, hml, hown, hts⟩
  have hinX9 : ∀ w ∈ u_ws RX9 TX9 9, w ∈ wsX9_isThrown := by decide +kernel
  have hfl26 := hts (.fieldLink RX9 26 "FormwheelModel" "thrown" "I") (by decide +kernel)
  subst hsz
  have hD := hD0.self (sz := s.heap.size)
  generalize hAe : va_A [(a_t, .inr (8, [.ref a_t_forms, .ref a_t_roll, .int c_t_many, .long c_t_taps, .int c_t_cells, .int c_t_acts, .int c_t_refused, .int c_t_knocks, .int c_t_thrown]))] s.heap.size = A at hD ⊢
  have hA : ∀ q : Nat, s.heap.size ≤ q → A q := fun q h => by rw [← hAe]; exact Or.inr h
  have hS : va_S A s.heap s.heap [] := va_S.rf
  have hP : va_P D vwCl [(a_t, .inr (8, [.ref a_t_forms, .ref a_t_roll, .int c_t_many, .long c_t_taps, .int c_t_cells, .int c_t_acts, .int c_t_refused, .int c_t_knocks, .int c_t_thrown]))] s.heap := hP
  have hK0 := hK
  have hl := lv_entry ([.ref a_t, .int p0, .int p1]) (n := 3) (Nat.le_of_ble_eq_true rfl)
  rw [lg_entry_eq]
  generalize (lg_sl ([.ref a_t, .int p0, .int p1]) ++ List.replicate (3 - (lg_sl ([.ref a_t, .int p0, .int p1])).length) Slot.unset).toArray = ls at hl ⊢
  have hl : lv_has ls 3 [(0, .ref a_t), (1, .int p0), (2, .int p1)] := hl
  have h := hF
  clear hF
  unfold F_X9_isThrown at h
  refine lv_aload_n hx hb dX9_isThrown_0 rfl (lv_at hl 0 rfl) ?_
  refine lv_iload_n hx hb dX9_isThrown_1 rfl (lv_at hl 1 rfl) ?_
  refine lv_if_eq (tgt := 9) hx hb dX9_isThrown_2 (by decide) (fun c2 => ?_) (fun c2 => ?_)
  · have h := it_ c2 h
    refine lv_iload_n hx hb dX9_isThrown_9 rfl (lv_at hl 2 rfl) ?_
    refine lv_if_eq (tgt := 17) hx hb dX9_isThrown_10 (by decide) (fun c10 => ?_) (fun c10 => ?_)
    · have h := it_ c10 h
      refine lv_iconst (v := 0) hx hb dX9_isThrown_17 (by decide) ?_
      refine va_put (D := D) (ci := 8) (v := .int (0 : Int32)) (ty := .int) (C := RX9) (T := TX9) (N := 9) hx hb hts hinX9 tyX9 tyX9_ok nmX9 hown hK hP hD hS 0 rfl rfl 8 (by decide) hfl26 (fun _ h9 => h9) rfl (by decide +kernel) rfl rfl (Nat.le_of_ble_eq_true rfl) dX9_isThrown_18 (fun H locs hP hD hS => ?_)
      have hP : va_P D vwCl [(a_t, .inr (8, [.ref a_t_forms, .ref a_t_roll, .int c_t_many, .long c_t_taps, .int c_t_cells, .int c_t_acts, .int c_t_refused, .int c_t_knocks, .int (0 : Int32)]))] H := hP
      have hD : va_D A [(a_t, .inr (8, [.ref a_t_forms, .ref a_t_roll, .int c_t_many, .long c_t_taps, .int c_t_cells, .int c_t_acts, .int c_t_refused, .int c_t_knocks, .int (0 : Int32)]))] := hD
      refine lv_aload_n hx hb dX9_isThrown_21 rfl (lv_at hl 0 rfl) ?_
      refine va_get (D := D) (ci := 8) (v := .int (0 : Int32)) (C := RX9) (T := TX9) (N := 9) hx hb hts hinX9 hown hK hP 0 rfl rfl 8 (by decide) hfl26 (fun _ h9 => h9) rfl dX9_isThrown_22 ?_
      refine lv_if_le (tgt := 32) hx hb dX9_isThrown_25 (by decide) (fun c25 => ?_) (fun c25 => absurd c25 (by decide))
      refine lv_iconst (v := 0) hx hb dX9_isThrown_32 (by decide) ?_
      obtain ⟨e0, e1⟩ := tup2 h
      subst e0
      subst e1
      have hP9 : va_P D vwCl [(a_t, .inr (8, [.ref a_t_forms, .ref a_t_roll, .int c_t_many, .long c_t_taps, .int c_t_cells, .int c_t_acts, .int c_t_refused, .int c_t_knocks, .int (0 : Int32)]))] H := hP.sub [0] rfl
      have hD9 : va_D A [(a_t, .inr (8, [.ref a_t_forms, .ref a_t_roll, .int c_t_many, .long c_t_taps, .int c_t_cells, .int c_t_acts, .int c_t_refused, .int c_t_knocks, .int (0 : Int32)]))] := hD.sub [0] (by decide) rfl
      exact W.zret hx hb hr narrow_b0 (fun t ht hW => ⟨⟨_, (), rfl, rfl, wQA_of ht hP9 hD9⟩, hS.F ht⟩) hS.2.2 dX9_isThrown_33
    · have h := if_ c10 h
      refine lv_iconst (v := 2) hx hb dX9_isThrown_13 (by decide) ?_
      refine lv_goto (tgt := 18) hx hb dX9_isThrown_14 (by decide) ?_
      refine va_put (D := D) (ci := 8) (v := .int (2 : Int32)) (ty := .int) (C := RX9) (T := TX9) (N := 9) hx hb hts hinX9 tyX9 tyX9_ok nmX9 hown hK hP hD hS 0 rfl rfl 8 (by decide) hfl26 (fun _ h9 => h9) rfl (by decide +kernel) rfl rfl (Nat.le_of_ble_eq_true rfl) dX9_isThrown_18 (fun H locs hP hD hS => ?_)
      have hP : va_P D vwCl [(a_t, .inr (8, [.ref a_t_forms, .ref a_t_roll, .int c_t_many, .long c_t_taps, .int c_t_cells, .int c_t_acts, .int c_t_refused, .int c_t_knocks, .int (2 : Int32)]))] H := hP
      have hD : va_D A [(a_t, .inr (8, [.ref a_t_forms, .ref a_t_roll, .int c_t_many, .long c_t_taps, .int c_t_cells, .int c_t_acts, .int c_t_refused, .int c_t_knocks, .int (2 : Int32)]))] := hD
      refine lv_aload_n hx hb dX9_isThrown_21 rfl (lv_at hl 0 rfl) ?_
      refine va_get (D := D) (ci := 8) (v := .int (2 : Int32)) (C := RX9) (T := TX9) (N := 9) hx hb hts hinX9 hown hK hP 0 rfl rfl 8 (by decide) hfl26 (fun _ h9 => h9) rfl dX9_isThrown_22 ?_
      refine lv_if_le (tgt := 32) hx hb dX9_isThrown_25 (by decide) (fun c25 => absurd c25 (by decide)) (fun c25 => ?_)
      refine lv_iconst (v := 1) hx hb dX9_isThrown_28 (by decide) ?_
      refine lv_goto (tgt := 33) hx hb dX9_isThrown_29 (by decide) ?_
      obtain ⟨e0, e1⟩ := tup2 h
      subst e0
      subst e1
      have hP9 : va_P D vwCl [(a_t, .inr (8, [.ref a_t_forms, .ref a_t_roll, .int c_t_many, .long c_t_taps, .int c_t_cells, .int c_t_acts, .int c_t_refused, .int c_t_knocks, .int (2 : Int32)]))] H := hP.sub [0] rfl
      have hD9 : va_D A [(a_t, .inr (8, [.ref a_t_forms, .ref a_t_roll, .int c_t_many, .long c_t_taps, .int c_t_cells, .int c_t_acts, .int c_t_refused, .int c_t_knocks, .int (2 : Int32)]))] := hD.sub [0] (by decide) rfl
      exact W.zret hx hb hr narrow_b1 (fun t ht hW => ⟨⟨_, (), rfl, rfl, wQA_of ht hP9 hD9⟩, hS.F ht⟩) hS.2.2 dX9_isThrown_33
  · have h := if_ c2 h
    refine lv_iconst (v := 1) hx hb dX9_isThrown_5 (by decide) ?_
    refine lv_goto (tgt := 18) hx hb dX9_isThrown_6 (by decide) ?_
    refine va_put (D := D) (ci := 8) (v := .int (1 : Int32)) (ty := .int) (C := RX9) (T := TX9) (N := 9) hx hb hts hinX9 tyX9 tyX9_ok nmX9 hown hK hP hD hS 0 rfl rfl 8 (by decide) hfl26 (fun _ h9 => h9) rfl (by decide +kernel) rfl rfl (Nat.le_of_ble_eq_true rfl) dX9_isThrown_18 (fun H locs hP hD hS => ?_)
    have hP : va_P D vwCl [(a_t, .inr (8, [.ref a_t_forms, .ref a_t_roll, .int c_t_many, .long c_t_taps, .int c_t_cells, .int c_t_acts, .int c_t_refused, .int c_t_knocks, .int (1 : Int32)]))] H := hP
    have hD : va_D A [(a_t, .inr (8, [.ref a_t_forms, .ref a_t_roll, .int c_t_many, .long c_t_taps, .int c_t_cells, .int c_t_acts, .int c_t_refused, .int c_t_knocks, .int (1 : Int32)]))] := hD
    refine lv_aload_n hx hb dX9_isThrown_21 rfl (lv_at hl 0 rfl) ?_
    refine va_get (D := D) (ci := 8) (v := .int (1 : Int32)) (C := RX9) (T := TX9) (N := 9) hx hb hts hinX9 hown hK hP 0 rfl rfl 8 (by decide) hfl26 (fun _ h9 => h9) rfl dX9_isThrown_22 ?_
    refine lv_if_le (tgt := 32) hx hb dX9_isThrown_25 (by decide) (fun c25 => absurd c25 (by decide)) (fun c25 => ?_)
    refine lv_iconst (v := 1) hx hb dX9_isThrown_28 (by decide) ?_
    refine lv_goto (tgt := 33) hx hb dX9_isThrown_29 (by decide) ?_
    obtain ⟨e0, e1⟩ := tup2 h
    subst e0
    subst e1
    have hP9 : va_P D vwCl [(a_t, .inr (8, [.ref a_t_forms, .ref a_t_roll, .int c_t_many, .long c_t_taps, .int c_t_cells, .int c_t_acts, .int c_t_refused, .int c_t_knocks, .int (1 : Int32)]))] H := hP.sub [0] rfl
    have hD9 : va_D A [(a_t, .inr (8, [.ref a_t_forms, .ref a_t_roll, .int c_t_many, .long c_t_taps, .int c_t_cells, .int c_t_acts, .int c_t_refused, .int c_t_knocks, .int (1 : Int32)]))] := hD.sub [0] (by decide) rfl
    exact W.zret hx hb hr narrow_b1 (fun t ht hW => ⟨⟨_, (), rfl, rfl, wQA_of ht hP9 hD9⟩, hS.F ht⟩) hS.2.2 dX9_isThrown_33

noncomputable abbrev rmX9_isThrown_ : Room := { frames := 1, cells := 0, slots := 0, locals := 22 }
theorem ydX9_isThrown_ : yX9_isThrown_.cls = RX9 ∧ yX9_isThrown_.cls ≠ "java/lang/invoke/MethodHandle" ∧ yX9_isThrown_.cls ≠ "java/lang/invoke/VarHandle" ∧ (parseMethodDescriptor yX9_isThrown_.desc).map (fun d => d.parameters.length) = some 1 := by decide +kernel
noncomputable def F_X9_isThrown_ (p0 : Int32) : Option (Int32 × Int32) :=
 obn2 (F_X9_isThrown p0 (0 : Int32)) (fun r3 c_t_thrown_3 =>
 obn (zr r3) (fun rb6 =>
 some (rb6, c_t_thrown_3)))
set_option maxHeartbeats 4000000 in
set_option maxRecDepth 100000 in
theorem c_X9_isThrown_ (l : Launch) (D : va_G) (cyJ : ClassId) (sz : Nat) (a_t : Nat) (a_t_forms : Nat) (a_t_roll : Nat) (c_t_many : Int32) (c_t_taps : Int64) (c_t_cells : Int32) (c_t_acts : Int32) (c_t_refused : Int32) (c_t_knocks : Int32) (c_t_thrown : Int32) (p0 : Int32) (r0 : Int32) (o_c_t_thrown : Int32) (hF : F_X9_isThrown_ p0 = some (r0, o_c_t_thrown)) : Met l yX9_isThrown_ wsX9_isThrown_ rmX9_isThrown_ (va_Pc [.ref a_t, .int p0] (wPD D [(cyJ, .long)] [(a_t, .inr (8, [.ref a_t_forms, .ref a_t_roll, .int c_t_many, .long c_t_taps, .int c_t_cells, .int c_t_acts, .int c_t_refused, .int c_t_knocks, .int c_t_thrown]))] sz)) (va_Qi (fun (r : Int32) (_ : Unit) => r = r0) (fun _ t => wQA D [(a_t, .inr (8, [.ref a_t_forms, .ref a_t_roll, .int c_t_many, .long c_t_taps, .int c_t_cells, .int c_t_acts, .int c_t_refused, .int c_t_knocks, .int o_c_t_thrown]))] (va_A [(a_t, .inr (8, [.ref a_t_forms, .ref a_t_roll, .int c_t_many, .long c_t_taps, .int c_t_cells, .int c_t_acts, .int c_t_refused, .int c_t_knocks, .int c_t_thrown]))] sz) t) (va_A [(a_t, .inr (8, [.ref a_t_forms, .ref a_t_roll, .int c_t_many, .long c_t_taps, .int c_t_cells, .int c_t_acts, .int c_t_refused, .int c_t_knocks, .int c_t_thrown]))] sz)) 0 0 (va_A [(a_t, .inr (8, [.ref a_t_forms, .ref a_t_roll, .int c_t_many, .long c_t_taps, .int c_t_cells, .int c_t_acts, .int c_t_refused, .int c_t_knocks, .int c_t_thrown]))] sz) := by
  refine Met.ofW (cc := cX9_isThrown_) (maxL := 2) (ret := (some .boolean)) (by decide) rfl ?_
  intro p e s m args below meth c s₁ B hml hv
  obtain ⟨rfl, hsz, hP, hK, hD0, hnw⟩ := hv
  have hx := B.exec
  have hb := B.bytes
  have hr := B.returns
  have hts := atoms_spec (ws := wsX9_isThrown_) B.pre
  have hown : s.vm.findClass RX9 = some m.cls := findClass_of_methodNamed B.named
  have hlocks := B.notSynchronized
  have hcf : CallFix _ _ _ _ _ _ _ _ _ := ⟨hx, hb, hml, hown, hts⟩
  subst hsz
  have hD := hD0.self (sz := s.heap.size)
  generalize hAe : va_A [(a_t, .inr (8, [.ref a_t_forms, .ref a_t_roll, .int c_t_many, .long c_t_taps, .int c_t_cells, .int c_t_acts, .int c_t_refused, .int c_t_knocks, .int c_t_thrown]))] s.heap.size = A at hD ⊢
  have hA : ∀ q : Nat, s.heap.size ≤ q → A q := fun q h => by rw [← hAe]; exact Or.inr h
  have hS : va_S A s.heap s.heap [] := va_S.rf
  have hP : va_P D vwCl [(a_t, .inr (8, [.ref a_t_forms, .ref a_t_roll, .int c_t_many, .long c_t_taps, .int c_t_cells, .int c_t_acts, .int c_t_refused, .int c_t_knocks, .int c_t_thrown]))] s.heap := hP
  have hK0 := hK
  have hl := lv_entry ([.ref a_t, .int p0]) (n := 2) (Nat.le_of_ble_eq_true rfl)
  rw [lg_entry_eq]
  generalize (lg_sl ([.ref a_t, .int p0]) ++ List.replicate (2 - (lg_sl ([.ref a_t, .int p0])).length) Slot.unset).toArray = ls at hl ⊢
  have hl : lv_has ls 2 [(0, .ref a_t), (1, .int p0)] := hl
  have h := hF
  clear hF
  unfold F_X9_isThrown_ at h
  refine lv_aload_n hx hb dX9_isThrown__0 rfl (lv_at hl 0 rfl) ?_
  refine lv_iload_n hx hb dX9_isThrown__1 rfl (lv_at hl 1 rfl) ?_
  refine lv_iconst (v := 0) hx hb dX9_isThrown__2 (by decide) ?_
  obtain ⟨r3, c_t_thrown_3, hc3, h⟩ := obn2_h h
  have hPc := hP.sub (ws' := [(a_t, .inr (8, [.ref a_t_forms, .ref a_t_roll, .int c_t_many, .long c_t_taps, .int c_t_cells, .int c_t_acts, .int c_t_refused, .int c_t_knocks, .int c_t_thrown]))]) [0] rfl
  have hDc := hD.sub (ws' := [(a_t, .inr (8, [.ref a_t_forms, .ref a_t_roll, .int c_t_many, .long c_t_taps, .int c_t_cells, .int c_t_acts, .int c_t_refused, .int c_t_knocks, .int c_t_thrown]))]) [0] (by decide) rfl
  refine hp_i (w1 := [(a_t, .inr (8, [.ref a_t_forms, .ref a_t_roll, .int c_t_many, .long c_t_taps, .int c_t_cells, .int c_t_acts, .int c_t_refused, .int c_t_knocks, .int c_t_thrown_3]))]) (wr := []) (va_runV (As := [.int p0, .int (0 : Int32)]) (rest := []) hcf (c_X9_isThrown l D cyJ s.heap.size a_t a_t_forms a_t_roll c_t_many c_t_taps c_t_cells c_t_acts c_t_refused c_t_knocks c_t_thrown p0 (0 : Int32) r3 c_t_thrown_3 hc3) (cwV 2 hts gX9_isThrown__X9_isThrown rfl rfl rfl ydX9_isThrown ⟨Nat.le_of_ble_eq_true rfl, Nat.le_of_ble_eq_true rfl⟩) ⟨bl_PD, va_recv hK hP (ci := 8) (q0 := 0) rfl rfl, pr_PD hPc hK0 hDc hnw⟩ rfl rfl hl.1 rfl (lv_room (Nat.le_of_ble_eq_true rfl)) dX9_isThrown__3 ⟨Nat.le_of_ble_eq_true rfl, Nat.le_of_ble_eq_true rfl⟩) hP hD hS hA [0] [] rfl rfl (by decide) (by decide) (fun H locs hP hD hS => ?_)
  have hP : va_P D vwCl [(a_t, .inr (8, [.ref a_t_forms, .ref a_t_roll, .int c_t_many, .long c_t_taps, .int c_t_cells, .int c_t_acts, .int c_t_refused, .int c_t_knocks, .int c_t_thrown_3]))] H := hP
  have hD : va_D A [(a_t, .inr (8, [.ref a_t_forms, .ref a_t_roll, .int c_t_many, .long c_t_taps, .int c_t_cells, .int c_t_acts, .int c_t_refused, .int c_t_knocks, .int c_t_thrown_3]))] := hD
  obtain ⟨rb6, hz, h⟩ := obn_h h
  obtain ⟨hz, hnz⟩ := zr_h hz
  subst hz
  obtain ⟨e0, e1⟩ := tup2 h
  subst e0
  subst e1
  have hP9 : va_P D vwCl [(a_t, .inr (8, [.ref a_t_forms, .ref a_t_roll, .int c_t_many, .long c_t_taps, .int c_t_cells, .int c_t_acts, .int c_t_refused, .int c_t_knocks, .int c_t_thrown_3]))] H := hP.sub [0] rfl
  have hD9 : va_D A [(a_t, .inr (8, [.ref a_t_forms, .ref a_t_roll, .int c_t_many, .long c_t_taps, .int c_t_cells, .int c_t_acts, .int c_t_refused, .int c_t_knocks, .int c_t_thrown_3]))] := hD.sub [0] (by decide) rfl
  exact W.zret hx hb hr hnz (fun t ht hW => ⟨⟨_, (), rfl, rfl, wQA_of ht hP9 hD9⟩, hS.F ht⟩) hS.2.2 dX9_isThrown__6

noncomputable abbrev rmX9_areNot : Room := { frames := 2, cells := 0, slots := 0, locals := 43 }
theorem ydX9_areNot : yX9_areNot.cls = RX9 ∧ yX9_areNot.cls ≠ "java/lang/invoke/MethodHandle" ∧ yX9_areNot.cls ≠ "java/lang/invoke/VarHandle" ∧ (parseMethodDescriptor yX9_areNot.desc).map (fun d => d.parameters.length) = some 3 := by decide +kernel
noncomputable def F_X9_areNot (p0 : Int32) (p1 : Int32) (p2 : Int32) : Option (Int32 × Int32) :=
 obn (F_X9_isForm p0) (fun r2 =>
 (if r2 = 0 then
 obn2 (F_X9_isThrown_ (1 : Int32)) (fun r27 c_t_thrown_27 =>
 obn (zr r27) (fun rb30 =>
 some (rb30, c_t_thrown_27)))
else
 obn (F_X9_isForm p1) (fun r9 =>
 (if r9 = 0 then
 obn2 (F_X9_isThrown_ (1 : Int32)) (fun r27 c_t_thrown_27 =>
 obn (zr r27) (fun rb30 =>
 some (rb30, c_t_thrown_27)))
else
 obn (F_X9_isForm p2) (fun r16 =>
 (if r16 = 0 then
 obn2 (F_X9_isThrown_ (1 : Int32)) (fun r27 c_t_thrown_27 =>
 obn (zr r27) (fun rb30 =>
 some (rb30, c_t_thrown_27)))
else
 obn2 (F_X9_isThrown_ (0 : Int32)) (fun r27 c_t_thrown_27 =>
 obn (zr r27) (fun rb30 =>
 some (rb30, c_t_thrown_27)))))))))
set_option maxHeartbeats 4000000 in
set_option maxRecDepth 100000 in
theorem c_X9_areNot (l : Launch) (D : va_G) (cyJ : ClassId) (sz : Nat) (a_t : Nat) (a_t_forms : Nat) (a_t_roll : Nat) (c_t_many : Int32) (c_t_taps : Int64) (c_t_cells : Int32) (c_t_acts : Int32) (c_t_refused : Int32) (c_t_knocks : Int32) (c_t_thrown : Int32) (p0 : Int32) (p1 : Int32) (p2 : Int32) (r0 : Int32) (o_c_t_thrown : Int32) (hF : F_X9_areNot p0 p1 p2 = some (r0, o_c_t_thrown)) : Met l yX9_areNot wsX9_areNot rmX9_areNot (va_Pc [.ref a_t, .int p0, .int p1, .int p2] (wPD D [(cyJ, .long)] [(a_t, .inr (8, [.ref a_t_forms, .ref a_t_roll, .int c_t_many, .long c_t_taps, .int c_t_cells, .int c_t_acts, .int c_t_refused, .int c_t_knocks, .int c_t_thrown]))] sz)) (va_Qi (fun (r : Int32) (_ : Unit) => r = r0) (fun _ t => wQA D [(a_t, .inr (8, [.ref a_t_forms, .ref a_t_roll, .int c_t_many, .long c_t_taps, .int c_t_cells, .int c_t_acts, .int c_t_refused, .int c_t_knocks, .int o_c_t_thrown]))] (va_A [(a_t, .inr (8, [.ref a_t_forms, .ref a_t_roll, .int c_t_many, .long c_t_taps, .int c_t_cells, .int c_t_acts, .int c_t_refused, .int c_t_knocks, .int c_t_thrown]))] sz) t) (va_A [(a_t, .inr (8, [.ref a_t_forms, .ref a_t_roll, .int c_t_many, .long c_t_taps, .int c_t_cells, .int c_t_acts, .int c_t_refused, .int c_t_knocks, .int c_t_thrown]))] sz)) 0 0 (va_A [(a_t, .inr (8, [.ref a_t_forms, .ref a_t_roll, .int c_t_many, .long c_t_taps, .int c_t_cells, .int c_t_acts, .int c_t_refused, .int c_t_knocks, .int c_t_thrown]))] sz) := by
  refine Met.ofW (cc := cX9_areNot) (maxL := 4) (ret := (some .boolean)) (by decide) rfl ?_
  intro p e s m args below meth c s₁ B hml hv
  obtain ⟨rfl, hsz, hP, hK, hD0, hnw⟩ := hv
  have hx := B.exec
  have hb := B.bytes
  have hr := B.returns
  have hts := atoms_spec (ws := wsX9_areNot) B.pre
  have hown : s.vm.findClass RX9 = some m.cls := findClass_of_methodNamed B.named
  have hlocks := B.notSynchronized
  have hcf : CallFix _ _ _ _ _ _ _ _ _ := ⟨hx, hb, hml, hown, hts⟩
  subst hsz
  have hD := hD0.self (sz := s.heap.size)
  generalize hAe : va_A [(a_t, .inr (8, [.ref a_t_forms, .ref a_t_roll, .int c_t_many, .long c_t_taps, .int c_t_cells, .int c_t_acts, .int c_t_refused, .int c_t_knocks, .int c_t_thrown]))] s.heap.size = A at hD ⊢
  have hA : ∀ q : Nat, s.heap.size ≤ q → A q := fun q h => by rw [← hAe]; exact Or.inr h
  have hS : va_S A s.heap s.heap [] := va_S.rf
  have hP : va_P D vwCl [(a_t, .inr (8, [.ref a_t_forms, .ref a_t_roll, .int c_t_many, .long c_t_taps, .int c_t_cells, .int c_t_acts, .int c_t_refused, .int c_t_knocks, .int c_t_thrown]))] s.heap := hP
  have hK0 := hK
  have hl := lv_entry ([.ref a_t, .int p0, .int p1, .int p2]) (n := 4) (Nat.le_of_ble_eq_true rfl)
  rw [lg_entry_eq]
  generalize (lg_sl ([.ref a_t, .int p0, .int p1, .int p2]) ++ List.replicate (4 - (lg_sl ([.ref a_t, .int p0, .int p1, .int p2])).length) Slot.unset).toArray = ls at hl ⊢
  have hl : lv_has ls 4 [(0, .ref a_t), (1, .int p0), (2, .int p1), (3, .int p2)] := hl
  have h := hF
  clear hF
  unfold F_X9_areNot at h
  refine lv_aload_n hx hb dX9_areNot_0 rfl (lv_at hl 0 rfl) ?_
  refine lv_iload_n hx hb dX9_areNot_1 rfl (lv_at hl 1 rfl) ?_
  obtain ⟨r2, hc2, h⟩ := obn_h h
  refine pz_callS (As := [.int p0]) (rest := [.ref a_t]) hcf (c_X9_isForm l p0 r2 hc2) (va_cwS 1 hts gX9_areNot_X9_isForm rfl rfl rfl ydX9_isForm ⟨Nat.le_of_ble_eq_true rfl, Nat.le_of_ble_eq_true rfl⟩) hnw rfl hl.1 rfl (Nat.le_of_ble_eq_true rfl) dX9_areNot_2 ⟨Nat.le_of_ble_eq_true rfl, Nat.le_of_ble_eq_true rfl⟩ ?_
  refine lv_if_eq (tgt := 22) hx hb dX9_areNot_5 (by decide) (fun c5 => ?_) (fun c5 => ?_)
  · have h := it_ c5 h
    refine lv_iconst (v := 1) hx hb dX9_areNot_22 (by decide) ?_
    refine lv_goto (tgt := 27) hx hb dX9_areNot_23 (by decide) ?_
    obtain ⟨r27, c_t_thrown_27, hc27, h⟩ := obn2_h h
    have hPc := hP.sub (ws' := [(a_t, .inr (8, [.ref a_t_forms, .ref a_t_roll, .int c_t_many, .long c_t_taps, .int c_t_cells, .int c_t_acts, .int c_t_refused, .int c_t_knocks, .int c_t_thrown]))]) [0] rfl
    have hDc := hD.sub (ws' := [(a_t, .inr (8, [.ref a_t_forms, .ref a_t_roll, .int c_t_many, .long c_t_taps, .int c_t_cells, .int c_t_acts, .int c_t_refused, .int c_t_knocks, .int c_t_thrown]))]) [0] (by decide) rfl
    refine hp_i (w1 := [(a_t, .inr (8, [.ref a_t_forms, .ref a_t_roll, .int c_t_many, .long c_t_taps, .int c_t_cells, .int c_t_acts, .int c_t_refused, .int c_t_knocks, .int c_t_thrown_27]))]) (wr := []) (va_runV (As := [.int (1 : Int32)]) (rest := []) hcf (c_X9_isThrown_ l D cyJ s.heap.size a_t a_t_forms a_t_roll c_t_many c_t_taps c_t_cells c_t_acts c_t_refused c_t_knocks c_t_thrown (1 : Int32) r27 c_t_thrown_27 hc27) (cwV 1 hts gX9_areNot_X9_isThrown_ rfl rfl rfl ydX9_isThrown_ ⟨Nat.le_of_ble_eq_true rfl, Nat.le_of_ble_eq_true rfl⟩) ⟨bl_PD, va_recv hK hP (ci := 8) (q0 := 0) rfl rfl, pr_PD hPc hK0 hDc hnw⟩ rfl rfl hl.1 rfl (lv_room (Nat.le_of_ble_eq_true rfl)) dX9_areNot_27 ⟨Nat.le_of_ble_eq_true rfl, Nat.le_of_ble_eq_true rfl⟩) hP hD hS hA [0] [] rfl rfl (by decide) (by decide) (fun H locs hP hD hS => ?_)
    have hP : va_P D vwCl [(a_t, .inr (8, [.ref a_t_forms, .ref a_t_roll, .int c_t_many, .long c_t_taps, .int c_t_cells, .int c_t_acts, .int c_t_refused, .int c_t_knocks, .int c_t_thrown_27]))] H := hP
    have hD : va_D A [(a_t, .inr (8, [.ref a_t_forms, .ref a_t_roll, .int c_t_many, .long c_t_taps, .int c_t_cells, .int c_t_acts, .int c_t_refused, .int c_t_knocks, .int c_t_thrown_27]))] := hD
    obtain ⟨rb30, hz, h⟩ := obn_h h
    obtain ⟨hz, hnz⟩ := zr_h hz
    subst hz
    obtain ⟨e0, e1⟩ := tup2 h
    subst e0
    subst e1
    have hP9 : va_P D vwCl [(a_t, .inr (8, [.ref a_t_forms, .ref a_t_roll, .int c_t_many, .long c_t_taps, .int c_t_cells, .int c_t_acts, .int c_t_refused, .int c_t_knocks, .int c_t_thrown_27]))] H := hP.sub [0] rfl
    have hD9 : va_D A [(a_t, .inr (8, [.ref a_t_forms, .ref a_t_roll, .int c_t_many, .long c_t_taps, .int c_t_cells, .int c_t_acts, .int c_t_refused, .int c_t_knocks, .int c_t_thrown_27]))] := hD.sub [0] (by decide) rfl
    exact W.zret hx hb hr hnz (fun t ht hW => ⟨⟨_, (), rfl, rfl, wQA_of ht hP9 hD9⟩, hS.F ht⟩) hS.2.2 dX9_areNot_30
  · have h := if_ c5 h
    refine lv_iload_n hx hb dX9_areNot_8 rfl (lv_at hl 2 rfl) ?_
    obtain ⟨r9, hc9, h⟩ := obn_h h
    refine pz_callS (As := [.int p1]) (rest := [.ref a_t]) hcf (c_X9_isForm l p1 r9 hc9) (va_cwS 1 hts gX9_areNot_X9_isForm rfl rfl rfl ydX9_isForm ⟨Nat.le_of_ble_eq_true rfl, Nat.le_of_ble_eq_true rfl⟩) hnw rfl hl.1 rfl (Nat.le_of_ble_eq_true rfl) dX9_areNot_9 ⟨Nat.le_of_ble_eq_true rfl, Nat.le_of_ble_eq_true rfl⟩ ?_
    refine lv_if_eq (tgt := 22) hx hb dX9_areNot_12 (by decide) (fun c12 => ?_) (fun c12 => ?_)
    · have h := it_ c12 h
      refine lv_iconst (v := 1) hx hb dX9_areNot_22 (by decide) ?_
      refine lv_goto (tgt := 27) hx hb dX9_areNot_23 (by decide) ?_
      obtain ⟨r27, c_t_thrown_27, hc27, h⟩ := obn2_h h
      have hPc := hP.sub (ws' := [(a_t, .inr (8, [.ref a_t_forms, .ref a_t_roll, .int c_t_many, .long c_t_taps, .int c_t_cells, .int c_t_acts, .int c_t_refused, .int c_t_knocks, .int c_t_thrown]))]) [0] rfl
      have hDc := hD.sub (ws' := [(a_t, .inr (8, [.ref a_t_forms, .ref a_t_roll, .int c_t_many, .long c_t_taps, .int c_t_cells, .int c_t_acts, .int c_t_refused, .int c_t_knocks, .int c_t_thrown]))]) [0] (by decide) rfl
      refine hp_i (w1 := [(a_t, .inr (8, [.ref a_t_forms, .ref a_t_roll, .int c_t_many, .long c_t_taps, .int c_t_cells, .int c_t_acts, .int c_t_refused, .int c_t_knocks, .int c_t_thrown_27]))]) (wr := []) (va_runV (As := [.int (1 : Int32)]) (rest := []) hcf (c_X9_isThrown_ l D cyJ s.heap.size a_t a_t_forms a_t_roll c_t_many c_t_taps c_t_cells c_t_acts c_t_refused c_t_knocks c_t_thrown (1 : Int32) r27 c_t_thrown_27 hc27) (cwV 1 hts gX9_areNot_X9_isThrown_ rfl rfl rfl ydX9_isThrown_ ⟨Nat.le_of_ble_eq_true rfl, Nat.le_of_ble_eq_true rfl⟩) ⟨bl_PD, va_recv hK hP (ci := 8) (q0 := 0) rfl rfl, pr_PD hPc hK0 hDc hnw⟩ rfl rfl hl.1 rfl (lv_room (Nat.le_of_ble_eq_true rfl)) dX9_areNot_27 ⟨Nat.le_of_ble_eq_true rfl, Nat.le_of_ble_eq_true rfl⟩) hP hD hS hA [0] [] rfl rfl (by decide) (by decide) (fun H locs hP hD hS => ?_)
      have hP : va_P D vwCl [(a_t, .inr (8, [.ref a_t_forms, .ref a_t_roll, .int c_t_many, .long c_t_taps, .int c_t_cells, .int c_t_acts, .int c_t_refused, .int c_t_knocks, .int c_t_thrown_27]))] H := hP
      have hD : va_D A [(a_t, .inr (8, [.ref a_t_forms, .ref a_t_roll, .int c_t_many, .long c_t_taps, .int c_t_cells, .int c_t_acts, .int c_t_refused, .int c_t_knocks, .int c_t_thrown_27]))] := hD
      obtain ⟨rb30, hz, h⟩ := obn_h h
      obtain ⟨hz, hnz⟩ := zr_h hz
      subst hz
      obtain ⟨e0, e1⟩ := tup2 h
      subst e0
      subst e1
      have hP9 : va_P D vwCl [(a_t, .inr (8, [.ref a_t_forms, .ref a_t_roll, .int c_t_many, .long c_t_taps, .int c_t_cells, .int c_t_acts, .int c_t_refused, .int c_t_knocks, .int c_t_thrown_27]))] H := hP.sub [0] rfl
      have hD9 : va_D A [(a_t, .inr (8, [.ref a_t_forms, .ref a_t_roll, .int c_t_many, .long c_t_taps, .int c_t_cells, .int c_t_acts, .int c_t_refused, .int c_t_knocks, .int c_t_thrown_27]))] := hD.sub [0] (by decide) rfl
      exact W.zret hx hb hr hnz (fun t ht hW => ⟨⟨_, (), rfl, rfl, wQA_of ht hP9 hD9⟩, hS.F ht⟩) hS.2.2 dX9_areNot_30
    · have h := if_ c12 h
      refine lv_iload_n hx hb dX9_areNot_15 rfl (lv_at hl 3 rfl) ?_
      obtain ⟨r16, hc16, h⟩ := obn_h h
      refine pz_callS (As := [.int p2]) (rest := [.ref a_t]) hcf (c_X9_isForm l p2 r16 hc16) (va_cwS 1 hts gX9_areNot_X9_isForm rfl rfl rfl ydX9_isForm ⟨Nat.le_of_ble_eq_true rfl, Nat.le_of_ble_eq_true rfl⟩) hnw rfl hl.1 rfl (Nat.le_of_ble_eq_true rfl) dX9_areNot_16 ⟨Nat.le_of_ble_eq_true rfl, Nat.le_of_ble_eq_true rfl⟩ ?_
      refine lv_if_ne (tgt := 26) hx hb dX9_areNot_19 (by decide) (fun c19 => ?_) (fun c19 => ?_)
      · have h := if_ c19 h
        refine lv_iconst (v := 0) hx hb dX9_areNot_26 (by decide) ?_
        obtain ⟨r27, c_t_thrown_27, hc27, h⟩ := obn2_h h
        have hPc := hP.sub (ws' := [(a_t, .inr (8, [.ref a_t_forms, .ref a_t_roll, .int c_t_many, .long c_t_taps, .int c_t_cells, .int c_t_acts, .int c_t_refused, .int c_t_knocks, .int c_t_thrown]))]) [0] rfl
        have hDc := hD.sub (ws' := [(a_t, .inr (8, [.ref a_t_forms, .ref a_t_roll, .int c_t_many, .long c_t_taps, .int c_t_cells, .int c_t_acts, .int c_t_refused, .int c_t_knocks, .int c_t_thrown]))]) [0] (by decide) rfl
        refine hp_i (w1 := [(a_t, .inr (8, [.ref a_t_forms, .ref a_t_roll, .int c_t_many, .long c_t_taps, .int c_t_cells, .int c_t_acts, .int c_t_refused, .int c_t_knocks, .int c_t_thrown_27]))]) (wr := []) (va_runV (As := [.int (0 : Int32)]) (rest := []) hcf (c_X9_isThrown_ l D cyJ s.heap.size a_t a_t_forms a_t_roll c_t_many c_t_taps c_t_cells c_t_acts c_t_refused c_t_knocks c_t_thrown (0 : Int32) r27 c_t_thrown_27 hc27) (cwV 1 hts gX9_areNot_X9_isThrown_ rfl rfl rfl ydX9_isThrown_ ⟨Nat.le_of_ble_eq_true rfl, Nat.le_of_ble_eq_true rfl⟩) ⟨bl_PD, va_recv hK hP (ci := 8) (q0 := 0) rfl rfl, pr_PD hPc hK0 hDc hnw⟩ rfl rfl hl.1 rfl (lv_room (Nat.le_of_ble_eq_true rfl)) dX9_areNot_27 ⟨Nat.le_of_ble_eq_true rfl, Nat.le_of_ble_eq_true rfl⟩) hP hD hS hA [0] [] rfl rfl (by decide) (by decide) (fun H locs hP hD hS => ?_)
        have hP : va_P D vwCl [(a_t, .inr (8, [.ref a_t_forms, .ref a_t_roll, .int c_t_many, .long c_t_taps, .int c_t_cells, .int c_t_acts, .int c_t_refused, .int c_t_knocks, .int c_t_thrown_27]))] H := hP
        have hD : va_D A [(a_t, .inr (8, [.ref a_t_forms, .ref a_t_roll, .int c_t_many, .long c_t_taps, .int c_t_cells, .int c_t_acts, .int c_t_refused, .int c_t_knocks, .int c_t_thrown_27]))] := hD
        obtain ⟨rb30, hz, h⟩ := obn_h h
        obtain ⟨hz, hnz⟩ := zr_h hz
        subst hz
        obtain ⟨e0, e1⟩ := tup2 h
        subst e0
        subst e1
        have hP9 : va_P D vwCl [(a_t, .inr (8, [.ref a_t_forms, .ref a_t_roll, .int c_t_many, .long c_t_taps, .int c_t_cells, .int c_t_acts, .int c_t_refused, .int c_t_knocks, .int c_t_thrown_27]))] H := hP.sub [0] rfl
        have hD9 : va_D A [(a_t, .inr (8, [.ref a_t_forms, .ref a_t_roll, .int c_t_many, .long c_t_taps, .int c_t_cells, .int c_t_acts, .int c_t_refused, .int c_t_knocks, .int c_t_thrown_27]))] := hD.sub [0] (by decide) rfl
        exact W.zret hx hb hr hnz (fun t ht hW => ⟨⟨_, (), rfl, rfl, wQA_of ht hP9 hD9⟩, hS.F ht⟩) hS.2.2 dX9_areNot_30
      · have h := it_ c19 h
        refine lv_iconst (v := 1) hx hb dX9_areNot_22 (by decide) ?_
        refine lv_goto (tgt := 27) hx hb dX9_areNot_23 (by decide) ?_
        obtain ⟨r27, c_t_thrown_27, hc27, h⟩ := obn2_h h
        have hPc := hP.sub (ws' := [(a_t, .inr (8, [.ref a_t_forms, .ref a_t_roll, .int c_t_many, .long c_t_taps, .int c_t_cells, .int c_t_acts, .int c_t_refused, .int c_t_knocks, .int c_t_thrown]))]) [0] rfl
        have hDc := hD.sub (ws' := [(a_t, .inr (8, [.ref a_t_forms, .ref a_t_roll, .int c_t_many, .long c_t_taps, .int c_t_cells, .int c_t_acts, .int c_t_refused, .int c_t_knocks, .int c_t_thrown]))]) [0] (by decide) rfl
        refine hp_i (w1 := [(a_t, .inr (8, [.ref a_t_forms, .ref a_t_roll, .int c_t_many, .long c_t_taps, .int c_t_cells, .int c_t_acts, .int c_t_refused, .int c_t_knocks, .int c_t_thrown_27]))]) (wr := []) (va_runV (As := [.int (1 : Int32)]) (rest := []) hcf (c_X9_isThrown_ l D cyJ s.heap.size a_t a_t_forms a_t_roll c_t_many c_t_taps c_t_cells c_t_acts c_t_refused c_t_knocks c_t_thrown (1 : Int32) r27 c_t_thrown_27 hc27) (cwV 1 hts gX9_areNot_X9_isThrown_ rfl rfl rfl ydX9_isThrown_ ⟨Nat.le_of_ble_eq_true rfl, Nat.le_of_ble_eq_true rfl⟩) ⟨bl_PD, va_recv hK hP (ci := 8) (q0 := 0) rfl rfl, pr_PD hPc hK0 hDc hnw⟩ rfl rfl hl.1 rfl (lv_room (Nat.le_of_ble_eq_true rfl)) dX9_areNot_27 ⟨Nat.le_of_ble_eq_true rfl, Nat.le_of_ble_eq_true rfl⟩) hP hD hS hA [0] [] rfl rfl (by decide) (by decide) (fun H locs hP hD hS => ?_)
        have hP : va_P D vwCl [(a_t, .inr (8, [.ref a_t_forms, .ref a_t_roll, .int c_t_many, .long c_t_taps, .int c_t_cells, .int c_t_acts, .int c_t_refused, .int c_t_knocks, .int c_t_thrown_27]))] H := hP
        have hD : va_D A [(a_t, .inr (8, [.ref a_t_forms, .ref a_t_roll, .int c_t_many, .long c_t_taps, .int c_t_cells, .int c_t_acts, .int c_t_refused, .int c_t_knocks, .int c_t_thrown_27]))] := hD
        obtain ⟨rb30, hz, h⟩ := obn_h h
        obtain ⟨hz, hnz⟩ := zr_h hz
        subst hz
        obtain ⟨e0, e1⟩ := tup2 h
        subst e0
        subst e1
        have hP9 : va_P D vwCl [(a_t, .inr (8, [.ref a_t_forms, .ref a_t_roll, .int c_t_many, .long c_t_taps, .int c_t_cells, .int c_t_acts, .int c_t_refused, .int c_t_knocks, .int c_t_thrown_27]))] H := hP.sub [0] rfl
        have hD9 : va_D A [(a_t, .inr (8, [.ref a_t_forms, .ref a_t_roll, .int c_t_many, .long c_t_taps, .int c_t_cells, .int c_t_acts, .int c_t_refused, .int c_t_knocks, .int c_t_thrown_27]))] := hD.sub [0] (by decide) rfl
        exact W.zret hx hb hr hnz (fun t ht hW => ⟨⟨_, (), rfl, rfl, wQA_of ht hP9 hD9⟩, hS.F ht⟩) hS.2.2 dX9_areNot_30

noncomputable abbrev rmX9_done : Room := { frames := 0, cells := 0, slots := 0, locals := 0 }
theorem ydX9_done : yX9_done.cls = RX9 ∧ yX9_done.cls ≠ "java/lang/invoke/MethodHandle" ∧ yX9_done.cls ≠ "java/lang/invoke/VarHandle" ∧ (parseMethodDescriptor yX9_done.desc).map (fun d => d.parameters.length) = some 1 := by decide +kernel
noncomputable def F_X9_done (c_t_acts : Int32) (p0 : Int32) : Option (Int32 × Int32) :=
 bnd (c_t_acts + (1 : Int32)) (fun c_t_acts_7 =>
 some (p0, c_t_acts_7))
set_option maxHeartbeats 4000000 in
set_option maxRecDepth 100000 in
theorem c_X9_done (l : Launch) (D : va_G) (cyJ : ClassId) (sz : Nat) (a_t : Nat) (a_t_forms : Nat) (a_t_roll : Nat) (c_t_many : Int32) (c_t_taps : Int64) (c_t_cells : Int32) (c_t_acts : Int32) (c_t_refused : Int32) (c_t_knocks : Int32) (c_t_thrown : Int32) (p0 : Int32) (r0 : Int32) (o_c_t_acts : Int32) (hF : F_X9_done c_t_acts p0 = some (r0, o_c_t_acts)) : Met l yX9_done wsX9_done rmX9_done (va_Pc [.ref a_t, .int p0] (wPD D [(cyJ, .long)] [(a_t, .inr (8, [.ref a_t_forms, .ref a_t_roll, .int c_t_many, .long c_t_taps, .int c_t_cells, .int c_t_acts, .int c_t_refused, .int c_t_knocks, .int c_t_thrown]))] sz)) (va_Qi (fun (r : Int32) (_ : Unit) => r = r0) (fun _ t => wQA D [(a_t, .inr (8, [.ref a_t_forms, .ref a_t_roll, .int c_t_many, .long c_t_taps, .int c_t_cells, .int o_c_t_acts, .int c_t_refused, .int c_t_knocks, .int c_t_thrown]))] (va_A [(a_t, .inr (8, [.ref a_t_forms, .ref a_t_roll, .int c_t_many, .long c_t_taps, .int c_t_cells, .int c_t_acts, .int c_t_refused, .int c_t_knocks, .int c_t_thrown]))] sz) t) (va_A [(a_t, .inr (8, [.ref a_t_forms, .ref a_t_roll, .int c_t_many, .long c_t_taps, .int c_t_cells, .int c_t_acts, .int c_t_refused, .int c_t_knocks, .int c_t_thrown]))] sz)) 0 0 (va_A [(a_t, .inr (8, [.ref a_t_forms, .ref a_t_roll, .int c_t_many, .long c_t_taps, .int c_t_cells, .int c_t_acts, .int c_t_refused, .int c_t_knocks, .int c_t_thrown]))] sz) := by
  refine Met.ofW (cc := cX9_done) (maxL := 2) (ret := (some .int)) (by decide) rfl ?_
  intro p e s m args below meth c s₁ B hml hv
  obtain ⟨rfl, hsz, hP, hK, hD0, hnw⟩ := hv
  have hx := B.exec
  have hb := B.bytes
  have hr := B.returns
  have hts := atoms_spec (ws := wsX9_done) B.pre
  have hown : s.vm.findClass RX9 = some m.cls := findClass_of_methodNamed B.named
  have hlocks := B.notSynchronized
  have hcf : CallFix _ _ _ _ _ _ _ _ _ := ⟨hx, hb, hml, hown, hts⟩
  have hinX9 : ∀ w ∈ u_ws RX9 TX9 9, w ∈ wsX9_done := by decide +kernel
  have hfl74 := hts (.fieldLink RX9 74 "FormwheelModel" "acts" "I") (by decide +kernel)
  subst hsz
  have hD := hD0.self (sz := s.heap.size)
  generalize hAe : va_A [(a_t, .inr (8, [.ref a_t_forms, .ref a_t_roll, .int c_t_many, .long c_t_taps, .int c_t_cells, .int c_t_acts, .int c_t_refused, .int c_t_knocks, .int c_t_thrown]))] s.heap.size = A at hD ⊢
  have hA : ∀ q : Nat, s.heap.size ≤ q → A q := fun q h => by rw [← hAe]; exact Or.inr h
  have hS : va_S A s.heap s.heap [] := va_S.rf
  have hP : va_P D vwCl [(a_t, .inr (8, [.ref a_t_forms, .ref a_t_roll, .int c_t_many, .long c_t_taps, .int c_t_cells, .int c_t_acts, .int c_t_refused, .int c_t_knocks, .int c_t_thrown]))] s.heap := hP
  have hK0 := hK
  have hl := lv_entry ([.ref a_t, .int p0]) (n := 2) (Nat.le_of_ble_eq_true rfl)
  rw [lg_entry_eq]
  generalize (lg_sl ([.ref a_t, .int p0]) ++ List.replicate (2 - (lg_sl ([.ref a_t, .int p0])).length) Slot.unset).toArray = ls at hl ⊢
  have hl : lv_has ls 2 [(0, .ref a_t), (1, .int p0)] := hl
  have h := hF
  clear hF
  unfold F_X9_done at h
  refine lv_aload_n hx hb dX9_done_0 rfl (lv_at hl 0 rfl) ?_
  refine lv_dup hx hb dX9_done_1 rfl ?_
  refine va_get (D := D) (ci := 8) (v := .int c_t_acts) (C := RX9) (T := TX9) (N := 9) hx hb hts hinX9 hown hK hP 0 rfl rfl 5 (by decide) hfl74 (fun _ h9 => h9) rfl dX9_done_2 ?_
  refine lv_iconst (v := 1) hx hb dX9_done_5 (by decide) ?_
  refine lv_iadd hx hb dX9_done_6 ?_
  refine lv_topi (fun c_t_acts_7 e_c_t_acts_7 => ?_)
  have h := bnd_h e_c_t_acts_7 h
  refine va_put (D := D) (ci := 8) (v := .int c_t_acts_7) (ty := .int) (C := RX9) (T := TX9) (N := 9) hx hb hts hinX9 tyX9 tyX9_ok nmX9 hown hK hP hD hS 0 rfl rfl 5 (by decide) hfl74 (fun _ h9 => h9) rfl (by decide +kernel) rfl rfl (Nat.le_of_ble_eq_true rfl) dX9_done_7 (fun H locs hP hD hS => ?_)
  have hP : va_P D vwCl [(a_t, .inr (8, [.ref a_t_forms, .ref a_t_roll, .int c_t_many, .long c_t_taps, .int c_t_cells, .int c_t_acts_7, .int c_t_refused, .int c_t_knocks, .int c_t_thrown]))] H := hP
  have hD : va_D A [(a_t, .inr (8, [.ref a_t_forms, .ref a_t_roll, .int c_t_many, .long c_t_taps, .int c_t_cells, .int c_t_acts_7, .int c_t_refused, .int c_t_knocks, .int c_t_thrown]))] := hD
  refine lv_iload_n hx hb dX9_done_10 rfl (lv_at hl 1 rfl) ?_
  obtain ⟨e0, e1⟩ := tup2 h
  subst e0
  subst e1
  have hP9 : va_P D vwCl [(a_t, .inr (8, [.ref a_t_forms, .ref a_t_roll, .int c_t_many, .long c_t_taps, .int c_t_cells, .int c_t_acts_7, .int c_t_refused, .int c_t_knocks, .int c_t_thrown]))] H := hP.sub [0] rfl
  have hD9 : va_D A [(a_t, .inr (8, [.ref a_t_forms, .ref a_t_roll, .int c_t_many, .long c_t_taps, .int c_t_cells, .int c_t_acts_7, .int c_t_refused, .int c_t_knocks, .int c_t_thrown]))] := hD.sub [0] (by decide) rfl
  exact W.iret hx hb hr (fun t ht hW => ⟨⟨_, (), rfl, rfl, wQA_of ht hP9 hD9⟩, hS.F ht⟩) hS.2.2 dX9_done_11

noncomputable abbrev rmX9_no : Room := { frames := 0, cells := 0, slots := 0, locals := 0 }
theorem ydX9_no : yX9_no.cls = RX9 ∧ yX9_no.cls ≠ "java/lang/invoke/MethodHandle" ∧ yX9_no.cls ≠ "java/lang/invoke/VarHandle" ∧ (parseMethodDescriptor yX9_no.desc).map (fun d => d.parameters.length) = some 0 := by decide +kernel
noncomputable def F_X9_no (c_t_refused : Int32) : Option (Int32 × Int32) :=
 bnd (c_t_refused + (1 : Int32)) (fun c_t_refused_7 =>
 some ((-9 : Int32), c_t_refused_7))
set_option maxHeartbeats 4000000 in
set_option maxRecDepth 100000 in
theorem c_X9_no (l : Launch) (D : va_G) (cyJ : ClassId) (sz : Nat) (a_t : Nat) (a_t_forms : Nat) (a_t_roll : Nat) (c_t_many : Int32) (c_t_taps : Int64) (c_t_cells : Int32) (c_t_acts : Int32) (c_t_refused : Int32) (c_t_knocks : Int32) (c_t_thrown : Int32) (r0 : Int32) (o_c_t_refused : Int32) (hF : F_X9_no c_t_refused = some (r0, o_c_t_refused)) : Met l yX9_no wsX9_no rmX9_no (va_Pc [.ref a_t] (wPD D [(cyJ, .long)] [(a_t, .inr (8, [.ref a_t_forms, .ref a_t_roll, .int c_t_many, .long c_t_taps, .int c_t_cells, .int c_t_acts, .int c_t_refused, .int c_t_knocks, .int c_t_thrown]))] sz)) (va_Qi (fun (r : Int32) (_ : Unit) => r = r0) (fun _ t => wQA D [(a_t, .inr (8, [.ref a_t_forms, .ref a_t_roll, .int c_t_many, .long c_t_taps, .int c_t_cells, .int c_t_acts, .int o_c_t_refused, .int c_t_knocks, .int c_t_thrown]))] (va_A [(a_t, .inr (8, [.ref a_t_forms, .ref a_t_roll, .int c_t_many, .long c_t_taps, .int c_t_cells, .int c_t_acts, .int c_t_refused, .int c_t_knocks, .int c_t_thrown]))] sz) t) (va_A [(a_t, .inr (8, [.ref a_t_forms, .ref a_t_roll, .int c_t_many, .long c_t_taps, .int c_t_cells, .int c_t_acts, .int c_t_refused, .int c_t_knocks, .int c_t_thrown]))] sz)) 0 0 (va_A [(a_t, .inr (8, [.ref a_t_forms, .ref a_t_roll, .int c_t_many, .long c_t_taps, .int c_t_cells, .int c_t_acts, .int c_t_refused, .int c_t_knocks, .int c_t_thrown]))] sz) := by
  refine Met.ofW (cc := cX9_no) (maxL := 1) (ret := (some .int)) (by decide) rfl ?_
  intro p e s m args below meth c s₁ B hml hv
  obtain ⟨rfl, hsz, hP, hK, hD0, hnw⟩ := hv
  have hx := B.exec
  have hb := B.bytes
  have hr := B.returns
  have hts := atoms_spec (ws := wsX9_no) B.pre
  have hown : s.vm.findClass RX9 = some m.cls := findClass_of_methodNamed B.named
  have hlocks := B.notSynchronized
  have hcf : CallFix _ _ _ _ _ _ _ _ _ := ⟨hx, hb, hml, hown, hts⟩
  have hinX9 : ∀ w ∈ u_ws RX9 TX9 9, w ∈ wsX9_no := by decide +kernel
  have hfl77 := hts (.fieldLink RX9 77 "FormwheelModel" "refused" "I") (by decide +kernel)
  subst hsz
  have hD := hD0.self (sz := s.heap.size)
  generalize hAe : va_A [(a_t, .inr (8, [.ref a_t_forms, .ref a_t_roll, .int c_t_many, .long c_t_taps, .int c_t_cells, .int c_t_acts, .int c_t_refused, .int c_t_knocks, .int c_t_thrown]))] s.heap.size = A at hD ⊢
  have hA : ∀ q : Nat, s.heap.size ≤ q → A q := fun q h => by rw [← hAe]; exact Or.inr h
  have hS : va_S A s.heap s.heap [] := va_S.rf
  have hP : va_P D vwCl [(a_t, .inr (8, [.ref a_t_forms, .ref a_t_roll, .int c_t_many, .long c_t_taps, .int c_t_cells, .int c_t_acts, .int c_t_refused, .int c_t_knocks, .int c_t_thrown]))] s.heap := hP
  have hK0 := hK
  have hl := lv_entry ([.ref a_t]) (n := 1) (Nat.le_of_ble_eq_true rfl)
  rw [lg_entry_eq]
  generalize (lg_sl ([.ref a_t]) ++ List.replicate (1 - (lg_sl ([.ref a_t])).length) Slot.unset).toArray = ls at hl ⊢
  have hl : lv_has ls 1 [(0, .ref a_t)] := hl
  have h := hF
  clear hF
  unfold F_X9_no at h
  refine lv_aload_n hx hb dX9_no_0 rfl (lv_at hl 0 rfl) ?_
  refine lv_dup hx hb dX9_no_1 rfl ?_
  refine va_get (D := D) (ci := 8) (v := .int c_t_refused) (C := RX9) (T := TX9) (N := 9) hx hb hts hinX9 hown hK hP 0 rfl rfl 6 (by decide) hfl77 (fun _ h9 => h9) rfl dX9_no_2 ?_
  refine lv_iconst (v := 1) hx hb dX9_no_5 (by decide) ?_
  refine lv_iadd hx hb dX9_no_6 ?_
  refine lv_topi (fun c_t_refused_7 e_c_t_refused_7 => ?_)
  have h := bnd_h e_c_t_refused_7 h
  refine va_put (D := D) (ci := 8) (v := .int c_t_refused_7) (ty := .int) (C := RX9) (T := TX9) (N := 9) hx hb hts hinX9 tyX9 tyX9_ok nmX9 hown hK hP hD hS 0 rfl rfl 6 (by decide) hfl77 (fun _ h9 => h9) rfl (by decide +kernel) rfl rfl (Nat.le_of_ble_eq_true rfl) dX9_no_7 (fun H locs hP hD hS => ?_)
  have hP : va_P D vwCl [(a_t, .inr (8, [.ref a_t_forms, .ref a_t_roll, .int c_t_many, .long c_t_taps, .int c_t_cells, .int c_t_acts, .int c_t_refused_7, .int c_t_knocks, .int c_t_thrown]))] H := hP
  have hD : va_D A [(a_t, .inr (8, [.ref a_t_forms, .ref a_t_roll, .int c_t_many, .long c_t_taps, .int c_t_cells, .int c_t_acts, .int c_t_refused_7, .int c_t_knocks, .int c_t_thrown]))] := hD
  refine lv_bipush (v := -9) hx hb dX9_no_10 (by decide) ?_
  obtain ⟨e0, e1⟩ := tup2 h
  subst e0
  subst e1
  have hP9 : va_P D vwCl [(a_t, .inr (8, [.ref a_t_forms, .ref a_t_roll, .int c_t_many, .long c_t_taps, .int c_t_cells, .int c_t_acts, .int c_t_refused_7, .int c_t_knocks, .int c_t_thrown]))] H := hP.sub [0] rfl
  have hD9 : va_D A [(a_t, .inr (8, [.ref a_t_forms, .ref a_t_roll, .int c_t_many, .long c_t_taps, .int c_t_cells, .int c_t_acts, .int c_t_refused_7, .int c_t_knocks, .int c_t_thrown]))] := hD.sub [0] (by decide) rfl
  exact W.iret hx hb hr (fun t ht hW => ⟨⟨_, (), rfl, rfl, wQA_of ht hP9 hD9⟩, hS.F ht⟩) hS.2.2 dX9_no_12

noncomputable abbrev rmX9_give : Room := { frames := 3, cells := 0, slots := 0, locals := 64 }
theorem ydX9_give : yX9_give.cls = RX9 ∧ yX9_give.cls ≠ "java/lang/invoke/MethodHandle" ∧ yX9_give.cls ≠ "java/lang/invoke/VarHandle" ∧ (parseMethodDescriptor yX9_give.desc).map (fun d => d.parameters.length) = some 2 := by decide +kernel
noncomputable def F_X9_give (c_t_acts : Int32) (f_t_forms : Nat → Int64) (p0 : Int32) (p1 : Int64) : Option (Int32 × Int32 × (Nat → Int64)) :=
 chk (¬ (p0 < 0 ∨ 6 ≤ p0.toNatClampNeg)) (
 bnd (vp_updL f_t_forms p0.toNatClampNeg p1) (fun f_t_forms_6 =>
 obn (F_X9_degreeOf p1) (fun r9 =>
 obn2 (F_X9_done c_t_acts r9) (fun r12 c_t_acts_12 =>
 some (r12, c_t_acts_12, f_t_forms_6)))))
set_option maxHeartbeats 4000000 in
set_option maxRecDepth 100000 in
theorem c_X9_give (l : Launch) (D : va_G) (cyJ : ClassId) (sz : Nat) (a_t : Nat) (a_t_forms : Nat) (a_t_roll : Nat) (c_t_many : Int32) (c_t_taps : Int64) (c_t_cells : Int32) (c_t_acts : Int32) (c_t_refused : Int32) (c_t_knocks : Int32) (c_t_thrown : Int32) (f_t_forms : Nat → Int64) (p0 : Int32) (p1 : Int64) (r0 : Int32) (o_c_t_acts : Int32) (o_f_t_forms : Nat → Int64) (hF : F_X9_give c_t_acts f_t_forms p0 p1 = some (r0, o_c_t_acts, o_f_t_forms)) : Met l yX9_give wsX9_give rmX9_give (va_Pc [.ref a_t, .int p0, .long p1] (wPD D [(cyJ, .long)] [(a_t, .inr (8, [.ref a_t_forms, .ref a_t_roll, .int c_t_many, .long c_t_taps, .int c_t_cells, .int c_t_acts, .int c_t_refused, .int c_t_knocks, .int c_t_thrown])), (a_t_forms, .inl (cyJ, 6, .inr (.inl f_t_forms)))] sz)) (va_Qi (fun (r : Int32) (_ : Unit) => r = r0) (fun _ t => wQA D [(a_t, .inr (8, [.ref a_t_forms, .ref a_t_roll, .int c_t_many, .long c_t_taps, .int c_t_cells, .int o_c_t_acts, .int c_t_refused, .int c_t_knocks, .int c_t_thrown])), (a_t_forms, .inl (cyJ, 6, .inr (.inl o_f_t_forms)))] (va_A [(a_t, .inr (8, [.ref a_t_forms, .ref a_t_roll, .int c_t_many, .long c_t_taps, .int c_t_cells, .int c_t_acts, .int c_t_refused, .int c_t_knocks, .int c_t_thrown])), (a_t_forms, .inl (cyJ, 6, .inr (.inl f_t_forms)))] sz) t) (va_A [(a_t, .inr (8, [.ref a_t_forms, .ref a_t_roll, .int c_t_many, .long c_t_taps, .int c_t_cells, .int c_t_acts, .int c_t_refused, .int c_t_knocks, .int c_t_thrown])), (a_t_forms, .inl (cyJ, 6, .inr (.inl f_t_forms)))] sz)) 0 0 (va_A [(a_t, .inr (8, [.ref a_t_forms, .ref a_t_roll, .int c_t_many, .long c_t_taps, .int c_t_cells, .int c_t_acts, .int c_t_refused, .int c_t_knocks, .int c_t_thrown])), (a_t_forms, .inl (cyJ, 6, .inr (.inl f_t_forms)))] sz) := by
  refine Met.ofW (cc := cX9_give) (maxL := 4) (ret := (some .int)) (by decide) rfl ?_
  intro p e s m args below meth c s₁ B hml hv
  obtain ⟨rfl, hsz, hP, hK, hD0, hnw⟩ := hv
  have hx := B.exec
  have hb := B.bytes
  have hr := B.returns
  have hts := atoms_spec (ws := wsX9_give) B.pre
  have hown : s.vm.findClass RX9 = some m.cls := findClass_of_methodNamed B.named
  have hlocks := B.notSynchronized
  have hcf : CallFix _ _ _ _ _ _ _ _ _ := ⟨hx, hb, hml, hown, hts⟩
  have hinX9 : ∀ w ∈ u_ws RX9 TX9 9, w ∈ wsX9_give := by decide +kernel
  have hfl9 := hts (.fieldLink RX9 9 "FormwheelModel" "forms" "[J") (by decide +kernel)
  subst hsz
  have hD := hD0.self (sz := s.heap.size)
  generalize hAe : va_A [(a_t, .inr (8, [.ref a_t_forms, .ref a_t_roll, .int c_t_many, .long c_t_taps, .int c_t_cells, .int c_t_acts, .int c_t_refused, .int c_t_knocks, .int c_t_thrown])), (a_t_forms, .inl (cyJ, 6, .inr (.inl f_t_forms)))] s.heap.size = A at hD ⊢
  have hA : ∀ q : Nat, s.heap.size ≤ q → A q := fun q h => by rw [← hAe]; exact Or.inr h
  have hS : va_S A s.heap s.heap [] := va_S.rf
  have hP : va_P D vwCl [(a_t, .inr (8, [.ref a_t_forms, .ref a_t_roll, .int c_t_many, .long c_t_taps, .int c_t_cells, .int c_t_acts, .int c_t_refused, .int c_t_knocks, .int c_t_thrown])), (a_t_forms, .inl (cyJ, 6, .inr (.inl f_t_forms)))] s.heap := hP
  have hK0 := hK
  have hl := lv_entry ([.ref a_t, .int p0, .long p1]) (n := 4) (Nat.le_of_ble_eq_true rfl)
  rw [lg_entry_eq]
  generalize (lg_sl ([.ref a_t, .int p0, .long p1]) ++ List.replicate (4 - (lg_sl ([.ref a_t, .int p0, .long p1])).length) Slot.unset).toArray = ls at hl ⊢
  have hl : lv_has ls 4 [(0, .ref a_t), (1, .int p0), (2, .long p1)] := hl
  have h := hF
  clear hF
  unfold F_X9_give at h
  refine lv_aload_n hx hb dX9_give_0 rfl (lv_at hl 0 rfl) ?_
  refine va_get (D := D) (ci := 8) (v := .ref a_t_forms) (C := RX9) (T := TX9) (N := 9) hx hb hts hinX9 hown hK hP 0 rfl rfl 0 (by decide) hfl9 (fun _ h9 => h9) rfl dX9_give_1 ?_
  refine lv_iload_n hx hb dX9_give_4 rfl (lv_at hl 1 rfl) ?_
  refine lv_lload_n hx hb dX9_give_5 rfl (lv_at hl 2 rfl) ?_
  obtain ⟨hq6, h⟩ := chk_h h
  refine va_last hx hb hK hP hD hS 1 0 rfl rfl hq6 dX9_give_6 (fun H locs hP hD hS => ?_)
  obtain ⟨f_t_forms_6, e_f_t_forms_6⟩ : ∃ z, z = vp_updL f_t_forms p0.toNatClampNeg p1 := ⟨_, rfl⟩
  have h := bnd_h e_f_t_forms_6 h
  have hP : va_P D vwCl [(a_t, .inr (8, [.ref a_t_forms, .ref a_t_roll, .int c_t_many, .long c_t_taps, .int c_t_cells, .int c_t_acts, .int c_t_refused, .int c_t_knocks, .int c_t_thrown])), (a_t_forms, .inl (cyJ, 6, .inr (.inl f_t_forms_6)))] H := by rw [e_f_t_forms_6]; exact hP
  have hD : va_D A [(a_t, .inr (8, [.ref a_t_forms, .ref a_t_roll, .int c_t_many, .long c_t_taps, .int c_t_cells, .int c_t_acts, .int c_t_refused, .int c_t_knocks, .int c_t_thrown])), (a_t_forms, .inl (cyJ, 6, .inr (.inl f_t_forms_6)))] := by rw [e_f_t_forms_6]; exact hD
  refine lv_aload_n hx hb dX9_give_7 rfl (lv_at hl 0 rfl) ?_
  refine lv_lload_n hx hb dX9_give_8 rfl (lv_at hl 2 rfl) ?_
  obtain ⟨r9, hc9, h⟩ := obn_h h
  refine pz_callS (As := [.long p1]) (rest := [.ref a_t]) hcf (c_X9_degreeOf l p1 r9 hc9) (va_cwS 1 hts gX9_give_X9_degreeOf rfl rfl rfl ydX9_degreeOf ⟨Nat.le_of_ble_eq_true rfl, Nat.le_of_ble_eq_true rfl⟩) hnw rfl hl.1 rfl (Nat.le_of_ble_eq_true rfl) dX9_give_9 ⟨Nat.le_of_ble_eq_true rfl, Nat.le_of_ble_eq_true rfl⟩ ?_
  obtain ⟨r12, c_t_acts_12, hc12, h⟩ := obn2_h h
  have hPc := hP.sub (ws' := [(a_t, .inr (8, [.ref a_t_forms, .ref a_t_roll, .int c_t_many, .long c_t_taps, .int c_t_cells, .int c_t_acts, .int c_t_refused, .int c_t_knocks, .int c_t_thrown]))]) [0] rfl
  have hDc := hD.sub (ws' := [(a_t, .inr (8, [.ref a_t_forms, .ref a_t_roll, .int c_t_many, .long c_t_taps, .int c_t_cells, .int c_t_acts, .int c_t_refused, .int c_t_knocks, .int c_t_thrown]))]) [0] (by decide) rfl
  refine hp_i (w1 := [(a_t, .inr (8, [.ref a_t_forms, .ref a_t_roll, .int c_t_many, .long c_t_taps, .int c_t_cells, .int c_t_acts_12, .int c_t_refused, .int c_t_knocks, .int c_t_thrown]))]) (wr := [(a_t_forms, .inl (cyJ, 6, .inr (.inl f_t_forms_6)))]) (va_runV (As := [.int r9]) (rest := []) hcf (c_X9_done l D cyJ H.size a_t a_t_forms a_t_roll c_t_many c_t_taps c_t_cells c_t_acts c_t_refused c_t_knocks c_t_thrown r9 r12 c_t_acts_12 hc12) (cwV 1 hts gX9_give_X9_done rfl rfl rfl ydX9_done ⟨Nat.le_of_ble_eq_true rfl, Nat.le_of_ble_eq_true rfl⟩) ⟨bl_PD, va_recv hK hP (ci := 8) (q0 := 0) rfl rfl, pr_PD hPc hK0 hDc hnw⟩ rfl rfl hl.1 rfl (lv_room (Nat.le_of_ble_eq_true rfl)) dX9_give_12 ⟨Nat.le_of_ble_eq_true rfl, Nat.le_of_ble_eq_true rfl⟩) hP hD hS hA [0] [1] rfl rfl (by decide) (by decide) (fun H locs hP hD hS => ?_)
  have hP : va_P D vwCl [(a_t_forms, .inl (cyJ, 6, .inr (.inl f_t_forms_6))), (a_t, .inr (8, [.ref a_t_forms, .ref a_t_roll, .int c_t_many, .long c_t_taps, .int c_t_cells, .int c_t_acts_12, .int c_t_refused, .int c_t_knocks, .int c_t_thrown]))] H := hP
  have hD : va_D A [(a_t_forms, .inl (cyJ, 6, .inr (.inl f_t_forms_6))), (a_t, .inr (8, [.ref a_t_forms, .ref a_t_roll, .int c_t_many, .long c_t_taps, .int c_t_cells, .int c_t_acts_12, .int c_t_refused, .int c_t_knocks, .int c_t_thrown]))] := hD
  obtain ⟨e0, e1, e2⟩ := tup3 h
  subst e0
  subst e1
  subst e2
  have hP9 : va_P D vwCl [(a_t, .inr (8, [.ref a_t_forms, .ref a_t_roll, .int c_t_many, .long c_t_taps, .int c_t_cells, .int c_t_acts_12, .int c_t_refused, .int c_t_knocks, .int c_t_thrown])), (a_t_forms, .inl (cyJ, 6, .inr (.inl f_t_forms_6)))] H := hP.sub [1, 0] rfl
  have hD9 : va_D A [(a_t, .inr (8, [.ref a_t_forms, .ref a_t_roll, .int c_t_many, .long c_t_taps, .int c_t_cells, .int c_t_acts_12, .int c_t_refused, .int c_t_knocks, .int c_t_thrown])), (a_t_forms, .inl (cyJ, 6, .inr (.inl f_t_forms_6)))] := hD.sub [1, 0] (by decide) rfl
  exact W.iret hx hb hr (fun t ht hW => ⟨⟨_, (), rfl, rfl, wQA_of ht hP9 hD9⟩, hS.F ht⟩) hS.2.2 dX9_give_15

noncomputable abbrev rmX9_set : Room := { frames := 3, cells := 0, slots := 0, locals := 64 }
theorem ydX9_set : yX9_set.cls = RX9 ∧ yX9_set.cls ≠ "java/lang/invoke/MethodHandle" ∧ yX9_set.cls ≠ "java/lang/invoke/VarHandle" ∧ (parseMethodDescriptor yX9_set.desc).map (fun d => d.parameters.length) = some 2 := by decide +kernel
noncomputable def J_X9_set_22 (jl1_22 : Int32) (jl2_22 : Int32) (js1_22 : Int32) (js2_22 : Int32) (c_t_acts_j22 : Int32) (c_t_thrown_j22 : Int32) (f_t_forms_j22 : Nat → Int64) : Option (Int32 × Int32 × Int32 × (Nat → Int64)) :=
 obn2 (F_X9_isThrown js1_22 js2_22) (fun r22 c_t_thrown_22 =>
 (if r22 = 0 then
 chk (¬ (jl1_22 < 0 ∨ 6 ≤ jl1_22.toNatClampNeg)) (
 obn (F_X9_degreeOf (f_t_forms_j22 jl1_22.toNatClampNeg)) (fun r36 =>
 chk (¬ (jl1_22 < 0 ∨ 6 ≤ jl1_22.toNatClampNeg)) (
 bnd (vp_updL f_t_forms_j22 jl1_22.toNatClampNeg jl2_22.toInt64) (fun f_t_forms_47 =>
 obn2 (F_X9_done c_t_acts_j22 r36) (fun r50 c_t_acts_50 =>
 some (r50, c_t_acts_50, c_t_thrown_22, f_t_forms_47))))))
else
 some ((0 : Int32), c_t_acts_j22, c_t_thrown_22, f_t_forms_j22)))
noncomputable def J_X9_set_13 (jl1_13 : Int32) (jl2_13 : Int32) (js1_13 : Int32) (c_t_acts_j13 : Int32) (c_t_thrown_j13 : Int32) (f_t_forms_j13 : Nat → Int64) : Option (Int32 × Int32 × Int32 × (Nat → Int64)) :=
 (if 0 ≤ jl2_13 then
 J_X9_set_22 jl1_13 jl2_13 js1_13 (0 : Int32) c_t_acts_j13 c_t_thrown_j13 f_t_forms_j13
else
 J_X9_set_22 jl1_13 jl2_13 js1_13 (1 : Int32) c_t_acts_j13 c_t_thrown_j13 f_t_forms_j13)
noncomputable def F_X9_set (c_t_acts : Int32) (c_t_thrown : Int32) (f_t_forms : Nat → Int64) (p0 : Int32) (p1 : Int32) : Option (Int32 × Int32 × Int32 × (Nat → Int64)) :=
 obn (F_X9_isForm p0) (fun r2 =>
 (if r2 = 0 then
 J_X9_set_13 p0 p1 (1 : Int32) c_t_acts c_t_thrown f_t_forms
else
 J_X9_set_13 p0 p1 (0 : Int32) c_t_acts c_t_thrown f_t_forms))
set_option maxHeartbeats 4000000 in
set_option maxRecDepth 100000 in
theorem c_X9_set (l : Launch) (D : va_G) (cyJ : ClassId) (sz : Nat) (a_t : Nat) (a_t_forms : Nat) (a_t_roll : Nat) (c_t_many : Int32) (c_t_taps : Int64) (c_t_cells : Int32) (c_t_acts : Int32) (c_t_refused : Int32) (c_t_knocks : Int32) (c_t_thrown : Int32) (f_t_forms : Nat → Int64) (p0 : Int32) (p1 : Int32) (r0 : Int32) (o_c_t_acts : Int32) (o_c_t_thrown : Int32) (o_f_t_forms : Nat → Int64) (hF : F_X9_set c_t_acts c_t_thrown f_t_forms p0 p1 = some (r0, o_c_t_acts, o_c_t_thrown, o_f_t_forms)) : Met l yX9_set wsX9_set rmX9_set (va_Pc [.ref a_t, .int p0, .int p1] (wPD D [(cyJ, .long)] [(a_t, .inr (8, [.ref a_t_forms, .ref a_t_roll, .int c_t_many, .long c_t_taps, .int c_t_cells, .int c_t_acts, .int c_t_refused, .int c_t_knocks, .int c_t_thrown])), (a_t_forms, .inl (cyJ, 6, .inr (.inl f_t_forms)))] sz)) (va_Qi (fun (r : Int32) (_ : Unit) => r = r0) (fun _ t => wQA D [(a_t, .inr (8, [.ref a_t_forms, .ref a_t_roll, .int c_t_many, .long c_t_taps, .int c_t_cells, .int o_c_t_acts, .int c_t_refused, .int c_t_knocks, .int o_c_t_thrown])), (a_t_forms, .inl (cyJ, 6, .inr (.inl o_f_t_forms)))] (va_A [(a_t, .inr (8, [.ref a_t_forms, .ref a_t_roll, .int c_t_many, .long c_t_taps, .int c_t_cells, .int c_t_acts, .int c_t_refused, .int c_t_knocks, .int c_t_thrown])), (a_t_forms, .inl (cyJ, 6, .inr (.inl f_t_forms)))] sz) t) (va_A [(a_t, .inr (8, [.ref a_t_forms, .ref a_t_roll, .int c_t_many, .long c_t_taps, .int c_t_cells, .int c_t_acts, .int c_t_refused, .int c_t_knocks, .int c_t_thrown])), (a_t_forms, .inl (cyJ, 6, .inr (.inl f_t_forms)))] sz)) 0 0 (va_A [(a_t, .inr (8, [.ref a_t_forms, .ref a_t_roll, .int c_t_many, .long c_t_taps, .int c_t_cells, .int c_t_acts, .int c_t_refused, .int c_t_knocks, .int c_t_thrown])), (a_t_forms, .inl (cyJ, 6, .inr (.inl f_t_forms)))] sz) := by
  refine Met.ofW (cc := cX9_set) (maxL := 4) (ret := (some .int)) (by decide) rfl ?_
  intro p e s m args below meth c s₁ B hml hv
  obtain ⟨rfl, hsz, hP, hK, hD0, hnw⟩ := hv
  have hx := B.exec
  have hb := B.bytes
  have hr := B.returns
  have hts := atoms_spec (ws := wsX9_set) B.pre
  have hown : s.vm.findClass RX9 = some m.cls := findClass_of_methodNamed B.named
  have hlocks := B.notSynchronized
  have hcf : CallFix _ _ _ _ _ _ _ _ _ := ⟨hx, hb, hml, hown, hts⟩
  have hinX9 : ∀ w ∈ u_ws RX9 TX9 9, w ∈ wsX9_set := by decide +kernel
  have hfl9 := hts (.fieldLink RX9 9 "FormwheelModel" "forms" "[J") (by decide +kernel)
  subst hsz
  have hD := hD0.self (sz := s.heap.size)
  generalize hAe : va_A [(a_t, .inr (8, [.ref a_t_forms, .ref a_t_roll, .int c_t_many, .long c_t_taps, .int c_t_cells, .int c_t_acts, .int c_t_refused, .int c_t_knocks, .int c_t_thrown])), (a_t_forms, .inl (cyJ, 6, .inr (.inl f_t_forms)))] s.heap.size = A at hD ⊢
  have hA : ∀ q : Nat, s.heap.size ≤ q → A q := fun q h => by rw [← hAe]; exact Or.inr h
  have hS : va_S A s.heap s.heap [] := va_S.rf
  have hP : va_P D vwCl [(a_t, .inr (8, [.ref a_t_forms, .ref a_t_roll, .int c_t_many, .long c_t_taps, .int c_t_cells, .int c_t_acts, .int c_t_refused, .int c_t_knocks, .int c_t_thrown])), (a_t_forms, .inl (cyJ, 6, .inr (.inl f_t_forms)))] s.heap := hP
  have hK0 := hK
  have hl := lv_entry ([.ref a_t, .int p0, .int p1]) (n := 4) (Nat.le_of_ble_eq_true rfl)
  rw [lg_entry_eq]
  generalize (lg_sl ([.ref a_t, .int p0, .int p1]) ++ List.replicate (4 - (lg_sl ([.ref a_t, .int p0, .int p1])).length) Slot.unset).toArray = ls at hl ⊢
  have hl : lv_has ls 4 [(0, .ref a_t), (1, .int p0), (2, .int p1)] := hl
  have h := hF
  clear hF
  unfold F_X9_set at h
  have hj22 : ∀ (js1_22 : Int32) (js2_22 : Int32) (c_t_acts_j22 : Int32) (c_t_thrown_j22 : Int32) (f_t_forms_j22 : Nat → Int64), J_X9_set_22 p0 p1 js1_22 js2_22 c_t_acts_j22 c_t_thrown_j22 f_t_forms_j22 = some (r0, o_c_t_acts, o_c_t_thrown, o_f_t_forms) → ∀ (H : Heap) (locs : List Loc), va_P D vwCl [(a_t, .inr (8, [.ref a_t_forms, .ref a_t_roll, .int c_t_many, .long c_t_taps, .int c_t_cells, .int c_t_acts_j22, .int c_t_refused, .int c_t_knocks, .int c_t_thrown_j22])), (a_t_forms, .inl (cyJ, 6, .inr (.inl f_t_forms_j22)))] H → va_D A [(a_t, .inr (8, [.ref a_t_forms, .ref a_t_roll, .int c_t_many, .long c_t_taps, .int c_t_cells, .int c_t_acts_j22, .int c_t_refused, .int c_t_knocks, .int c_t_thrown_j22])), (a_t_forms, .inl (cyJ, 6, .inr (.inl f_t_forms_j22)))] → va_S A s.heap H locs → ∀ (ls : Array Slot), lv_has ls 4 [(0, .ref a_t), (1, .int p0), (2, .int p1)] → W p l e rmX9_set s m ([.ref a_t, .int p0, .int p1] : List Value).toArray below meth c H locs 0 0 (MQ below (va_Qi (fun (r : Int32) (_ : Unit) => r = r0) (fun _ t => wQA D [(a_t, .inr (8, [.ref a_t_forms, .ref a_t_roll, .int c_t_many, .long c_t_taps, .int c_t_cells, .int o_c_t_acts, .int c_t_refused, .int c_t_knocks, .int o_c_t_thrown])), (a_t_forms, .inl (cyJ, 6, .inr (.inl o_f_t_forms)))] A t) A) ([.ref a_t, .int p0, .int p1] : List Value).toArray s 0 0 A) (F0 m 22 ls [.int js2_22, .int js1_22, .ref a_t]) := by
    intro js1_22 js2_22 c_t_acts_j22 c_t_thrown_j22 f_t_forms_j22 h H locs hP hD hS ls hl
    unfold J_X9_set_22 at h
    obtain ⟨r22, c_t_thrown_22, hc22, h⟩ := obn2_h h
    have hPc := hP.sub (ws' := [(a_t, .inr (8, [.ref a_t_forms, .ref a_t_roll, .int c_t_many, .long c_t_taps, .int c_t_cells, .int c_t_acts_j22, .int c_t_refused, .int c_t_knocks, .int c_t_thrown_j22]))]) [0] rfl
    have hDc := hD.sub (ws' := [(a_t, .inr (8, [.ref a_t_forms, .ref a_t_roll, .int c_t_many, .long c_t_taps, .int c_t_cells, .int c_t_acts_j22, .int c_t_refused, .int c_t_knocks, .int c_t_thrown_j22]))]) [0] (by decide) rfl
    refine hp_i (w1 := [(a_t, .inr (8, [.ref a_t_forms, .ref a_t_roll, .int c_t_many, .long c_t_taps, .int c_t_cells, .int c_t_acts_j22, .int c_t_refused, .int c_t_knocks, .int c_t_thrown_22]))]) (wr := [(a_t_forms, .inl (cyJ, 6, .inr (.inl f_t_forms_j22)))]) (va_runV (As := [.int js1_22, .int js2_22]) (rest := []) hcf (c_X9_isThrown l D cyJ H.size a_t a_t_forms a_t_roll c_t_many c_t_taps c_t_cells c_t_acts_j22 c_t_refused c_t_knocks c_t_thrown_j22 js1_22 js2_22 r22 c_t_thrown_22 hc22) (cwV 2 hts gX9_set_X9_isThrown rfl rfl rfl ydX9_isThrown ⟨Nat.le_of_ble_eq_true rfl, Nat.le_of_ble_eq_true rfl⟩) ⟨bl_PD, va_recv hK hP (ci := 8) (q0 := 0) rfl rfl, pr_PD hPc hK0 hDc hnw⟩ rfl rfl hl.1 rfl (lv_room (Nat.le_of_ble_eq_true rfl)) dX9_set_22 ⟨Nat.le_of_ble_eq_true rfl, Nat.le_of_ble_eq_true rfl⟩) hP hD hS hA [0] [1] rfl rfl (by decide) (by decide) (fun H locs hP hD hS => ?_)
    have hP : va_P D vwCl [(a_t_forms, .inl (cyJ, 6, .inr (.inl f_t_forms_j22))), (a_t, .inr (8, [.ref a_t_forms, .ref a_t_roll, .int c_t_many, .long c_t_taps, .int c_t_cells, .int c_t_acts_j22, .int c_t_refused, .int c_t_knocks, .int c_t_thrown_22]))] H := hP
    have hD : va_D A [(a_t_forms, .inl (cyJ, 6, .inr (.inl f_t_forms_j22))), (a_t, .inr (8, [.ref a_t_forms, .ref a_t_roll, .int c_t_many, .long c_t_taps, .int c_t_cells, .int c_t_acts_j22, .int c_t_refused, .int c_t_knocks, .int c_t_thrown_22]))] := hD
    refine lv_if_eq (tgt := 30) hx hb dX9_set_25 (by decide) (fun c25 => ?_) (fun c25 => ?_)
    · have h := it_ c25 h
      refine lv_aload_n hx hb dX9_set_30 rfl (lv_at hl 0 rfl) ?_
      refine va_get (D := D) (ci := 8) (v := .ref a_t_forms) (C := RX9) (T := TX9) (N := 9) hx hb hts hinX9 hown hK hP 1 rfl rfl 0 (by decide) hfl9 (fun _ h9 => h9) rfl dX9_set_31 ?_
      refine lv_iload_n hx hb dX9_set_34 rfl (lv_at hl 1 rfl) ?_
      obtain ⟨hq35, h⟩ := chk_h h
      refine va_lald hx hb hK hP 0 0 rfl rfl hq35 dX9_set_35 ?_
      obtain ⟨r36, hc36, h⟩ := obn_h h
      refine pz_callS (As := [.long (f_t_forms_j22 p0.toNatClampNeg)]) (rest := []) hcf (c_X9_degreeOf l (f_t_forms_j22 p0.toNatClampNeg) r36 hc36) (va_cwS 1 hts gX9_set_X9_degreeOf rfl rfl rfl ydX9_degreeOf ⟨Nat.le_of_ble_eq_true rfl, Nat.le_of_ble_eq_true rfl⟩) hnw rfl hl.1 rfl (Nat.le_of_ble_eq_true rfl) dX9_set_36 ⟨Nat.le_of_ble_eq_true rfl, Nat.le_of_ble_eq_true rfl⟩ ?_
      refine lv_istore_n (lv' := [(3, .int r36), (0, .ref a_t), (1, .int p0), (2, .int p1)]) hx hb dX9_set_39 rfl hl (by decide) rfl (fun ls hl => ?_)
      refine lv_aload_n hx hb dX9_set_40 rfl (lv_at hl 1 rfl) ?_
      refine va_get (D := D) (ci := 8) (v := .ref a_t_forms) (C := RX9) (T := TX9) (N := 9) hx hb hts hinX9 hown hK hP 1 rfl rfl 0 (by decide) hfl9 (fun _ h9 => h9) rfl dX9_set_41 ?_
      refine lv_iload_n hx hb dX9_set_44 rfl (lv_at hl 2 rfl) ?_
      refine lv_iload_n hx hb dX9_set_45 rfl (lv_at hl 3 rfl) ?_
      refine lv_i2l (v := p1.toInt64) hx hb dX9_set_46 rfl ?_
      obtain ⟨hq47, h⟩ := chk_h h
      refine va_last hx hb hK hP hD hS 0 0 rfl rfl hq47 dX9_set_47 (fun H locs hP hD hS => ?_)
      obtain ⟨f_t_forms_47, e_f_t_forms_47⟩ : ∃ z, z = vp_updL f_t_forms_j22 p0.toNatClampNeg p1.toInt64 := ⟨_, rfl⟩
      have h := bnd_h e_f_t_forms_47 h
      have hP : va_P D vwCl [(a_t_forms, .inl (cyJ, 6, .inr (.inl f_t_forms_47))), (a_t, .inr (8, [.ref a_t_forms, .ref a_t_roll, .int c_t_many, .long c_t_taps, .int c_t_cells, .int c_t_acts_j22, .int c_t_refused, .int c_t_knocks, .int c_t_thrown_22]))] H := by rw [e_f_t_forms_47]; exact hP
      have hD : va_D A [(a_t_forms, .inl (cyJ, 6, .inr (.inl f_t_forms_47))), (a_t, .inr (8, [.ref a_t_forms, .ref a_t_roll, .int c_t_many, .long c_t_taps, .int c_t_cells, .int c_t_acts_j22, .int c_t_refused, .int c_t_knocks, .int c_t_thrown_22]))] := by rw [e_f_t_forms_47]; exact hD
      refine lv_aload_n hx hb dX9_set_48 rfl (lv_at hl 1 rfl) ?_
      refine lv_iload_n hx hb dX9_set_49 rfl (lv_at hl 0 rfl) ?_
      obtain ⟨r50, c_t_acts_50, hc50, h⟩ := obn2_h h
      have hPc := hP.sub (ws' := [(a_t, .inr (8, [.ref a_t_forms, .ref a_t_roll, .int c_t_many, .long c_t_taps, .int c_t_cells, .int c_t_acts_j22, .int c_t_refused, .int c_t_knocks, .int c_t_thrown_22]))]) [1] rfl
      have hDc := hD.sub (ws' := [(a_t, .inr (8, [.ref a_t_forms, .ref a_t_roll, .int c_t_many, .long c_t_taps, .int c_t_cells, .int c_t_acts_j22, .int c_t_refused, .int c_t_knocks, .int c_t_thrown_22]))]) [1] (by decide) rfl
      refine hp_i (w1 := [(a_t, .inr (8, [.ref a_t_forms, .ref a_t_roll, .int c_t_many, .long c_t_taps, .int c_t_cells, .int c_t_acts_50, .int c_t_refused, .int c_t_knocks, .int c_t_thrown_22]))]) (wr := [(a_t_forms, .inl (cyJ, 6, .inr (.inl f_t_forms_47)))]) (va_runV (As := [.int r36]) (rest := []) hcf (c_X9_done l D cyJ H.size a_t a_t_forms a_t_roll c_t_many c_t_taps c_t_cells c_t_acts_j22 c_t_refused c_t_knocks c_t_thrown_22 r36 r50 c_t_acts_50 hc50) (cwV 1 hts gX9_set_X9_done rfl rfl rfl ydX9_done ⟨Nat.le_of_ble_eq_true rfl, Nat.le_of_ble_eq_true rfl⟩) ⟨bl_PD, va_recv hK hP (ci := 8) (q0 := 1) rfl rfl, pr_PD hPc hK0 hDc hnw⟩ rfl rfl hl.1 rfl (lv_room (Nat.le_of_ble_eq_true rfl)) dX9_set_50 ⟨Nat.le_of_ble_eq_true rfl, Nat.le_of_ble_eq_true rfl⟩) hP hD hS hA [1] [0] rfl rfl (by decide) (by decide) (fun H locs hP hD hS => ?_)
      have hP : va_P D vwCl [(a_t_forms, .inl (cyJ, 6, .inr (.inl f_t_forms_47))), (a_t, .inr (8, [.ref a_t_forms, .ref a_t_roll, .int c_t_many, .long c_t_taps, .int c_t_cells, .int c_t_acts_50, .int c_t_refused, .int c_t_knocks, .int c_t_thrown_22]))] H := hP
      have hD : va_D A [(a_t_forms, .inl (cyJ, 6, .inr (.inl f_t_forms_47))), (a_t, .inr (8, [.ref a_t_forms, .ref a_t_roll, .int c_t_many, .long c_t_taps, .int c_t_cells, .int c_t_acts_50, .int c_t_refused, .int c_t_knocks, .int c_t_thrown_22]))] := hD
      obtain ⟨e0, e1, e2, e3⟩ := tup4 h
      subst e0
      subst e1
      subst e2
      subst e3
      have hP9 : va_P D vwCl [(a_t, .inr (8, [.ref a_t_forms, .ref a_t_roll, .int c_t_many, .long c_t_taps, .int c_t_cells, .int c_t_acts_50, .int c_t_refused, .int c_t_knocks, .int c_t_thrown_22])), (a_t_forms, .inl (cyJ, 6, .inr (.inl f_t_forms_47)))] H := hP.sub [1, 0] rfl
      have hD9 : va_D A [(a_t, .inr (8, [.ref a_t_forms, .ref a_t_roll, .int c_t_many, .long c_t_taps, .int c_t_cells, .int c_t_acts_50, .int c_t_refused, .int c_t_knocks, .int c_t_thrown_22])), (a_t_forms, .inl (cyJ, 6, .inr (.inl f_t_forms_47)))] := hD.sub [1, 0] (by decide) rfl
      exact W.iret hx hb hr (fun t ht hW => ⟨⟨_, (), rfl, rfl, wQA_of ht hP9 hD9⟩, hS.F ht⟩) hS.2.2 dX9_set_53
    · have h := if_ c25 h
      refine lv_iconst (v := 0) hx hb dX9_set_28 (by decide) ?_
      obtain ⟨e0, e1, e2, e3⟩ := tup4 h
      subst e0
      subst e1
      subst e2
      subst e3
      have hP9 : va_P D vwCl [(a_t, .inr (8, [.ref a_t_forms, .ref a_t_roll, .int c_t_many, .long c_t_taps, .int c_t_cells, .int c_t_acts_j22, .int c_t_refused, .int c_t_knocks, .int c_t_thrown_22])), (a_t_forms, .inl (cyJ, 6, .inr (.inl f_t_forms_j22)))] H := hP.sub [1, 0] rfl
      have hD9 : va_D A [(a_t, .inr (8, [.ref a_t_forms, .ref a_t_roll, .int c_t_many, .long c_t_taps, .int c_t_cells, .int c_t_acts_j22, .int c_t_refused, .int c_t_knocks, .int c_t_thrown_22])), (a_t_forms, .inl (cyJ, 6, .inr (.inl f_t_forms_j22)))] := hD.sub [1, 0] (by decide) rfl
      exact W.iret hx hb hr (fun t ht hW => ⟨⟨_, (), rfl, rfl, wQA_of ht hP9 hD9⟩, hS.F ht⟩) hS.2.2 dX9_set_29
  have hj13 : ∀ (js1_13 : Int32) (c_t_acts_j13 : Int32) (c_t_thrown_j13 : Int32) (f_t_forms_j13 : Nat → Int64), J_X9_set_13 p0 p1 js1_13 c_t_acts_j13 c_t_thrown_j13 f_t_forms_j13 = some (r0, o_c_t_acts, o_c_t_thrown, o_f_t_forms) → ∀ (H : Heap) (locs : List Loc), va_P D vwCl [(a_t, .inr (8, [.ref a_t_forms, .ref a_t_roll, .int c_t_many, .long c_t_taps, .int c_t_cells, .int c_t_acts_j13, .int c_t_refused, .int c_t_knocks, .int c_t_thrown_j13])), (a_t_forms, .inl (cyJ, 6, .inr (.inl f_t_forms_j13)))] H → va_D A [(a_t, .inr (8, [.ref a_t_forms, .ref a_t_roll, .int c_t_many, .long c_t_taps, .int c_t_cells, .int c_t_acts_j13, .int c_t_refused, .int c_t_knocks, .int c_t_thrown_j13])), (a_t_forms, .inl (cyJ, 6, .inr (.inl f_t_forms_j13)))] → va_S A s.heap H locs → ∀ (ls : Array Slot), lv_has ls 4 [(0, .ref a_t), (1, .int p0), (2, .int p1)] → W p l e rmX9_set s m ([.ref a_t, .int p0, .int p1] : List Value).toArray below meth c H locs 0 0 (MQ below (va_Qi (fun (r : Int32) (_ : Unit) => r = r0) (fun _ t => wQA D [(a_t, .inr (8, [.ref a_t_forms, .ref a_t_roll, .int c_t_many, .long c_t_taps, .int c_t_cells, .int o_c_t_acts, .int c_t_refused, .int c_t_knocks, .int o_c_t_thrown])), (a_t_forms, .inl (cyJ, 6, .inr (.inl o_f_t_forms)))] A t) A) ([.ref a_t, .int p0, .int p1] : List Value).toArray s 0 0 A) (F0 m 13 ls [.int js1_13, .ref a_t]) := by
    intro js1_13 c_t_acts_j13 c_t_thrown_j13 f_t_forms_j13 h H locs hP hD hS ls hl
    unfold J_X9_set_13 at h
    refine lv_iload_n hx hb dX9_set_13 rfl (lv_at hl 2 rfl) ?_
    refine lv_if_ge (tgt := 21) hx hb dX9_set_14 (by decide) (fun c14 => ?_) (fun c14 => ?_)
    · have h := it_ c14 h
      refine lv_iconst (v := 0) hx hb dX9_set_21 (by decide) ?_
      exact hj22 js1_13 (0 : Int32) c_t_acts_j13 c_t_thrown_j13 f_t_forms_j13 h _ _ (hP.sub [0, 1] rfl) (hD.sub [0, 1] (by decide) rfl) hS ls (lv_sub hl [0, 1, 2] rfl)
    · have h := if_ c14 h
      refine lv_iconst (v := 1) hx hb dX9_set_17 (by decide) ?_
      refine lv_goto (tgt := 22) hx hb dX9_set_18 (by decide) ?_
      exact hj22 js1_13 (1 : Int32) c_t_acts_j13 c_t_thrown_j13 f_t_forms_j13 h _ _ (hP.sub [0, 1] rfl) (hD.sub [0, 1] (by decide) rfl) hS ls (lv_sub hl [0, 1, 2] rfl)
  refine lv_aload_n hx hb dX9_set_0 rfl (lv_at hl 0 rfl) ?_
  refine lv_iload_n hx hb dX9_set_1 rfl (lv_at hl 1 rfl) ?_
  obtain ⟨r2, hc2, h⟩ := obn_h h
  refine pz_callS (As := [.int p0]) (rest := [.ref a_t]) hcf (c_X9_isForm l p0 r2 hc2) (va_cwS 1 hts gX9_set_X9_isForm rfl rfl rfl ydX9_isForm ⟨Nat.le_of_ble_eq_true rfl, Nat.le_of_ble_eq_true rfl⟩) hnw rfl hl.1 rfl (Nat.le_of_ble_eq_true rfl) dX9_set_2 ⟨Nat.le_of_ble_eq_true rfl, Nat.le_of_ble_eq_true rfl⟩ ?_
  refine lv_if_ne (tgt := 12) hx hb dX9_set_5 (by decide) (fun c5 => ?_) (fun c5 => ?_)
  · have h := if_ c5 h
    refine lv_iconst (v := 0) hx hb dX9_set_12 (by decide) ?_
    exact hj13 (0 : Int32) c_t_acts c_t_thrown f_t_forms h _ _ (hP.sub [0, 1] rfl) (hD.sub [0, 1] (by decide) rfl) hS ls (lv_sub hl [0, 1, 2] rfl)
  · have h := it_ c5 h
    refine lv_iconst (v := 1) hx hb dX9_set_8 (by decide) ?_
    refine lv_goto (tgt := 13) hx hb dX9_set_9 (by decide) ?_
    exact hj13 (1 : Int32) c_t_acts c_t_thrown f_t_forms h _ _ (hP.sub [0, 1] rfl) (hD.sub [0, 1] (by decide) rfl) hS ls (lv_sub hl [0, 1, 2] rfl)
