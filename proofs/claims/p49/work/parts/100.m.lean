abbrev rmJ13_bitCount_95d88 : Room := { frames := 0, cells := 0, slots := 0, locals := 0 }
theorem ydJ13_bitCount_95d88 : yJ13_bitCount_95d88.cls ≠ "java/lang/invoke/MethodHandle" ∧ yJ13_bitCount_95d88.cls ≠ "java/lang/invoke/VarHandle" ∧ (parseMethodDescriptor yJ13_bitCount_95d88.desc).map (fun d => d.parameters.length) = some 1 := by decide +kernel
def F_J13_bitCount_95d88 (p0 : Int64) : Option (Int32) :=
 bnd (p0 - (((p0.toUInt64 >>> (((1 : Int32)).toInt64.toUInt64 &&& Int64.toUInt64 63)).toInt64) &&& ((6148914691236517205 : Int64)))) (fun x0_9 =>
 bnd ((x0_9 &&& ((3689348814741910323 : Int64))) + (((x0_9.toUInt64 >>> (((2 : Int32)).toInt64.toUInt64 &&& Int64.toUInt64 63)).toInt64) &&& ((3689348814741910323 : Int64)))) (fun x0_23 =>
 bnd ((x0_23 + ((x0_23.toUInt64 >>> (((4 : Int32)).toInt64.toUInt64 &&& Int64.toUInt64 63)).toInt64)) &&& ((1085102592571150095 : Int64))) (fun x0_33 =>
 bnd (x0_33 + ((x0_33.toUInt64 >>> (((8 : Int32)).toInt64.toUInt64 &&& Int64.toUInt64 63)).toInt64)) (fun x0_40 =>
 bnd (x0_40 + ((x0_40.toUInt64 >>> (((16 : Int32)).toInt64.toUInt64 &&& Int64.toUInt64 63)).toInt64)) (fun x0_47 =>
 bnd (x0_47 + ((x0_47.toUInt64 >>> (((32 : Int32)).toInt64.toUInt64 &&& Int64.toUInt64 63)).toInt64)) (fun x0_54 =>
 some x0_54.toInt32 &&& ((127 : Int32))))))))
set_option maxHeartbeats 4000000 in
set_option maxRecDepth 100000 in
theorem c_J13_bitCount_95d88 (l : Launch) (p0 : Int64) (r0 : Int32) (hF : F_J13_bitCount_95d88 p0 = some r0) : Met l yJ13_bitCount_95d88 wsJ13_bitCount_95d88 rmJ13_bitCount_95d88 (va_Pc [.long p0] NW) (k2_QcV (.int r0)) 0 0 (fun _ => False) := by
  refine Met.ofW (cc := ccode) (maxL := 2) (ret := (some .int)) (by decide) rfl ?_
  intro p e s m args below meth c s₁ B hml hv
  obtain ⟨rfl, hnw⟩ := hv
  have hx := B.exec
  have hb := B.bytes
  have hr := B.returns
  have hts := atoms_spec (ws := wsJ13_bitCount_95d88) B.pre
  have hown : s.vm.findClass RJ13 = some m.cls := findClass_of_methodNamed B.named
  have hlocks := B.notSynchronized
  have hcf : CallFix _ _ _ _ _ _ _ _ _ := ⟨hx, hb, hml, hown, hts⟩
  have hl := lv_entry ([.long p0]) (n := 2) (Nat.le_of_ble_eq_true rfl)
  rw [lg_entry_eq]
  generalize (lg_sl ([.long p0]) ++ List.replicate (2 - (lg_sl ([.long p0])).length) Slot.unset).toArray = ls at hl ⊢
  have hl : lv_has ls 2 [(0, .long p0)] := hl
  have h := hF
  clear hF
  unfold F_J13_bitCount_95d88 at h
  refine lv_lload_n hx hb dJ13_bitCount_95d88_0 rfl (lv_at hl 0 rfl) ?_
  refine lv_lload_n hx hb dJ13_bitCount_95d88_1 rfl (lv_at hl 0 rfl) ?_
  refine lv_iconst (v := 1) hx hb dJ13_bitCount_95d88_2 (by decide) ?_
  refine lv_lushr (v := (p0.toUInt64 >>> (((1 : Int32)).toInt64.toUInt64 &&& Int64.toUInt64 63)).toInt64) hx hb dJ13_bitCount_95d88_3 rfl ?_
  refine lv_ldc2 hx hb hown (hts (.constantLong RJ13 314 (6148914691236517205)) (by decide +kernel)) dJ13_bitCount_95d88_4 ?_
  refine lv_land hx hb dJ13_bitCount_95d88_7 ?_
  refine lv_lsub hx hb dJ13_bitCount_95d88_8 ?_
  refine lv_topl (fun x0_9 e_x0_9 => ?_)
  have h := bnd_h e_x0_9 h
  refine lv_lstore_n (lv' := [(0, .long x0_9)]) hx hb dJ13_bitCount_95d88_9 rfl hl (by decide) rfl (fun ls hl => ?_)
  refine lv_lload_n hx hb dJ13_bitCount_95d88_10 rfl (lv_at hl 0 rfl) ?_
  refine lv_ldc2 hx hb hown (hts (.constantLong RJ13 316 (3689348814741910323)) (by decide +kernel)) dJ13_bitCount_95d88_11 ?_
  refine lv_land hx hb dJ13_bitCount_95d88_14 ?_
  refine lv_lload_n hx hb dJ13_bitCount_95d88_15 rfl (lv_at hl 0 rfl) ?_
  refine lv_iconst (v := 2) hx hb dJ13_bitCount_95d88_16 (by decide) ?_
  refine lv_lushr (v := (x0_9.toUInt64 >>> (((2 : Int32)).toInt64.toUInt64 &&& Int64.toUInt64 63)).toInt64) hx hb dJ13_bitCount_95d88_17 rfl ?_
  refine lv_ldc2 hx hb hown (hts (.constantLong RJ13 316 (3689348814741910323)) (by decide +kernel)) dJ13_bitCount_95d88_18 ?_
  refine lv_land hx hb dJ13_bitCount_95d88_21 ?_
  refine lv_ladd hx hb dJ13_bitCount_95d88_22 ?_
  refine lv_topl (fun x0_23 e_x0_23 => ?_)
  have h := bnd_h e_x0_23 h
  refine lv_lstore_n (lv' := [(0, .long x0_23)]) hx hb dJ13_bitCount_95d88_23 rfl hl (by decide) rfl (fun ls hl => ?_)
  refine lv_lload_n hx hb dJ13_bitCount_95d88_24 rfl (lv_at hl 0 rfl) ?_
  refine lv_lload_n hx hb dJ13_bitCount_95d88_25 rfl (lv_at hl 0 rfl) ?_
  refine lv_iconst (v := 4) hx hb dJ13_bitCount_95d88_26 (by decide) ?_
  refine lv_lushr (v := (x0_23.toUInt64 >>> (((4 : Int32)).toInt64.toUInt64 &&& Int64.toUInt64 63)).toInt64) hx hb dJ13_bitCount_95d88_27 rfl ?_
  refine lv_ladd hx hb dJ13_bitCount_95d88_28 ?_
  refine lv_ldc2 hx hb hown (hts (.constantLong RJ13 318 (1085102592571150095)) (by decide +kernel)) dJ13_bitCount_95d88_29 ?_
  refine lv_land hx hb dJ13_bitCount_95d88_32 ?_
  refine lv_topl (fun x0_33 e_x0_33 => ?_)
  have h := bnd_h e_x0_33 h
  refine lv_lstore_n (lv' := [(0, .long x0_33)]) hx hb dJ13_bitCount_95d88_33 rfl hl (by decide) rfl (fun ls hl => ?_)
  refine lv_lload_n hx hb dJ13_bitCount_95d88_34 rfl (lv_at hl 0 rfl) ?_
  refine lv_lload_n hx hb dJ13_bitCount_95d88_35 rfl (lv_at hl 0 rfl) ?_
  refine lv_bipush (v := 8) hx hb dJ13_bitCount_95d88_36 (by decide) ?_
  refine lv_lushr (v := (x0_33.toUInt64 >>> (((8 : Int32)).toInt64.toUInt64 &&& Int64.toUInt64 63)).toInt64) hx hb dJ13_bitCount_95d88_38 rfl ?_
  refine lv_ladd hx hb dJ13_bitCount_95d88_39 ?_
  refine lv_topl (fun x0_40 e_x0_40 => ?_)
  have h := bnd_h e_x0_40 h
  refine lv_lstore_n (lv' := [(0, .long x0_40)]) hx hb dJ13_bitCount_95d88_40 rfl hl (by decide) rfl (fun ls hl => ?_)
  refine lv_lload_n hx hb dJ13_bitCount_95d88_41 rfl (lv_at hl 0 rfl) ?_
  refine lv_lload_n hx hb dJ13_bitCount_95d88_42 rfl (lv_at hl 0 rfl) ?_
  refine lv_bipush (v := 16) hx hb dJ13_bitCount_95d88_43 (by decide) ?_
  refine lv_lushr (v := (x0_40.toUInt64 >>> (((16 : Int32)).toInt64.toUInt64 &&& Int64.toUInt64 63)).toInt64) hx hb dJ13_bitCount_95d88_45 rfl ?_
  refine lv_ladd hx hb dJ13_bitCount_95d88_46 ?_
  refine lv_topl (fun x0_47 e_x0_47 => ?_)
  have h := bnd_h e_x0_47 h
  refine lv_lstore_n (lv' := [(0, .long x0_47)]) hx hb dJ13_bitCount_95d88_47 rfl hl (by decide) rfl (fun ls hl => ?_)
  refine lv_lload_n hx hb dJ13_bitCount_95d88_48 rfl (lv_at hl 0 rfl) ?_
  refine lv_lload_n hx hb dJ13_bitCount_95d88_49 rfl (lv_at hl 0 rfl) ?_
  refine lv_bipush (v := 32) hx hb dJ13_bitCount_95d88_50 (by decide) ?_
  refine lv_lushr (v := (x0_47.toUInt64 >>> (((32 : Int32)).toInt64.toUInt64 &&& Int64.toUInt64 63)).toInt64) hx hb dJ13_bitCount_95d88_52 rfl ?_
  refine lv_ladd hx hb dJ13_bitCount_95d88_53 ?_
  refine lv_topl (fun x0_54 e_x0_54 => ?_)
  have h := bnd_h e_x0_54 h
  refine lv_lstore_n (lv' := [(0, .long x0_54)]) hx hb dJ13_bitCount_95d88_54 rfl hl (by decide) rfl (fun ls hl => ?_)
  refine lv_lload_n hx hb dJ13_bitCount_95d88_55 rfl (lv_at hl 0 rfl) ?_
  refine lv_l2i (v := x0_54.toInt32) hx hb dJ13_bitCount_95d88_56 rfl ?_
  refine lv_bipush (v := 127) hx hb dJ13_bitCount_95d88_57 (by decide) ?_
  refine lv_iand hx hb dJ13_bitCount_95d88_59 ?_
  have e1 := Option.some.inj h
  subst e1
  exact W.iret hx hb hr (fun t ht _ => ⟨rfl, ht⟩) no_q dJ13_bitCount_95d88_60

abbrev rmX0_degreeOf : Room := { frames := 1, cells := 0, slots := 0, locals := 21 }
theorem ydX0_degreeOf : yX0_degreeOf.cls ≠ "java/lang/invoke/MethodHandle" ∧ yX0_degreeOf.cls ≠ "java/lang/invoke/VarHandle" ∧ (parseMethodDescriptor yX0_degreeOf.desc).map (fun d => d.parameters.length) = some 1 := by decide +kernel
def F_X0_degreeOf (p0 : Int64) : Option (Int32) :=
 bnd (p0 ||| ((p0.toUInt64 >>> (((1 : Int32)).toInt64.toUInt64 &&& Int64.toUInt64 63)).toInt64)) (fun x2_7 =>
 bnd (x2_7 ||| ((x2_7.toUInt64 >>> (((2 : Int32)).toInt64.toUInt64 &&& Int64.toUInt64 63)).toInt64)) (fun x2_13 =>
 bnd (x2_13 ||| ((x2_13.toUInt64 >>> (((4 : Int32)).toInt64.toUInt64 &&& Int64.toUInt64 63)).toInt64)) (fun x2_19 =>
 bnd (x2_19 ||| ((x2_19.toUInt64 >>> (((8 : Int32)).toInt64.toUInt64 &&& Int64.toUInt64 63)).toInt64)) (fun x2_26 =>
 bnd (x2_26 ||| ((x2_26.toUInt64 >>> (((16 : Int32)).toInt64.toUInt64 &&& Int64.toUInt64 63)).toInt64)) (fun x2_33 =>
 bnd (x2_33 ||| ((x2_33.toUInt64 >>> (((32 : Int32)).toInt64.toUInt64 &&& Int64.toUInt64 63)).toInt64)) (fun x2_40 =>
 obn (F_J13_bitCount_95d88 x2_40) (fun r42 =>
 some r42 - ((1 : Int32)))))))))
set_option maxHeartbeats 4000000 in
set_option maxRecDepth 100000 in
theorem c_X0_degreeOf (l : Launch) (p0 : Int64) (r0 : Int32) (hF : F_X0_degreeOf p0 = some r0) : Met l yX0_degreeOf wsX0_degreeOf rmX0_degreeOf (va_Pc [.long p0] NW) (k2_QcV (.int r0)) 0 0 (fun _ => False) := by
  refine Met.ofW (cc := ccode) (maxL := 4) (ret := (some .int)) (by decide) rfl ?_
  intro p e s m args below meth c s₁ B hml hv
  obtain ⟨rfl, hnw⟩ := hv
  have hx := B.exec
  have hb := B.bytes
  have hr := B.returns
  have hts := atoms_spec (ws := wsX0_degreeOf) B.pre
  have hown : s.vm.findClass RX0 = some m.cls := findClass_of_methodNamed B.named
  have hlocks := B.notSynchronized
  have hcf : CallFix _ _ _ _ _ _ _ _ _ := ⟨hx, hb, hml, hown, hts⟩
  have hl := lv_entry ([.long p0]) (n := 4) (Nat.le_of_ble_eq_true rfl)
  rw [lg_entry_eq]
  generalize (lg_sl ([.long p0]) ++ List.replicate (4 - (lg_sl ([.long p0])).length) Slot.unset).toArray = ls at hl ⊢
  have hl : lv_has ls 4 [(0, .long p0)] := hl
  have h := hF
  clear hF
  unfold F_X0_degreeOf at h
  refine lv_lload_n hx hb dX0_degreeOf_0 rfl (lv_at hl 0 rfl) ?_
  refine lv_lstore_n (lv' := [(2, .long p0), (0, .long p0)]) hx hb dX0_degreeOf_1 rfl hl (by decide) rfl (fun ls hl => ?_)
  refine lv_lload_n hx hb dX0_degreeOf_2 rfl (lv_at hl 0 rfl) ?_
  refine lv_lload_n hx hb dX0_degreeOf_3 rfl (lv_at hl 0 rfl) ?_
  refine lv_iconst (v := 1) hx hb dX0_degreeOf_4 (by decide) ?_
  refine lv_lushr (v := (p0.toUInt64 >>> (((1 : Int32)).toInt64.toUInt64 &&& Int64.toUInt64 63)).toInt64) hx hb dX0_degreeOf_5 rfl ?_
  refine lv_lor hx hb dX0_degreeOf_6 ?_
  refine lv_topl (fun x2_7 e_x2_7 => ?_)
  have h := bnd_h e_x2_7 h
  refine lv_lstore_n (lv' := [(2, .long x2_7), (0, .long p0)]) hx hb dX0_degreeOf_7 rfl hl (by decide) rfl (fun ls hl => ?_)
  refine lv_lload_n hx hb dX0_degreeOf_8 rfl (lv_at hl 0 rfl) ?_
  refine lv_lload_n hx hb dX0_degreeOf_9 rfl (lv_at hl 0 rfl) ?_
  refine lv_iconst (v := 2) hx hb dX0_degreeOf_10 (by decide) ?_
  refine lv_lushr (v := (x2_7.toUInt64 >>> (((2 : Int32)).toInt64.toUInt64 &&& Int64.toUInt64 63)).toInt64) hx hb dX0_degreeOf_11 rfl ?_
  refine lv_lor hx hb dX0_degreeOf_12 ?_
  refine lv_topl (fun x2_13 e_x2_13 => ?_)
  have h := bnd_h e_x2_13 h
  refine lv_lstore_n (lv' := [(2, .long x2_13), (0, .long p0)]) hx hb dX0_degreeOf_13 rfl hl (by decide) rfl (fun ls hl => ?_)
  refine lv_lload_n hx hb dX0_degreeOf_14 rfl (lv_at hl 0 rfl) ?_
  refine lv_lload_n hx hb dX0_degreeOf_15 rfl (lv_at hl 0 rfl) ?_
  refine lv_iconst (v := 4) hx hb dX0_degreeOf_16 (by decide) ?_
  refine lv_lushr (v := (x2_13.toUInt64 >>> (((4 : Int32)).toInt64.toUInt64 &&& Int64.toUInt64 63)).toInt64) hx hb dX0_degreeOf_17 rfl ?_
  refine lv_lor hx hb dX0_degreeOf_18 ?_
  refine lv_topl (fun x2_19 e_x2_19 => ?_)
  have h := bnd_h e_x2_19 h
  refine lv_lstore_n (lv' := [(2, .long x2_19), (0, .long p0)]) hx hb dX0_degreeOf_19 rfl hl (by decide) rfl (fun ls hl => ?_)
  refine lv_lload_n hx hb dX0_degreeOf_20 rfl (lv_at hl 0 rfl) ?_
  refine lv_lload_n hx hb dX0_degreeOf_21 rfl (lv_at hl 0 rfl) ?_
  refine lv_bipush (v := 8) hx hb dX0_degreeOf_22 (by decide) ?_
  refine lv_lushr (v := (x2_19.toUInt64 >>> (((8 : Int32)).toInt64.toUInt64 &&& Int64.toUInt64 63)).toInt64) hx hb dX0_degreeOf_24 rfl ?_
  refine lv_lor hx hb dX0_degreeOf_25 ?_
  refine lv_topl (fun x2_26 e_x2_26 => ?_)
  have h := bnd_h e_x2_26 h
  refine lv_lstore_n (lv' := [(2, .long x2_26), (0, .long p0)]) hx hb dX0_degreeOf_26 rfl hl (by decide) rfl (fun ls hl => ?_)
  refine lv_lload_n hx hb dX0_degreeOf_27 rfl (lv_at hl 0 rfl) ?_
  refine lv_lload_n hx hb dX0_degreeOf_28 rfl (lv_at hl 0 rfl) ?_
  refine lv_bipush (v := 16) hx hb dX0_degreeOf_29 (by decide) ?_
  refine lv_lushr (v := (x2_26.toUInt64 >>> (((16 : Int32)).toInt64.toUInt64 &&& Int64.toUInt64 63)).toInt64) hx hb dX0_degreeOf_31 rfl ?_
  refine lv_lor hx hb dX0_degreeOf_32 ?_
  refine lv_topl (fun x2_33 e_x2_33 => ?_)
  have h := bnd_h e_x2_33 h
  refine lv_lstore_n (lv' := [(2, .long x2_33), (0, .long p0)]) hx hb dX0_degreeOf_33 rfl hl (by decide) rfl (fun ls hl => ?_)
  refine lv_lload_n hx hb dX0_degreeOf_34 rfl (lv_at hl 0 rfl) ?_
  refine lv_lload_n hx hb dX0_degreeOf_35 rfl (lv_at hl 0 rfl) ?_
  refine lv_bipush (v := 32) hx hb dX0_degreeOf_36 (by decide) ?_
  refine lv_lushr (v := (x2_33.toUInt64 >>> (((32 : Int32)).toInt64.toUInt64 &&& Int64.toUInt64 63)).toInt64) hx hb dX0_degreeOf_38 rfl ?_
  refine lv_lor hx hb dX0_degreeOf_39 ?_
  refine lv_topl (fun x2_40 e_x2_40 => ?_)
  have h := bnd_h e_x2_40 h
  refine lv_lstore_n (lv' := [(2, .long x2_40), (0, .long p0)]) hx hb dX0_degreeOf_40 rfl hl (by decide) rfl (fun ls hl => ?_)
  refine lv_lload_n hx hb dX0_degreeOf_41 rfl (lv_at hl 0 rfl) ?_
  obtain ⟨r42, hc42, h⟩ := obn_h h
  refine pz_callS (As := [.long x2_40]) (rest := []) hcf (c_J13_bitCount_95d88 l x2_40 r42 hc42) (va_cwS 1 hts gX0_degreeOf_J13_bitCount_95d88 rfl rfl rfl ydJ13_bitCount_95d88 ⟨Nat.le_of_ble_eq_true rfl, Nat.le_of_ble_eq_true rfl⟩) hnw rfl hl.1 rfl (Nat.le_of_ble_eq_true rfl) dX0_degreeOf_42 ⟨Nat.le_of_ble_eq_true rfl, Nat.le_of_ble_eq_true rfl⟩ ?_
  refine lv_iconst (v := 1) hx hb dX0_degreeOf_45 (by decide) ?_
  refine lv_isub hx hb dX0_degreeOf_46 ?_
  have e1 := Option.some.inj h
  subst e1
  exact W.iret hx hb hr (fun t ht _ => ⟨rfl, ht⟩) no_q dX0_degreeOf_47

abbrev rmX0_hasOne : Room := { frames := 0, cells := 0, slots := 0, locals := 0 }
theorem ydX0_hasOne : yX0_hasOne.cls ≠ "java/lang/invoke/MethodHandle" ∧ yX0_hasOne.cls ≠ "java/lang/invoke/VarHandle" ∧ (parseMethodDescriptor yX0_hasOne.desc).map (fun d => d.parameters.length) = some 2 := by decide +kernel
def F_X0_hasOne (p0 : Int64) (p1 : Int32) : Option (Int32) :=
 (if ((p0 >>> (p1.toInt64 &&& 63)) &&& ((1 : Int64))) = ((1 : Int64)) then
 some (1 : Int32)
else
 some (0 : Int32))
set_option maxHeartbeats 4000000 in
set_option maxRecDepth 100000 in
theorem c_X0_hasOne (l : Launch) (p0 : Int64) (p1 : Int32) (r0 : Int32) (hF : F_X0_hasOne p0 p1 = some r0) : Met l yX0_hasOne wsX0_hasOne rmX0_hasOne (va_Pc [.long p0, .int p1] NW) (k2_QcV (.int r0)) 0 0 (fun _ => False) := by
  refine Met.ofW (cc := ccode) (maxL := 3) (ret := (some .boolean)) (by decide) rfl ?_
  intro p e s m args below meth c s₁ B hml hv
  obtain ⟨rfl, hnw⟩ := hv
  have hx := B.exec
  have hb := B.bytes
  have hr := B.returns
  have hts := atoms_spec (ws := wsX0_hasOne) B.pre
  have hown : s.vm.findClass RX0 = some m.cls := findClass_of_methodNamed B.named
  have hlocks := B.notSynchronized
  have hcf : CallFix _ _ _ _ _ _ _ _ _ := ⟨hx, hb, hml, hown, hts⟩
  have hl := lv_entry ([.long p0, .int p1]) (n := 3) (Nat.le_of_ble_eq_true rfl)
  rw [lg_entry_eq]
  generalize (lg_sl ([.long p0, .int p1]) ++ List.replicate (3 - (lg_sl ([.long p0, .int p1])).length) Slot.unset).toArray = ls at hl ⊢
  have hl : lv_has ls 3 [(0, .long p0), (2, .int p1)] := hl
  have h := hF
  clear hF
  unfold F_X0_hasOne at h
  refine lv_lload_n hx hb dX0_hasOne_0 rfl (lv_at hl 0 rfl) ?_
  refine lv_iload_n hx hb dX0_hasOne_1 rfl (lv_at hl 1 rfl) ?_
  refine lv_lshr (v := p0 >>> (p1.toInt64 &&& 63)) hx hb dX0_hasOne_2 rfl ?_
  refine lv_lconst (v := 1) hx hb dX0_hasOne_3 (by decide) ?_
  refine lv_land hx hb dX0_hasOne_4 ?_
  refine lv_lconst (v := 1) hx hb dX0_hasOne_5 (by decide) ?_
  refine W.lcmp hx hb dX0_hasOne_6 ?_
  refine lv_if_ne (tgt := 14) hx hb dX0_hasOne_7 (by decide) (fun c7 => ?_) (fun c7 => ?_)
  · have c7 := fun z => c7 ((lg_cmp_eq _ _).mpr z)
    have h := if_ c7 h
    refine lv_iconst (v := 0) hx hb dX0_hasOne_14 (by decide) ?_
    have e1 := Option.some.inj h
    subst e1
    exact W.zret hx hb hr narrow_b0 (fun t ht _ => ⟨rfl, ht⟩) no_q dX0_hasOne_15
  · have c7 := (lg_cmp_eq _ _).mp c7
    have h := it_ c7 h
    refine lv_iconst (v := 1) hx hb dX0_hasOne_10 (by decide) ?_
    refine lv_goto (tgt := 15) hx hb dX0_hasOne_11 (by decide) ?_
    have e1 := Option.some.inj h
    subst e1
    exact W.zret hx hb hr narrow_b1 (fun t ht _ => ⟨rfl, ht⟩) no_q dX0_hasOne_15

abbrev rmX0_rest : Room := { frames := 2, cells := 0, slots := 0, locals := 44 }
theorem ydX0_rest : yX0_rest.cls ≠ "java/lang/invoke/MethodHandle" ∧ yX0_rest.cls ≠ "java/lang/invoke/VarHandle" ∧ (parseMethodDescriptor yX0_rest.desc).map (fun d => d.parameters.length) = some 2 := by decide +kernel
def S_X0_rest_26 (z2_26 : Int64) (z4_26 : Int32) (k59 : Int64 → Option (Int64)) (ih26 : Int64 → Int32 → Option (Int64)) (y5_26 : Int64) (y7_26 : Int32) : Option (Int64) :=
 (if y7_26 < 0 then
 k59 y5_26
else
 obn (F_X0_hasOne y5_26 (y7_26 + z4_26)) (fun r38 =>
 (if r38 = 0 then
 bnd (y7_26 + (-1)) (fun x7_53 =>
 ih26 y5_26 x7_53)
else
 bnd (y5_26 ^^^ (z2_26 <<< (y7_26.toInt64 &&& 63))) (fun x5_51 =>
 bnd (y7_26 + (-1)) (fun x7_53 =>
 ih26 x5_51 x7_53)))))
def F_X0_rest (p0 : Int64) (p1 : Int64) : Option (Int64) :=
 (if p1 = ((0 : Int64)) then
 some p0
else
 obn (F_X0_degreeOf p1) (fun r9 =>
 obn (F_X0_degreeOf p0) (fun r18 =>
 bnd (r18 - r9) (fun x7_24 =>
 LQ2 (S_X0_rest_26 p1 r9 (fun y5_26_59 =>
 some y5_26_59)) 20000 p0 x7_24))))
set_option maxHeartbeats 4000000 in
set_option maxRecDepth 100000 in
theorem c_X0_rest (l : Launch) (p0 : Int64) (p1 : Int64) (r0 : Int64) (hF : F_X0_rest p0 p1 = some r0) : Met l yX0_rest wsX0_rest rmX0_rest (va_Pc [.long p0, .long p1] NW) (k2_QcV (.long r0)) 0 0 (fun _ => False) := by
  refine Met.ofW (cc := ccode) (maxL := 8) (ret := (some .long)) (by decide) rfl ?_
  intro p e s m args below meth c s₁ B hml hv
  obtain ⟨rfl, hnw⟩ := hv
  have hx := B.exec
  have hb := B.bytes
  have hr := B.returns
  have hts := atoms_spec (ws := wsX0_rest) B.pre
  have hown : s.vm.findClass RX0 = some m.cls := findClass_of_methodNamed B.named
  have hlocks := B.notSynchronized
  have hcf : CallFix _ _ _ _ _ _ _ _ _ := ⟨hx, hb, hml, hown, hts⟩
  have hl := lv_entry ([.long p0, .long p1]) (n := 8) (Nat.le_of_ble_eq_true rfl)
  rw [lg_entry_eq]
  generalize (lg_sl ([.long p0, .long p1]) ++ List.replicate (8 - (lg_sl ([.long p0, .long p1])).length) Slot.unset).toArray = ls at hl ⊢
  have hl : lv_has ls 8 [(0, .long p0), (2, .long p1)] := hl
  have h := hF
  clear hF
  unfold F_X0_rest at h
  refine lv_lload_n hx hb dX0_rest_0 rfl (lv_at hl 1 rfl) ?_
  refine lv_lconst (v := 0) hx hb dX0_rest_1 (by decide) ?_
  refine W.lcmp hx hb dX0_rest_2 ?_
  refine lv_if_ne (tgt := 8) hx hb dX0_rest_3 (by decide) (fun c3 => ?_) (fun c3 => ?_)
  · have c3 := fun z => c3 ((lg_cmp_eq _ _).mpr z)
    have h := if_ c3 h
    refine lv_lload_n hx hb dX0_rest_8 rfl (lv_at hl 1 rfl) ?_
    obtain ⟨r9, hc9, h⟩ := obn_h h
    refine pz_callS (As := [.long p1]) (rest := []) hcf (c_X0_degreeOf l p1 r9 hc9) (va_cwS 1 hts gX0_rest_X0_degreeOf rfl rfl rfl ydX0_degreeOf ⟨Nat.le_of_ble_eq_true rfl, Nat.le_of_ble_eq_true rfl⟩) hnw rfl hl.1 rfl (Nat.le_of_ble_eq_true rfl) dX0_rest_9 ⟨Nat.le_of_ble_eq_true rfl, Nat.le_of_ble_eq_true rfl⟩ ?_
    refine lv_istore (lv' := [(4, .int r9), (0, .long p0), (2, .long p1)]) hx hb dX0_rest_12 hl (by decide) rfl (fun ls hl => ?_)
    refine lv_lload_n hx hb dX0_rest_14 rfl (lv_at hl 1 rfl) ?_
    refine lv_lstore (lv' := [(5, .long p0), (4, .int r9), (0, .long p0), (2, .long p1)]) hx hb dX0_rest_15 hl (by decide) rfl (fun ls hl => ?_)
    refine lv_lload_n hx hb dX0_rest_17 rfl (lv_at hl 2 rfl) ?_
    obtain ⟨r18, hc18, h⟩ := obn_h h
    refine pz_callS (As := [.long p0]) (rest := []) hcf (c_X0_degreeOf l p0 r18 hc18) (va_cwS 1 hts gX0_rest_X0_degreeOf rfl rfl rfl ydX0_degreeOf ⟨Nat.le_of_ble_eq_true rfl, Nat.le_of_ble_eq_true rfl⟩) hnw rfl hl.1 rfl (Nat.le_of_ble_eq_true rfl) dX0_rest_18 ⟨Nat.le_of_ble_eq_true rfl, Nat.le_of_ble_eq_true rfl⟩ ?_
    refine lv_iload hx hb dX0_rest_21 (lv_at hl 1 rfl) ?_
    refine lv_isub hx hb dX0_rest_23 ?_
    refine lv_topi (fun x7_24 e_x7_24 => ?_)
    have h := bnd_h e_x7_24 h
    refine lv_istore (lv' := [(7, .int x7_24), (5, .long p0), (4, .int r9), (0, .long p0), (2, .long p1)]) hx hb dX0_rest_24 hl (by decide) rfl (fun ls hl => ?_)
    refine LQ2_k1 (M := fun (y5_26 : Int64) (y7_26 : Int32) => ∀ (ls : Array Slot), lv_has ls 8 [(2, .long p1), (4, .int r9), (5, .long y5_26), (7, .int y7_26)] → W p l e rmX0_rest s m ([.long p0, .long p1] : List Value).toArray below meth c s.heap [] 0 0 (MQ below (k2_QcV (.long r0)) ([.long p0, .long p1] : List Value).toArray s 0 0 (fun _ => False)) (F0 m 26 ls [])) ?_ _ _ _ h ls (lv_sub hl [4, 2, 1, 0] rfl)
    intro k59 hk59 ih26 hih26 y5_26 y7_26 h ls hl
    unfold S_X0_rest_26 at h
    refine lv_iload hx hb dX0_rest_26 (lv_at hl 3 rfl) ?_
    refine lv_if_lt (tgt := 59) hx hb dX0_rest_28 (by decide) (fun c28 => ?_) (fun c28 => ?_)
    · have h := it_ c28 h
      rw [hk59] at h
      refine lv_lload hx hb dX0_rest_59 (lv_at hl 2 rfl) ?_
      have e1 := Option.some.inj h
      subst e1
      exact W.lret hx hb hr (fun t ht _ => ⟨rfl, ht⟩) no_q dX0_rest_61
    · have h := if_ c28 h
      refine lv_lload hx hb dX0_rest_31 (lv_at hl 2 rfl) ?_
      refine lv_iload hx hb dX0_rest_33 (lv_at hl 3 rfl) ?_
      refine lv_iload hx hb dX0_rest_35 (lv_at hl 1 rfl) ?_
      refine lv_iadd hx hb dX0_rest_37 ?_
      obtain ⟨r38, hc38, h⟩ := obn_h h
      refine pz_callS (As := [.long y5_26, .int y7_26 + r9]) (rest := []) hcf (c_X0_hasOne l y5_26 (y7_26 + r9) r38 hc38) (va_cwS 2 hts gX0_rest_X0_hasOne rfl rfl rfl ydX0_hasOne ⟨Nat.le_of_ble_eq_true rfl, Nat.le_of_ble_eq_true rfl⟩) hnw rfl hl.1 rfl (Nat.le_of_ble_eq_true rfl) dX0_rest_38 ⟨Nat.le_of_ble_eq_true rfl, Nat.le_of_ble_eq_true rfl⟩ ?_
      refine lv_if_eq (tgt := 53) hx hb dX0_rest_41 (by decide) (fun c41 => ?_) (fun c41 => ?_)
      · have h := it_ c41 h
        obtain ⟨x7_53, e_x7_53⟩ : ∃ z : Int32, z = y7_26 + (-1) := ⟨_, rfl⟩
        have h := bnd_h e_x7_53 h
        refine lv_iinc (v := x7_53) (lv' := [(7, .int x7_53), (2, .long p1), (4, .int r9), (5, .long y5_26)]) hx hb dX0_rest_53 hl (k := 3) rfl (by rw [e_x7_53]; rfl) (by decide) rfl (fun ls hl => ?_)
        refine lv_goto (tgt := 26) hx hb dX0_rest_56 (by decide) ?_
        exact hih26 y5_26 x7_53 h ls (lv_sub hl [1, 2, 3, 0] rfl)
      · have h := if_ c41 h
        refine lv_lload hx hb dX0_rest_44 (lv_at hl 2 rfl) ?_
        refine lv_lload_n hx hb dX0_rest_46 rfl (lv_at hl 0 rfl) ?_
        refine lv_iload hx hb dX0_rest_47 (lv_at hl 3 rfl) ?_
        refine lv_lshl (v := p1 <<< (y7_26.toInt64 &&& 63)) hx hb dX0_rest_49 rfl ?_
        refine lv_lxor hx hb dX0_rest_50 ?_
        refine lv_topl (fun x5_51 e_x5_51 => ?_)
        have h := bnd_h e_x5_51 h
        refine lv_lstore (lv' := [(5, .long x5_51), (2, .long p1), (4, .int r9), (7, .int y7_26)]) hx hb dX0_rest_51 hl (by decide) rfl (fun ls hl => ?_)
        obtain ⟨x7_53, e_x7_53⟩ : ∃ z : Int32, z = y7_26 + (-1) := ⟨_, rfl⟩
        have h := bnd_h e_x7_53 h
        refine lv_iinc (v := x7_53) (lv' := [(7, .int x7_53), (5, .long x5_51), (2, .long p1), (4, .int r9)]) hx hb dX0_rest_53 hl (k := 3) rfl (by rw [e_x7_53]; rfl) (by decide) rfl (fun ls hl => ?_)
        refine lv_goto (tgt := 26) hx hb dX0_rest_56 (by decide) ?_
        exact hih26 x5_51 x7_53 h ls (lv_sub hl [2, 3, 1, 0] rfl)
  · have c3 := (lg_cmp_eq _ _).mp c3
    have h := it_ c3 h
    refine lv_lload_n hx hb dX0_rest_6 rfl (lv_at hl 0 rfl) ?_
    have e1 := Option.some.inj h
    subst e1
    exact W.lret hx hb hr (fun t ht _ => ⟨rfl, ht⟩) no_q dX0_rest_7

abbrev rmX0_quotient : Room := { frames := 2, cells := 0, slots := 0, locals := 44 }
theorem ydX0_quotient : yX0_quotient.cls ≠ "java/lang/invoke/MethodHandle" ∧ yX0_quotient.cls ≠ "java/lang/invoke/VarHandle" ∧ (parseMethodDescriptor yX0_quotient.desc).map (fun d => d.parameters.length) = some 2 := by decide +kernel
def S_X0_quotient_29 (z2_29 : Int64) (z4_29 : Int32) (k71 : Int64 → Option (Int64)) (ih29 : Int64 → Int64 → Int32 → Option (Int64)) (y5_29 : Int64) (y7_29 : Int64) (y9_29 : Int32) : Option (Int64) :=
 (if y9_29 < 0 then
 k71 y7_29
else
 obn (F_X0_hasOne y5_29 (y9_29 + z4_29)) (fun r41 =>
 (if r41 = 0 then
 bnd (y9_29 + (-1)) (fun x9_65 =>
 ih29 y5_29 y7_29 x9_65)
else
 bnd (y5_29 ^^^ (z2_29 <<< (y9_29.toInt64 &&& 63))) (fun x5_54 =>
 bnd (y7_29 ||| (((1 : Int64)) <<< (y9_29.toInt64 &&& 63))) (fun x7_63 =>
 bnd (y9_29 + (-1)) (fun x9_65 =>
 ih29 x5_54 x7_63 x9_65))))))
def F_X0_quotient (p0 : Int64) (p1 : Int64) : Option (Int64) :=
 (if p1 = ((0 : Int64)) then
 some (0 : Int64)
else
 obn (F_X0_degreeOf p1) (fun r9 =>
 obn (F_X0_degreeOf p0) (fun r21 =>
 bnd (r21 - r9) (fun x9_27 =>
 LQ3 (S_X0_quotient_29 p1 r9 (fun y7_29_71 =>
 some y7_29_71)) 20000 p0 ((0 : Int64)) x9_27))))
set_option maxHeartbeats 4000000 in
set_option maxRecDepth 100000 in
theorem c_X0_quotient (l : Launch) (p0 : Int64) (p1 : Int64) (r0 : Int64) (hF : F_X0_quotient p0 p1 = some r0) : Met l yX0_quotient wsX0_quotient rmX0_quotient (va_Pc [.long p0, .long p1] NW) (k2_QcV (.long r0)) 0 0 (fun _ => False) := by
  refine Met.ofW (cc := ccode) (maxL := 10) (ret := (some .long)) (by decide) rfl ?_
  intro p e s m args below meth c s₁ B hml hv
  obtain ⟨rfl, hnw⟩ := hv
  have hx := B.exec
  have hb := B.bytes
  have hr := B.returns
  have hts := atoms_spec (ws := wsX0_quotient) B.pre
  have hown : s.vm.findClass RX0 = some m.cls := findClass_of_methodNamed B.named
  have hlocks := B.notSynchronized
  have hcf : CallFix _ _ _ _ _ _ _ _ _ := ⟨hx, hb, hml, hown, hts⟩
  have hl := lv_entry ([.long p0, .long p1]) (n := 10) (Nat.le_of_ble_eq_true rfl)
  rw [lg_entry_eq]
  generalize (lg_sl ([.long p0, .long p1]) ++ List.replicate (10 - (lg_sl ([.long p0, .long p1])).length) Slot.unset).toArray = ls at hl ⊢
  have hl : lv_has ls 10 [(0, .long p0), (2, .long p1)] := hl
  have h := hF
  clear hF
  unfold F_X0_quotient at h
  refine lv_lload_n hx hb dX0_quotient_0 rfl (lv_at hl 1 rfl) ?_
  refine lv_lconst (v := 0) hx hb dX0_quotient_1 (by decide) ?_
  refine W.lcmp hx hb dX0_quotient_2 ?_
  refine lv_if_ne (tgt := 8) hx hb dX0_quotient_3 (by decide) (fun c3 => ?_) (fun c3 => ?_)
  · have c3 := fun z => c3 ((lg_cmp_eq _ _).mpr z)
    have h := if_ c3 h
    refine lv_lload_n hx hb dX0_quotient_8 rfl (lv_at hl 1 rfl) ?_
    obtain ⟨r9, hc9, h⟩ := obn_h h
    refine pz_callS (As := [.long p1]) (rest := []) hcf (c_X0_degreeOf l p1 r9 hc9) (va_cwS 1 hts gX0_quotient_X0_degreeOf rfl rfl rfl ydX0_degreeOf ⟨Nat.le_of_ble_eq_true rfl, Nat.le_of_ble_eq_true rfl⟩) hnw rfl hl.1 rfl (Nat.le_of_ble_eq_true rfl) dX0_quotient_9 ⟨Nat.le_of_ble_eq_true rfl, Nat.le_of_ble_eq_true rfl⟩ ?_
    refine lv_istore (lv' := [(4, .int r9), (0, .long p0), (2, .long p1)]) hx hb dX0_quotient_12 hl (by decide) rfl (fun ls hl => ?_)
    refine lv_lload_n hx hb dX0_quotient_14 rfl (lv_at hl 1 rfl) ?_
    refine lv_lstore (lv' := [(5, .long p0), (4, .int r9), (0, .long p0), (2, .long p1)]) hx hb dX0_quotient_15 hl (by decide) rfl (fun ls hl => ?_)
    refine lv_lconst (v := 0) hx hb dX0_quotient_17 (by decide) ?_
    refine lv_lstore (lv' := [(7, .long (0 : Int64)), (5, .long p0), (4, .int r9), (0, .long p0), (2, .long p1)]) hx hb dX0_quotient_18 hl (by decide) rfl (fun ls hl => ?_)
    refine lv_lload_n hx hb dX0_quotient_20 rfl (lv_at hl 3 rfl) ?_
    obtain ⟨r21, hc21, h⟩ := obn_h h
    refine pz_callS (As := [.long p0]) (rest := []) hcf (c_X0_degreeOf l p0 r21 hc21) (va_cwS 1 hts gX0_quotient_X0_degreeOf rfl rfl rfl ydX0_degreeOf ⟨Nat.le_of_ble_eq_true rfl, Nat.le_of_ble_eq_true rfl⟩) hnw rfl hl.1 rfl (Nat.le_of_ble_eq_true rfl) dX0_quotient_21 ⟨Nat.le_of_ble_eq_true rfl, Nat.le_of_ble_eq_true rfl⟩ ?_
    refine lv_iload hx hb dX0_quotient_24 (lv_at hl 2 rfl) ?_
    refine lv_isub hx hb dX0_quotient_26 ?_
    refine lv_topi (fun x9_27 e_x9_27 => ?_)
    have h := bnd_h e_x9_27 h
    refine lv_istore (lv' := [(9, .int x9_27), (7, .long (0 : Int64)), (5, .long p0), (4, .int r9), (0, .long p0), (2, .long p1)]) hx hb dX0_quotient_27 hl (by decide) rfl (fun ls hl => ?_)
    refine LQ3_k1 (M := fun (y5_29 : Int64) (y7_29 : Int64) (y9_29 : Int32) => ∀ (ls : Array Slot), lv_has ls 10 [(2, .long p1), (4, .int r9), (5, .long y5_29), (7, .long y7_29), (9, .int y9_29)] → W p l e rmX0_quotient s m ([.long p0, .long p1] : List Value).toArray below meth c s.heap [] 0 0 (MQ below (k2_QcV (.long r0)) ([.long p0, .long p1] : List Value).toArray s 0 0 (fun _ => False)) (F0 m 29 ls [])) ?_ _ _ _ _ h ls (lv_sub hl [5, 3, 2, 1, 0] rfl)
    intro k71 hk71 ih29 hih29 y5_29 y7_29 y9_29 h ls hl
    unfold S_X0_quotient_29 at h
    refine lv_iload hx hb dX0_quotient_29 (lv_at hl 4 rfl) ?_
    refine lv_if_lt (tgt := 71) hx hb dX0_quotient_31 (by decide) (fun c31 => ?_) (fun c31 => ?_)
    · have h := it_ c31 h
      rw [hk71] at h
      refine lv_lload hx hb dX0_quotient_71 (lv_at hl 3 rfl) ?_
      have e1 := Option.some.inj h
      subst e1
      exact W.lret hx hb hr (fun t ht _ => ⟨rfl, ht⟩) no_q dX0_quotient_73
    · have h := if_ c31 h
      refine lv_lload hx hb dX0_quotient_34 (lv_at hl 2 rfl) ?_
      refine lv_iload hx hb dX0_quotient_36 (lv_at hl 4 rfl) ?_
      refine lv_iload hx hb dX0_quotient_38 (lv_at hl 1 rfl) ?_
      refine lv_iadd hx hb dX0_quotient_40 ?_
      obtain ⟨r41, hc41, h⟩ := obn_h h
      refine pz_callS (As := [.long y5_29, .int y9_29 + r9]) (rest := []) hcf (c_X0_hasOne l y5_29 (y9_29 + r9) r41 hc41) (va_cwS 2 hts gX0_quotient_X0_hasOne rfl rfl rfl ydX0_hasOne ⟨Nat.le_of_ble_eq_true rfl, Nat.le_of_ble_eq_true rfl⟩) hnw rfl hl.1 rfl (Nat.le_of_ble_eq_true rfl) dX0_quotient_41 ⟨Nat.le_of_ble_eq_true rfl, Nat.le_of_ble_eq_true rfl⟩ ?_
      refine lv_if_eq (tgt := 65) hx hb dX0_quotient_44 (by decide) (fun c44 => ?_) (fun c44 => ?_)
      · have h := it_ c44 h
        obtain ⟨x9_65, e_x9_65⟩ : ∃ z : Int32, z = y9_29 + (-1) := ⟨_, rfl⟩
        have h := bnd_h e_x9_65 h
        refine lv_iinc (v := x9_65) (lv' := [(9, .int x9_65), (2, .long p1), (4, .int r9), (5, .long y5_29), (7, .long y7_29)]) hx hb dX0_quotient_65 hl (k := 4) rfl (by rw [e_x9_65]; rfl) (by decide) rfl (fun ls hl => ?_)
        refine lv_goto (tgt := 29) hx hb dX0_quotient_68 (by decide) ?_
        exact hih29 y5_29 y7_29 x9_65 h ls (lv_sub hl [1, 2, 3, 4, 0] rfl)
      · have h := if_ c44 h
        refine lv_lload hx hb dX0_quotient_47 (lv_at hl 2 rfl) ?_
        refine lv_lload_n hx hb dX0_quotient_49 rfl (lv_at hl 0 rfl) ?_
        refine lv_iload hx hb dX0_quotient_50 (lv_at hl 4 rfl) ?_
        refine lv_lshl (v := p1 <<< (y9_29.toInt64 &&& 63)) hx hb dX0_quotient_52 rfl ?_
        refine lv_lxor hx hb dX0_quotient_53 ?_
        refine lv_topl (fun x5_54 e_x5_54 => ?_)
        have h := bnd_h e_x5_54 h
        refine lv_lstore (lv' := [(5, .long x5_54), (2, .long p1), (4, .int r9), (7, .long y7_29), (9, .int y9_29)]) hx hb dX0_quotient_54 hl (by decide) rfl (fun ls hl => ?_)
        refine lv_lload hx hb dX0_quotient_56 (lv_at hl 3 rfl) ?_
        refine lv_lconst (v := 1) hx hb dX0_quotient_58 (by decide) ?_
        refine lv_iload hx hb dX0_quotient_59 (lv_at hl 4 rfl) ?_
        refine lv_lshl (v := ((1 : Int64)) <<< (y9_29.toInt64 &&& 63)) hx hb dX0_quotient_61 rfl ?_
        refine lv_lor hx hb dX0_quotient_62 ?_
        refine lv_topl (fun x7_63 e_x7_63 => ?_)
        have h := bnd_h e_x7_63 h
        refine lv_lstore (lv' := [(7, .long x7_63), (5, .long x5_54), (2, .long p1), (4, .int r9), (9, .int y9_29)]) hx hb dX0_quotient_63 hl (by decide) rfl (fun ls hl => ?_)
        obtain ⟨x9_65, e_x9_65⟩ : ∃ z : Int32, z = y9_29 + (-1) := ⟨_, rfl⟩
        have h := bnd_h e_x9_65 h
        refine lv_iinc (v := x9_65) (lv' := [(9, .int x9_65), (7, .long x7_63), (5, .long x5_54), (2, .long p1), (4, .int r9)]) hx hb dX0_quotient_65 hl (k := 4) rfl (by rw [e_x9_65]; rfl) (by decide) rfl (fun ls hl => ?_)
        refine lv_goto (tgt := 29) hx hb dX0_quotient_68 (by decide) ?_
        exact hih29 x5_54 x7_63 x9_65 h ls (lv_sub hl [3, 4, 2, 1, 0] rfl)
  · have c3 := (lg_cmp_eq _ _).mp c3
    have h := it_ c3 h
    refine lv_lconst (v := 0) hx hb dX0_quotient_6 (by decide) ?_
    have e1 := Option.some.inj h
    subst e1
    exact W.lret hx hb hr (fun t ht _ => ⟨rfl, ht⟩) no_q dX0_quotient_7

abbrev rmX0_greatestBoth : Room := { frames := 3, cells := 0, slots := 0, locals := 71 }
theorem ydX0_greatestBoth : yX0_greatestBoth.cls ≠ "java/lang/invoke/MethodHandle" ∧ yX0_greatestBoth.cls ≠ "java/lang/invoke/VarHandle" ∧ (parseMethodDescriptor yX0_greatestBoth.desc).map (fun d => d.parameters.length) = some 2 := by decide +kernel
def S_X0_greatestBoth_9 (k47 : Int64 → Option (Int64)) (ih9 : Int64 → Int64 → Int32 → Option (Int64)) (y4_9 : Int64) (y6_9 : Int64) (y8_9 : Int32) : Option (Int64) :=
 (if ((1000 : Int32)) ≤ y8_9 then
 k47 y4_9
else
 (if y6_9 = ((0 : Int64)) then
 k47 y4_9
else
 obn (F_X0_rest y4_9 y6_9) (fun r28 =>
 bnd (y8_9 + 1) (fun x8_41 =>
 ih9 y6_9 r28 x8_41))))
def F_X0_greatestBoth (p0 : Int64) (p1 : Int64) : Option (Int64) :=
 LQ3 (S_X0_greatestBoth_9 (fun y4_9_47 =>
 some y4_9_47)) 20000 p0 p1 ((0 : Int32))
set_option maxHeartbeats 4000000 in
set_option maxRecDepth 100000 in
theorem c_X0_greatestBoth (l : Launch) (p0 : Int64) (p1 : Int64) (r0 : Int64) (hF : F_X0_greatestBoth p0 p1 = some r0) : Met l yX0_greatestBoth wsX0_greatestBoth rmX0_greatestBoth (va_Pc [.long p0, .long p1] NW) (k2_QcV (.long r0)) 0 0 (fun _ => False) := by
  refine Met.ofW (cc := ccode) (maxL := 11) (ret := (some .long)) (by decide) rfl ?_
  intro p e s m args below meth c s₁ B hml hv
  obtain ⟨rfl, hnw⟩ := hv
  have hx := B.exec
  have hb := B.bytes
  have hr := B.returns
  have hts := atoms_spec (ws := wsX0_greatestBoth) B.pre
  have hown : s.vm.findClass RX0 = some m.cls := findClass_of_methodNamed B.named
  have hlocks := B.notSynchronized
  have hcf : CallFix _ _ _ _ _ _ _ _ _ := ⟨hx, hb, hml, hown, hts⟩
  have hl := lv_entry ([.long p0, .long p1]) (n := 11) (Nat.le_of_ble_eq_true rfl)
  rw [lg_entry_eq]
  generalize (lg_sl ([.long p0, .long p1]) ++ List.replicate (11 - (lg_sl ([.long p0, .long p1])).length) Slot.unset).toArray = ls at hl ⊢
  have hl : lv_has ls 11 [(0, .long p0), (2, .long p1)] := hl
  have h := hF
  clear hF
  unfold F_X0_greatestBoth at h
  refine lv_lload_n hx hb dX0_greatestBoth_0 rfl (lv_at hl 0 rfl) ?_
  refine lv_lstore (lv' := [(4, .long p0), (0, .long p0), (2, .long p1)]) hx hb dX0_greatestBoth_1 hl (by decide) rfl (fun ls hl => ?_)
  refine lv_lload_n hx hb dX0_greatestBoth_3 rfl (lv_at hl 2 rfl) ?_
  refine lv_lstore (lv' := [(6, .long p1), (4, .long p0), (0, .long p0), (2, .long p1)]) hx hb dX0_greatestBoth_4 hl (by decide) rfl (fun ls hl => ?_)
  refine lv_iconst (v := 0) hx hb dX0_greatestBoth_6 (by decide) ?_
  refine lv_istore (lv' := [(8, .int (0 : Int32)), (6, .long p1), (4, .long p0), (0, .long p0), (2, .long p1)]) hx hb dX0_greatestBoth_7 hl (by decide) rfl (fun ls hl => ?_)
  refine LQ3_k1 (M := fun (y4_9 : Int64) (y6_9 : Int64) (y8_9 : Int32) => ∀ (ls : Array Slot), lv_has ls 11 [(4, .long y4_9), (6, .long y6_9), (8, .int y8_9)] → W p l e rmX0_greatestBoth s m ([.long p0, .long p1] : List Value).toArray below meth c s.heap [] 0 0 (MQ below (k2_QcV (.long r0)) ([.long p0, .long p1] : List Value).toArray s 0 0 (fun _ => False)) (F0 m 9 ls [])) ?_ _ _ _ _ h ls (lv_sub hl [2, 1, 0] rfl)
  intro k47 hk47 ih9 hih9 y4_9 y6_9 y8_9 h ls hl
  unfold S_X0_greatestBoth_9 at h
  refine lv_iload hx hb dX0_greatestBoth_9 (lv_at hl 2 rfl) ?_
  refine lv_sipush (v := 1000) hx hb dX0_greatestBoth_11 (by decide) ?_
  refine lv_icmp_ge (tgt := 47) hx hb dX0_greatestBoth_14 (by decide) (fun c14 => ?_) (fun c14 => ?_)
  · have h := it_ c14 h
    rw [hk47] at h
    refine lv_lload hx hb dX0_greatestBoth_47 (lv_at hl 0 rfl) ?_
    have e1 := Option.some.inj h
    subst e1
    exact W.lret hx hb hr (fun t ht _ => ⟨rfl, ht⟩) no_q dX0_greatestBoth_49
  · have h := if_ c14 h
    refine lv_lload hx hb dX0_greatestBoth_17 (lv_at hl 1 rfl) ?_
    refine lv_lconst (v := 0) hx hb dX0_greatestBoth_19 (by decide) ?_
    refine W.lcmp hx hb dX0_greatestBoth_20 ?_
    refine lv_if_eq (tgt := 47) hx hb dX0_greatestBoth_21 (by decide) (fun c21 => ?_) (fun c21 => ?_)
    · have c21 := (lg_cmp_eq _ _).mp c21
      have h := it_ c21 h
      rw [hk47] at h
      refine lv_lload hx hb dX0_greatestBoth_47 (lv_at hl 0 rfl) ?_
      have e1 := Option.some.inj h
      subst e1
      exact W.lret hx hb hr (fun t ht _ => ⟨rfl, ht⟩) no_q dX0_greatestBoth_49
    · have c21 := fun z => c21 ((lg_cmp_eq _ _).mpr z)
      have h := if_ c21 h
      refine lv_lload hx hb dX0_greatestBoth_24 (lv_at hl 0 rfl) ?_
      refine lv_lload hx hb dX0_greatestBoth_26 (lv_at hl 1 rfl) ?_
      obtain ⟨r28, hc28, h⟩ := obn_h h
      refine pz_callS (As := [.long y4_9, .long y6_9]) (rest := []) hcf (c_X0_rest l y4_9 y6_9 r28 hc28) (va_cwS 2 hts gX0_greatestBoth_X0_rest rfl rfl rfl ydX0_rest ⟨Nat.le_of_ble_eq_true rfl, Nat.le_of_ble_eq_true rfl⟩) hnw rfl hl.1 rfl (Nat.le_of_ble_eq_true rfl) dX0_greatestBoth_28 ⟨Nat.le_of_ble_eq_true rfl, Nat.le_of_ble_eq_true rfl⟩ ?_
      refine lv_lstore (lv' := [(9, .long r28), (4, .long y4_9), (6, .long y6_9), (8, .int y8_9)]) hx hb dX0_greatestBoth_31 hl (by decide) rfl (fun ls hl => ?_)
      refine lv_lload hx hb dX0_greatestBoth_33 (lv_at hl 2 rfl) ?_
      refine lv_lstore (lv' := [(4, .long y6_9), (9, .long r28), (6, .long y6_9), (8, .int y8_9)]) hx hb dX0_greatestBoth_35 hl (by decide) rfl (fun ls hl => ?_)
      refine lv_lload hx hb dX0_greatestBoth_37 (lv_at hl 1 rfl) ?_
      refine lv_lstore (lv' := [(6, .long r28), (4, .long y6_9), (9, .long r28), (8, .int y8_9)]) hx hb dX0_greatestBoth_39 hl (by decide) rfl (fun ls hl => ?_)
      obtain ⟨x8_41, e_x8_41⟩ : ∃ z : Int32, z = y8_9 + 1 := ⟨_, rfl⟩
      have h := bnd_h e_x8_41 h
      refine lv_iinc (v := x8_41) (lv' := [(8, .int x8_41), (6, .long r28), (4, .long y6_9), (9, .long r28)]) hx hb dX0_greatestBoth_41 hl (k := 3) rfl (by rw [e_x8_41]; rfl) (by decide) rfl (fun ls hl => ?_)
      refine lv_goto (tgt := 9) hx hb dX0_greatestBoth_44 (by decide) ?_
      exact hih9 y6_9 r28 x8_41 h ls (lv_sub hl [2, 1, 0] rfl)

abbrev rmX7_isBetween : Room := { frames := 0, cells := 0, slots := 0, locals := 0 }
theorem ydX7_isBetween : yX7_isBetween.cls ≠ "java/lang/invoke/MethodHandle" ∧ yX7_isBetween.cls ≠ "java/lang/invoke/VarHandle" ∧ (parseMethodDescriptor yX7_isBetween.desc).map (fun d => d.parameters.length) = some 3 := by decide +kernel
def F_X7_isBetween (p0 : Int32) (p1 : Int32) (p2 : Int32) : Option (Int32) :=
 (if p0 < p1 then
 some (0 : Int32)
else
 (if p2 < p0 then
 some (0 : Int32)
else
 some (1 : Int32)))
set_option maxHeartbeats 4000000 in
set_option maxRecDepth 100000 in
theorem c_X7_isBetween (l : Launch) (p0 : Int32) (p1 : Int32) (p2 : Int32) (r0 : Int32) (hF : F_X7_isBetween p0 p1 p2 = some r0) : Met l yX7_isBetween wsX7_isBetween rmX7_isBetween (va_Pc [.int p0, .int p1, .int p2] NW) (k2_QcV (.int r0)) 0 0 (fun _ => False) := by
  refine Met.ofW (cc := ccode) (maxL := 3) (ret := (some .boolean)) (by decide) rfl ?_
  intro p e s m args below meth c s₁ B hml hv
  obtain ⟨rfl, hnw⟩ := hv
  have hx := B.exec
  have hb := B.bytes
  have hr := B.returns
  have hts := atoms_spec (ws := wsX7_isBetween) B.pre
  have hown : s.vm.findClass RX7 = some m.cls := findClass_of_methodNamed B.named
  have hlocks := B.notSynchronized
  have hcf : CallFix _ _ _ _ _ _ _ _ _ := ⟨hx, hb, hml, hown, hts⟩
  have hl := lv_entry ([.int p0, .int p1, .int p2]) (n := 3) (Nat.le_of_ble_eq_true rfl)
  rw [lg_entry_eq]
  generalize (lg_sl ([.int p0, .int p1, .int p2]) ++ List.replicate (3 - (lg_sl ([.int p0, .int p1, .int p2])).length) Slot.unset).toArray = ls at hl ⊢
  have hl : lv_has ls 3 [(0, .int p0), (1, .int p1), (2, .int p2)] := hl
  have h := hF
  clear hF
  unfold F_X7_isBetween at h
  refine lv_iload_n hx hb dX7_isBetween_0 rfl (lv_at hl 0 rfl) ?_
  refine lv_iload_n hx hb dX7_isBetween_1 rfl (lv_at hl 1 rfl) ?_
  refine lv_icmp_lt (tgt := 14) hx hb dX7_isBetween_2 (by decide) (fun c2 => ?_) (fun c2 => ?_)
  · have h := it_ c2 h
    refine lv_iconst (v := 0) hx hb dX7_isBetween_14 (by decide) ?_
    have e1 := Option.some.inj h
    subst e1
    exact W.zret hx hb hr narrow_b0 (fun t ht _ => ⟨rfl, ht⟩) no_q dX7_isBetween_15
  · have h := if_ c2 h
    refine lv_iload_n hx hb dX7_isBetween_5 rfl (lv_at hl 0 rfl) ?_
    refine lv_iload_n hx hb dX7_isBetween_6 rfl (lv_at hl 2 rfl) ?_
    refine lv_icmp_gt (tgt := 14) hx hb dX7_isBetween_7 (by decide) (fun c7 => ?_) (fun c7 => ?_)
    · have h := it_ c7 h
      refine lv_iconst (v := 0) hx hb dX7_isBetween_14 (by decide) ?_
      have e1 := Option.some.inj h
      subst e1
      exact W.zret hx hb hr narrow_b0 (fun t ht _ => ⟨rfl, ht⟩) no_q dX7_isBetween_15
    · have h := if_ c7 h
      refine lv_iconst (v := 1) hx hb dX7_isBetween_10 (by decide) ?_
      refine lv_goto (tgt := 15) hx hb dX7_isBetween_11 (by decide) ?_
      have e1 := Option.some.inj h
      subst e1
      exact W.zret hx hb hr narrow_b1 (fun t ht _ => ⟨rfl, ht⟩) no_q dX7_isBetween_15

abbrev rmX6_isWheel : Room := { frames := 2, cells := 0, slots := 0, locals := 44 }
theorem ydX6_isWheel : yX6_isWheel.cls ≠ "java/lang/invoke/MethodHandle" ∧ yX6_isWheel.cls ≠ "java/lang/invoke/VarHandle" ∧ (parseMethodDescriptor yX6_isWheel.desc).map (fun d => d.parameters.length) = some 1 := by decide +kernel
def F_X6_isWheel (p0 : Int64) : Option (Int32) :=
 obn (F_X0_degreeOf p0) (fun r1 =>
 obn (F_X7_isBetween r1 ((1 : Int32)) ((8 : Int32))) (fun r7 =>
 (if r7 = 0 then
 some (0 : Int32)
else
 obn (F_X0_hasOne p0 ((0 : Int32))) (fun r15 =>
 (if r15 = 0 then
 some (0 : Int32)
else
 some (1 : Int32))))))
set_option maxHeartbeats 4000000 in
set_option maxRecDepth 100000 in
theorem c_X6_isWheel (l : Launch) (p0 : Int64) (r0 : Int32) (hF : F_X6_isWheel p0 = some r0) : Met l yX6_isWheel wsX6_isWheel rmX6_isWheel (va_Pc [.long p0] NW) (k2_QcV (.int r0)) 0 0 (fun _ => False) := by
  refine Met.ofW (cc := ccode) (maxL := 2) (ret := (some .boolean)) (by decide) rfl ?_
  intro p e s m args below meth c s₁ B hml hv
  obtain ⟨rfl, hnw⟩ := hv
  have hx := B.exec
  have hb := B.bytes
  have hr := B.returns
  have hts := atoms_spec (ws := wsX6_isWheel) B.pre
  have hown : s.vm.findClass RX6 = some m.cls := findClass_of_methodNamed B.named
  have hlocks := B.notSynchronized
  have hcf : CallFix _ _ _ _ _ _ _ _ _ := ⟨hx, hb, hml, hown, hts⟩
  have hfl15 : va_Nw (.methodLinkNest RX6 15 yX7_isBetween "Formwheel") s := hnw _ (by decide +kernel)
  have hl := lv_entry ([.long p0]) (n := 2) (Nat.le_of_ble_eq_true rfl)
  rw [lg_entry_eq]
  generalize (lg_sl ([.long p0]) ++ List.replicate (2 - (lg_sl ([.long p0])).length) Slot.unset).toArray = ls at hl ⊢
  have hl : lv_has ls 2 [(0, .long p0)] := hl
  have h := hF
  clear hF
  unfold F_X6_isWheel at h
  refine lv_lload_n hx hb dX6_isWheel_0 rfl (lv_at hl 0 rfl) ?_
  obtain ⟨r1, hc1, h⟩ := obn_h h
  refine pz_callS (As := [.long p0]) (rest := []) hcf (c_X0_degreeOf l p0 r1 hc1) (va_cwS 1 hts gX6_isWheel_X0_degreeOf rfl rfl rfl ydX0_degreeOf ⟨Nat.le_of_ble_eq_true rfl, Nat.le_of_ble_eq_true rfl⟩) hnw rfl hl.1 rfl (Nat.le_of_ble_eq_true rfl) dX6_isWheel_1 ⟨Nat.le_of_ble_eq_true rfl, Nat.le_of_ble_eq_true rfl⟩ ?_
  refine lv_iconst (v := 1) hx hb dX6_isWheel_4 (by decide) ?_
  refine lv_bipush (v := 8) hx hb dX6_isWheel_5 (by decide) ?_
  obtain ⟨r7, hc7, h⟩ := obn_h h
  refine pz_callSN (As := [.int r1, .int (1 : Int32), .int (8 : Int32)]) (rest := []) hcf (c_X7_isBetween l r1 ((1 : Int32)) ((8 : Int32)) r7 hc7) ⟨va_cnB (host := "Formwheel") 3 hts gX6_isWheel_X7_isBetween_n15 rfl rfl rfl hfl15 (hts (.initialized RX7) (by decide +kernel)) ydX7_isBetween ⟨Nat.le_of_ble_eq_true rfl, Nat.le_of_ble_eq_true rfl⟩, hts (.static yX7_isBetween) (by decide +kernel), trivial⟩ hnw rfl hl.1 rfl (Nat.le_of_ble_eq_true rfl) dX6_isWheel_7 ⟨Nat.le_of_ble_eq_true rfl, Nat.le_of_ble_eq_true rfl⟩ ?_
  refine lv_if_eq (tgt := 25) hx hb dX6_isWheel_10 (by decide) (fun c10 => ?_) (fun c10 => ?_)
  · have h := it_ c10 h
    refine lv_iconst (v := 0) hx hb dX6_isWheel_25 (by decide) ?_
    have e1 := Option.some.inj h
    subst e1
    exact W.zret hx hb hr narrow_b0 (fun t ht _ => ⟨rfl, ht⟩) no_q dX6_isWheel_26
  · have h := if_ c10 h
    refine lv_lload_n hx hb dX6_isWheel_13 rfl (lv_at hl 0 rfl) ?_
    refine lv_iconst (v := 0) hx hb dX6_isWheel_14 (by decide) ?_
    obtain ⟨r15, hc15, h⟩ := obn_h h
    refine pz_callS (As := [.long p0, .int (0 : Int32)]) (rest := []) hcf (c_X0_hasOne l p0 ((0 : Int32)) r15 hc15) (va_cwS 2 hts gX6_isWheel_X0_hasOne rfl rfl rfl ydX0_hasOne ⟨Nat.le_of_ble_eq_true rfl, Nat.le_of_ble_eq_true rfl⟩) hnw rfl hl.1 rfl (Nat.le_of_ble_eq_true rfl) dX6_isWheel_15 ⟨Nat.le_of_ble_eq_true rfl, Nat.le_of_ble_eq_true rfl⟩ ?_
    refine lv_if_eq (tgt := 25) hx hb dX6_isWheel_18 (by decide) (fun c18 => ?_) (fun c18 => ?_)
    · have h := it_ c18 h
      refine lv_iconst (v := 0) hx hb dX6_isWheel_25 (by decide) ?_
      have e1 := Option.some.inj h
      subst e1
      exact W.zret hx hb hr narrow_b0 (fun t ht _ => ⟨rfl, ht⟩) no_q dX6_isWheel_26
    · have h := if_ c18 h
      refine lv_iconst (v := 1) hx hb dX6_isWheel_21 (by decide) ?_
      refine lv_goto (tgt := 26) hx hb dX6_isWheel_22 (by decide) ?_
      have e1 := Option.some.inj h
      subst e1
      exact W.zret hx hb hr narrow_b1 (fun t ht _ => ⟨rfl, ht⟩) no_q dX6_isWheel_26

abbrev rmX6_leastMultiple : Room := { frames := 0, cells := 0, slots := 0, locals := 0 }
theorem ydX6_leastMultiple : yX6_leastMultiple.cls ≠ "java/lang/invoke/MethodHandle" ∧ yX6_leastMultiple.cls ≠ "java/lang/invoke/VarHandle" ∧ (parseMethodDescriptor yX6_leastMultiple.desc).map (fun d => d.parameters.length) = some 2 := by decide +kernel
def S_X6_leastMultiple_7 (k35 : Int32 → Option (Int32)) (ih7 : Int32 → Int32 → Int32 → Option (Int32)) (y2_7 : Int32) (y3_7 : Int32) (y4_7 : Int32) : Option (Int32) :=
 (if ((1000 : Int32)) ≤ y4_7 then
 k35 y2_7
else
 (if y3_7 = 0 then
 k35 y2_7
else
 chk (¬ y3_7 = 0) (
 bnd (y2_7 - y2_7 / y3_7 * y3_7) (fun x5_22 =>
 bnd (y4_7 + 1) (fun x4_29 =>
 ih7 y3_7 x5_22 x4_29)))))
def F_X6_leastMultiple (p0 : Int32) (p1 : Int32) : Option (Int32) :=
 LQ3 (S_X6_leastMultiple_7 (fun y2_7_35 =>
 (if y2_7_35 = 0 then
 some (0 : Int32)
else
 chk (¬ y2_7_35 = 0) (
 some (p0 / y2_7_35) * p1)))) 20000 p0 p1 ((0 : Int32))
set_option maxHeartbeats 4000000 in
set_option maxRecDepth 100000 in
theorem c_X6_leastMultiple (l : Launch) (p0 : Int32) (p1 : Int32) (r0 : Int32) (hF : F_X6_leastMultiple p0 p1 = some r0) : Met l yX6_leastMultiple wsX6_leastMultiple rmX6_leastMultiple (va_Pc [.int p0, .int p1] NW) (k2_QcV (.int r0)) 0 0 (fun _ => False) := by
  refine Met.ofW (cc := ccode) (maxL := 6) (ret := (some .int)) (by decide) rfl ?_
  intro p e s m args below meth c s₁ B hml hv
  obtain ⟨rfl, hnw⟩ := hv
  have hx := B.exec
  have hb := B.bytes
  have hr := B.returns
  have hts := atoms_spec (ws := wsX6_leastMultiple) B.pre
  have hown : s.vm.findClass RX6 = some m.cls := findClass_of_methodNamed B.named
  have hlocks := B.notSynchronized
  have hcf : CallFix _ _ _ _ _ _ _ _ _ := ⟨hx, hb, hml, hown, hts⟩
  have hl := lv_entry ([.int p0, .int p1]) (n := 6) (Nat.le_of_ble_eq_true rfl)
  rw [lg_entry_eq]
  generalize (lg_sl ([.int p0, .int p1]) ++ List.replicate (6 - (lg_sl ([.int p0, .int p1])).length) Slot.unset).toArray = ls at hl ⊢
  have hl : lv_has ls 6 [(0, .int p0), (1, .int p1)] := hl
  have h := hF
  clear hF
  unfold F_X6_leastMultiple at h
  refine lv_iload_n hx hb dX6_leastMultiple_0 rfl (lv_at hl 0 rfl) ?_
  refine lv_istore_n (lv' := [(2, .int p0), (0, .int p0), (1, .int p1)]) hx hb dX6_leastMultiple_1 rfl hl (by decide) rfl (fun ls hl => ?_)
  refine lv_iload_n hx hb dX6_leastMultiple_2 rfl (lv_at hl 2 rfl) ?_
  refine lv_istore_n (lv' := [(3, .int p1), (2, .int p0), (0, .int p0), (1, .int p1)]) hx hb dX6_leastMultiple_3 rfl hl (by decide) rfl (fun ls hl => ?_)
  refine lv_iconst (v := 0) hx hb dX6_leastMultiple_4 (by decide) ?_
  refine lv_istore (lv' := [(4, .int (0 : Int32)), (3, .int p1), (2, .int p0), (0, .int p0), (1, .int p1)]) hx hb dX6_leastMultiple_5 hl (by decide) rfl (fun ls hl => ?_)
  refine LQ3_k1 (M := fun (y2_7 : Int32) (y3_7 : Int32) (y4_7 : Int32) => ∀ (ls : Array Slot), lv_has ls 6 [(0, .int p0), (1, .int p1), (2, .int y2_7), (3, .int y3_7), (4, .int y4_7)] → W p l e rmX6_leastMultiple s m ([.int p0, .int p1] : List Value).toArray below meth c s.heap [] 0 0 (MQ below (k2_QcV (.int r0)) ([.int p0, .int p1] : List Value).toArray s 0 0 (fun _ => False)) (F0 m 7 ls [])) ?_ _ _ _ _ h ls (lv_sub hl [3, 4, 2, 1, 0] rfl)
  intro k35 hk35 ih7 hih7 y2_7 y3_7 y4_7 h ls hl
  unfold S_X6_leastMultiple_7 at h
  refine lv_iload hx hb dX6_leastMultiple_7 (lv_at hl 4 rfl) ?_
  refine lv_sipush (v := 1000) hx hb dX6_leastMultiple_9 (by decide) ?_
  refine lv_icmp_ge (tgt := 35) hx hb dX6_leastMultiple_12 (by decide) (fun c12 => ?_) (fun c12 => ?_)
  · have h := it_ c12 h
    rw [hk35] at h
    refine lv_iload_n hx hb dX6_leastMultiple_35 rfl (lv_at hl 2 rfl) ?_
    refine lv_if_ne (tgt := 43) hx hb dX6_leastMultiple_36 (by decide) (fun c36 => ?_) (fun c36 => ?_)
    · have h := if_ c36 h
      refine lv_iload_n hx hb dX6_leastMultiple_43 rfl (lv_at hl 0 rfl) ?_
      refine lv_iload_n hx hb dX6_leastMultiple_44 rfl (lv_at hl 2 rfl) ?_
      obtain ⟨hq45, h⟩ := chk_h h
      refine lv_idiv hx hb dX6_leastMultiple_45 hq45 ?_
      refine lv_iload_n hx hb dX6_leastMultiple_46 rfl (lv_at hl 1 rfl) ?_
      refine lv_imul hx hb dX6_leastMultiple_47 ?_
      have e1 := Option.some.inj h
      subst e1
      exact W.iret hx hb hr (fun t ht _ => ⟨rfl, ht⟩) no_q dX6_leastMultiple_48
    · have h := it_ c36 h
      refine lv_iconst (v := 0) hx hb dX6_leastMultiple_39 (by decide) ?_
      refine lv_goto (tgt := 48) hx hb dX6_leastMultiple_40 (by decide) ?_
      have e1 := Option.some.inj h
      subst e1
      exact W.iret hx hb hr (fun t ht _ => ⟨rfl, ht⟩) no_q dX6_leastMultiple_48
  · have h := if_ c12 h
    refine lv_iload_n hx hb dX6_leastMultiple_15 rfl (lv_at hl 3 rfl) ?_
    refine lv_if_eq (tgt := 35) hx hb dX6_leastMultiple_16 (by decide) (fun c16 => ?_) (fun c16 => ?_)
    · have h := it_ c16 h
      rw [hk35] at h
      refine lv_iload_n hx hb dX6_leastMultiple_35 rfl (lv_at hl 2 rfl) ?_
      refine lv_if_ne (tgt := 43) hx hb dX6_leastMultiple_36 (by decide) (fun c36 => ?_) (fun c36 => ?_)
      · have h := if_ c36 h
        refine lv_iload_n hx hb dX6_leastMultiple_43 rfl (lv_at hl 0 rfl) ?_
        refine lv_iload_n hx hb dX6_leastMultiple_44 rfl (lv_at hl 2 rfl) ?_
        obtain ⟨hq45, h⟩ := chk_h h
        refine lv_idiv hx hb dX6_leastMultiple_45 hq45 ?_
        refine lv_iload_n hx hb dX6_leastMultiple_46 rfl (lv_at hl 1 rfl) ?_
        refine lv_imul hx hb dX6_leastMultiple_47 ?_
        have e1 := Option.some.inj h
        subst e1
        exact W.iret hx hb hr (fun t ht _ => ⟨rfl, ht⟩) no_q dX6_leastMultiple_48
      · have h := it_ c36 h
        refine lv_iconst (v := 0) hx hb dX6_leastMultiple_39 (by decide) ?_
        refine lv_goto (tgt := 48) hx hb dX6_leastMultiple_40 (by decide) ?_
        have e1 := Option.some.inj h
        subst e1
        exact W.iret hx hb hr (fun t ht _ => ⟨rfl, ht⟩) no_q dX6_leastMultiple_48
    · have h := if_ c16 h
      refine lv_iload_n hx hb dX6_leastMultiple_19 rfl (lv_at hl 2 rfl) ?_
      refine lv_iload_n hx hb dX6_leastMultiple_20 rfl (lv_at hl 3 rfl) ?_
      obtain ⟨hq21, h⟩ := chk_h h
      refine lv_irem hx hb dX6_leastMultiple_21 hq21 ?_
      refine lv_topi (fun x5_22 e_x5_22 => ?_)
      have h := bnd_h e_x5_22 h
      refine lv_istore (lv' := [(5, .int x5_22), (0, .int p0), (1, .int p1), (2, .int y2_7), (3, .int y3_7), (4, .int y4_7)]) hx hb dX6_leastMultiple_22 hl (by decide) rfl (fun ls hl => ?_)
      refine lv_iload_n hx hb dX6_leastMultiple_24 rfl (lv_at hl 4 rfl) ?_
      refine lv_istore_n (lv' := [(2, .int y3_7), (5, .int x5_22), (0, .int p0), (1, .int p1), (3, .int y3_7), (4, .int y4_7)]) hx hb dX6_leastMultiple_25 rfl hl (by decide) rfl (fun ls hl => ?_)
      refine lv_iload hx hb dX6_leastMultiple_26 (lv_at hl 1 rfl) ?_
      refine lv_istore_n (lv' := [(3, .int x5_22), (2, .int y3_7), (5, .int x5_22), (0, .int p0), (1, .int p1), (4, .int y4_7)]) hx hb dX6_leastMultiple_28 rfl hl (by decide) rfl (fun ls hl => ?_)
      obtain ⟨x4_29, e_x4_29⟩ : ∃ z : Int32, z = y4_7 + 1 := ⟨_, rfl⟩
      have h := bnd_h e_x4_29 h
      refine lv_iinc (v := x4_29) (lv' := [(4, .int x4_29), (3, .int x5_22), (2, .int y3_7), (5, .int x5_22), (0, .int p0), (1, .int p1)]) hx hb dX6_leastMultiple_29 hl (k := 5) rfl (by rw [e_x4_29]; rfl) (by decide) rfl (fun ls hl => ?_)
      refine lv_goto (tgt := 7) hx hb dX6_leastMultiple_32 (by decide) ?_
      exact hih7 y3_7 x5_22 x4_29 h ls (lv_sub hl [4, 5, 2, 1, 0] rfl)

abbrev rmX7_done : Room := { frames := 0, cells := 0, slots := 0, locals := 0 }
theorem ydX7_done : yX7_done.cls = RX7 ∧ yX7_done.cls ≠ "java/lang/invoke/MethodHandle" ∧ yX7_done.cls ≠ "java/lang/invoke/VarHandle" ∧ (parseMethodDescriptor yX7_done.desc).map (fun d => d.parameters.length) = some 1 := by decide +kernel
def F_X7_done (c_t_acts : Int32) (p0 : Int32) : Option (Int32 × Int32) :=
 bnd (c_t_acts + ((1 : Int32))) (fun c_t_acts_7 =>
 some (p0, c_t_acts_7))
set_option maxHeartbeats 4000000 in
set_option maxRecDepth 100000 in
theorem c_X7_done (l : Launch) (D : va_G) (cyJ : ClassId) (sz : Nat) (a_t : Nat) (a_t_forms : Nat) (a_t_roll : Nat) (a_t_row : Nat) (a_t_rows : Nat) (a_t_factors : Nat) (a_t_found : Nat) (a_t_foundOtherwise : Nat) (c_t_acts : Int32) (c_t_refusals : Int32) (c_t_knocks : Int32) (p0 : Int32) (r0 : Int32) (o_c_t_acts : Int32) (hF : F_X7_done c_t_acts p0 = some (r0, o_c_t_acts)) : Met l yX7_done wsX7_done rmX7_done (va_Pc [.ref a_t, .int p0] (wPD D [(cyJ, .long)] [(a_t, .inr (6, [.ref a_t_forms, .ref a_t_roll, .ref a_t_row, .ref a_t_rows, .ref a_t_factors, .ref a_t_found, .ref a_t_foundOtherwise, .int c_t_acts, .int c_t_refusals, .int c_t_knocks]))] sz)) (va_Qi (fun (r : Int32) (_ : Unit) => r = r0) (fun _ t => wQA D [(a_t, .inr (6, [.ref a_t_forms, .ref a_t_roll, .ref a_t_row, .ref a_t_rows, .ref a_t_factors, .ref a_t_found, .ref a_t_foundOtherwise, .int o_c_t_acts, .int c_t_refusals, .int c_t_knocks]))] (va_A [(a_t, .inr (6, [.ref a_t_forms, .ref a_t_roll, .ref a_t_row, .ref a_t_rows, .ref a_t_factors, .ref a_t_found, .ref a_t_foundOtherwise, .int c_t_acts, .int c_t_refusals, .int c_t_knocks]))] sz) t) (va_A [(a_t, .inr (6, [.ref a_t_forms, .ref a_t_roll, .ref a_t_row, .ref a_t_rows, .ref a_t_factors, .ref a_t_found, .ref a_t_foundOtherwise, .int c_t_acts, .int c_t_refusals, .int c_t_knocks]))] sz)) 0 0 (va_A [(a_t, .inr (6, [.ref a_t_forms, .ref a_t_roll, .ref a_t_row, .ref a_t_rows, .ref a_t_factors, .ref a_t_found, .ref a_t_foundOtherwise, .int c_t_acts, .int c_t_refusals, .int c_t_knocks]))] sz) := by
  refine Met.ofW (cc := ccode) (maxL := 2) (ret := (some .int)) (by decide) rfl ?_
  intro p e s m args below meth c s₁ B hml hv
  obtain ⟨rfl, hsz, hP, hK, hD0, hnw⟩ := hv
  have hx := B.exec
  have hb := B.bytes
  have hr := B.returns
  have hts := atoms_spec (ws := wsX7_done) B.pre
  have hown : s.vm.findClass RX7 = some m.cls := findClass_of_methodNamed B.named
  have hlocks := B.notSynchronized
  have hcf : CallFix _ _ _ _ _ _ _ _ _ := ⟨hx, hb, hml, hown, hts⟩
  have hinX7 : ∀ w ∈ u_ws RX7 TX7 10, w ∈ wsX7_done := by decide +kernel
  have hfl47 := hts (.fieldLink RX7 47 "Formwheel" "acts" "I") (by decide +kernel)
  subst hsz
  have hD := hD0.self (sz := s.heap.size)
  generalize hAe : va_A [(a_t, .inr (6, [.ref a_t_forms, .ref a_t_roll, .ref a_t_row, .ref a_t_rows, .ref a_t_factors, .ref a_t_found, .ref a_t_foundOtherwise, .int c_t_acts, .int c_t_refusals, .int c_t_knocks]))] s.heap.size = A at hD ⊢
  have hA : ∀ q : Nat, s.heap.size ≤ q → A q := fun q h => by rw [← hAe]; exact Or.inr h
  have hS : va_S A s.heap s.heap [] := va_S.rf
  have hP : va_P D vwCl [(a_t, .inr (6, [.ref a_t_forms, .ref a_t_roll, .ref a_t_row, .ref a_t_rows, .ref a_t_factors, .ref a_t_found, .ref a_t_foundOtherwise, .int c_t_acts, .int c_t_refusals, .int c_t_knocks]))] s.heap := hP
  have hK0 := hK
  have hl := lv_entry ([.ref a_t, .int p0]) (n := 2) (Nat.le_of_ble_eq_true rfl)
  rw [lg_entry_eq]
  generalize (lg_sl ([.ref a_t, .int p0]) ++ List.replicate (2 - (lg_sl ([.ref a_t, .int p0])).length) Slot.unset).toArray = ls at hl ⊢
  have hl : lv_has ls 2 [(0, .ref a_t), (1, .int p0)] := hl
  have h := hF
  clear hF
  unfold F_X7_done at h
  refine lv_aload_n hx hb dX7_done_0 rfl (lv_at hl 0 rfl) ?_
  refine lv_dup hx hb dX7_done_1 rfl ?_
  refine va_get (D := D) (ci := 6) (v := .int c_t_acts) (C := RX7) (T := TX7) (N := 10) hx hb hts hinX7 hown hK hP 0 rfl rfl 7 (by decide) hfl47 (fun _ h9 => h9) rfl dX7_done_2 ?_
  refine lv_iconst (v := 1) hx hb dX7_done_5 (by decide) ?_
  refine lv_iadd hx hb dX7_done_6 ?_
  refine lv_topi (fun c_t_acts_7 e_c_t_acts_7 => ?_)
  have h := bnd_h e_c_t_acts_7 h
  refine va_put (D := D) (ci := 6) (v := .int c_t_acts_7) (ty := .int) (C := RX7) (T := TX7) (N := 10) hx hb hts hinX7 tyX7 tyX7_ok nmX7 hown hK hP hD hS 0 rfl rfl 7 (by decide) hfl47 (fun _ h9 => h9) rfl (by decide +kernel) rfl rfl (Nat.le_of_ble_eq_true rfl) dX7_done_7 (fun H locs hP hD hS => ?_)
  have hP : va_P D vwCl [(a_t, .inr (6, [.ref a_t_forms, .ref a_t_roll, .ref a_t_row, .ref a_t_rows, .ref a_t_factors, .ref a_t_found, .ref a_t_foundOtherwise, .int c_t_acts_7, .int c_t_refusals, .int c_t_knocks]))] H := hP
  have hD : va_D A [(a_t, .inr (6, [.ref a_t_forms, .ref a_t_roll, .ref a_t_row, .ref a_t_rows, .ref a_t_factors, .ref a_t_found, .ref a_t_foundOtherwise, .int c_t_acts_7, .int c_t_refusals, .int c_t_knocks]))] := hD
  refine lv_iload_n hx hb dX7_done_10 rfl (lv_at hl 1 rfl) ?_
  obtain ⟨e0, e1⟩ := tup2 h
  subst e0
  subst e1
  have hP9 : va_P D vwCl [(a_t, .inr (6, [.ref a_t_forms, .ref a_t_roll, .ref a_t_row, .ref a_t_rows, .ref a_t_factors, .ref a_t_found, .ref a_t_foundOtherwise, .int c_t_acts_7, .int c_t_refusals, .int c_t_knocks]))] H := hP.sub [0] rfl
  have hD9 : va_D A [(a_t, .inr (6, [.ref a_t_forms, .ref a_t_roll, .ref a_t_row, .ref a_t_rows, .ref a_t_factors, .ref a_t_found, .ref a_t_foundOtherwise, .int c_t_acts_7, .int c_t_refusals, .int c_t_knocks]))] := hD.sub [0] (by decide) rfl
  exact W.iret hx hb hr (fun t ht hW => ⟨⟨_, (), rfl, rfl, wQA_of ht hP9 hD9⟩, hS.F ht⟩) hS.2.2 dX7_done_11

abbrev rmX7_become : Room := { frames := 2, cells := 0, slots := 0, locals := 44 }
theorem ydX7_become : yX7_become.cls = RX7 ∧ yX7_become.cls ≠ "java/lang/invoke/MethodHandle" ∧ yX7_become.cls ≠ "java/lang/invoke/VarHandle" ∧ (parseMethodDescriptor yX7_become.desc).map (fun d => d.parameters.length) = some 2 := by decide +kernel
def F_X7_become (c_t_acts : Int32) (f_t_forms : Nat → Int64) (p0 : Int32) (p1 : Int64) : Option (Int32 × Int32 × (Nat → Int64)) :=
 chk (¬ (p0 < 0 ∨ 6 ≤ p0.toNatClampNeg)) (
 bnd (vp_updL f_t_forms p0.toNatClampNeg p1) (fun f_t_forms_6 =>
 obn (F_X0_degreeOf p1) (fun r9 =>
 obn2 (F_X7_done c_t_acts r9) (fun r12 c_t_acts_12 =>
 some (r12, c_t_acts_12, f_t_forms_6)))))
set_option maxHeartbeats 4000000 in
set_option maxRecDepth 100000 in
theorem c_X7_become (l : Launch) (D : va_G) (cyJ : ClassId) (sz : Nat) (a_t : Nat) (a_t_forms : Nat) (a_t_roll : Nat) (a_t_row : Nat) (a_t_rows : Nat) (a_t_factors : Nat) (a_t_found : Nat) (a_t_foundOtherwise : Nat) (c_t_acts : Int32) (c_t_refusals : Int32) (c_t_knocks : Int32) (f_t_forms : Nat → Int64) (p0 : Int32) (p1 : Int64) (r0 : Int32) (o_c_t_acts : Int32) (o_f_t_forms : Nat → Int64) (hF : F_X7_become c_t_acts f_t_forms p0 p1 = some (r0, o_c_t_acts, o_f_t_forms)) : Met l yX7_become wsX7_become rmX7_become (va_Pc [.ref a_t, .int p0, .long p1] (wPD D [(cyJ, .long)] [(a_t, .inr (6, [.ref a_t_forms, .ref a_t_roll, .ref a_t_row, .ref a_t_rows, .ref a_t_factors, .ref a_t_found, .ref a_t_foundOtherwise, .int c_t_acts, .int c_t_refusals, .int c_t_knocks])), (a_t_forms, .inl (cyJ, 6, .inr (.inl f_t_forms)))] sz)) (va_Qi (fun (r : Int32) (_ : Unit) => r = r0) (fun _ t => wQA D [(a_t, .inr (6, [.ref a_t_forms, .ref a_t_roll, .ref a_t_row, .ref a_t_rows, .ref a_t_factors, .ref a_t_found, .ref a_t_foundOtherwise, .int o_c_t_acts, .int c_t_refusals, .int c_t_knocks])), (a_t_forms, .inl (cyJ, 6, .inr (.inl o_f_t_forms)))] (va_A [(a_t, .inr (6, [.ref a_t_forms, .ref a_t_roll, .ref a_t_row, .ref a_t_rows, .ref a_t_factors, .ref a_t_found, .ref a_t_foundOtherwise, .int c_t_acts, .int c_t_refusals, .int c_t_knocks])), (a_t_forms, .inl (cyJ, 6, .inr (.inl f_t_forms)))] sz) t) (va_A [(a_t, .inr (6, [.ref a_t_forms, .ref a_t_roll, .ref a_t_row, .ref a_t_rows, .ref a_t_factors, .ref a_t_found, .ref a_t_foundOtherwise, .int c_t_acts, .int c_t_refusals, .int c_t_knocks])), (a_t_forms, .inl (cyJ, 6, .inr (.inl f_t_forms)))] sz)) 0 0 (va_A [(a_t, .inr (6, [.ref a_t_forms, .ref a_t_roll, .ref a_t_row, .ref a_t_rows, .ref a_t_factors, .ref a_t_found, .ref a_t_foundOtherwise, .int c_t_acts, .int c_t_refusals, .int c_t_knocks])), (a_t_forms, .inl (cyJ, 6, .inr (.inl f_t_forms)))] sz) := by
  refine Met.ofW (cc := ccode) (maxL := 4) (ret := (some .int)) (by decide) rfl ?_
  intro p e s m args below meth c s₁ B hml hv
  obtain ⟨rfl, hsz, hP, hK, hD0, hnw⟩ := hv
  have hx := B.exec
  have hb := B.bytes
  have hr := B.returns
  have hts := atoms_spec (ws := wsX7_become) B.pre
  have hown : s.vm.findClass RX7 = some m.cls := findClass_of_methodNamed B.named
  have hlocks := B.notSynchronized
  have hcf : CallFix _ _ _ _ _ _ _ _ _ := ⟨hx, hb, hml, hown, hts⟩
  have hinX7 : ∀ w ∈ u_ws RX7 TX7 10, w ∈ wsX7_become := by decide +kernel
  have hfl9 := hts (.fieldLink RX7 9 "Formwheel" "forms" "[J") (by decide +kernel)
  subst hsz
  have hD := hD0.self (sz := s.heap.size)
  generalize hAe : va_A [(a_t, .inr (6, [.ref a_t_forms, .ref a_t_roll, .ref a_t_row, .ref a_t_rows, .ref a_t_factors, .ref a_t_found, .ref a_t_foundOtherwise, .int c_t_acts, .int c_t_refusals, .int c_t_knocks])), (a_t_forms, .inl (cyJ, 6, .inr (.inl f_t_forms)))] s.heap.size = A at hD ⊢
  have hA : ∀ q : Nat, s.heap.size ≤ q → A q := fun q h => by rw [← hAe]; exact Or.inr h
  have hS : va_S A s.heap s.heap [] := va_S.rf
  have hP : va_P D vwCl [(a_t, .inr (6, [.ref a_t_forms, .ref a_t_roll, .ref a_t_row, .ref a_t_rows, .ref a_t_factors, .ref a_t_found, .ref a_t_foundOtherwise, .int c_t_acts, .int c_t_refusals, .int c_t_knocks])), (a_t_forms, .inl (cyJ, 6, .inr (.inl f_t_forms)))] s.heap := hP
  have hK0 := hK
  have hl := lv_entry ([.ref a_t, .int p0, .long p1]) (n := 4) (Nat.le_of_ble_eq_true rfl)
  rw [lg_entry_eq]
  generalize (lg_sl ([.ref a_t, .int p0, .long p1]) ++ List.replicate (4 - (lg_sl ([.ref a_t, .int p0, .long p1])).length) Slot.unset).toArray = ls at hl ⊢
  have hl : lv_has ls 4 [(0, .ref a_t), (1, .int p0), (2, .long p1)] := hl
  have h := hF
  clear hF
  unfold F_X7_become at h
  refine lv_aload_n hx hb dX7_become_0 rfl (lv_at hl 0 rfl) ?_
  refine va_get (D := D) (ci := 6) (v := .ref a_t_forms) (C := RX7) (T := TX7) (N := 10) hx hb hts hinX7 hown hK hP 0 rfl rfl 0 (by decide) hfl9 (fun _ h9 => h9) rfl dX7_become_1 ?_
  refine lv_iload_n hx hb dX7_become_4 rfl (lv_at hl 1 rfl) ?_
  refine lv_lload_n hx hb dX7_become_5 rfl (lv_at hl 2 rfl) ?_
  obtain ⟨hq6, h⟩ := chk_h h
  refine va_last hx hb hK hP hD hS 1 0 rfl rfl hq6 dX7_become_6 (fun H locs hP hD hS => ?_)
  obtain ⟨f_t_forms_6, e_f_t_forms_6⟩ : ∃ z, z = vp_updL f_t_forms p0.toNatClampNeg p1 := ⟨_, rfl⟩
  have h := bnd_h e_f_t_forms_6 h
  have hP : va_P D vwCl [(a_t, .inr (6, [.ref a_t_forms, .ref a_t_roll, .ref a_t_row, .ref a_t_rows, .ref a_t_factors, .ref a_t_found, .ref a_t_foundOtherwise, .int c_t_acts, .int c_t_refusals, .int c_t_knocks])), (a_t_forms, .inl (cyJ, 6, .inr (.inl f_t_forms_6)))] H := by rw [e_f_t_forms_6]; exact hP
  have hD : va_D A [(a_t, .inr (6, [.ref a_t_forms, .ref a_t_roll, .ref a_t_row, .ref a_t_rows, .ref a_t_factors, .ref a_t_found, .ref a_t_foundOtherwise, .int c_t_acts, .int c_t_refusals, .int c_t_knocks])), (a_t_forms, .inl (cyJ, 6, .inr (.inl f_t_forms_6)))] := by rw [e_f_t_forms_6]; exact hD
  refine lv_aload_n hx hb dX7_become_7 rfl (lv_at hl 0 rfl) ?_
  refine lv_lload_n hx hb dX7_become_8 rfl (lv_at hl 2 rfl) ?_
  obtain ⟨r9, hc9, h⟩ := obn_h h
  refine pz_callS (As := [.long p1]) (rest := [.ref a_t]) hcf (c_X0_degreeOf l p1 r9 hc9) (va_cwS 1 hts gX7_become_X0_degreeOf rfl rfl rfl ydX0_degreeOf ⟨Nat.le_of_ble_eq_true rfl, Nat.le_of_ble_eq_true rfl⟩) hnw rfl hl.1 rfl (Nat.le_of_ble_eq_true rfl) dX7_become_9 ⟨Nat.le_of_ble_eq_true rfl, Nat.le_of_ble_eq_true rfl⟩ ?_
  obtain ⟨r12, c_t_acts_12, hc12, h⟩ := obn2_h h
  have hPc := hP.sub (ws' := [(a_t, .inr (6, [.ref a_t_forms, .ref a_t_roll, .ref a_t_row, .ref a_t_rows, .ref a_t_factors, .ref a_t_found, .ref a_t_foundOtherwise, .int c_t_acts, .int c_t_refusals, .int c_t_knocks]))]) [0] rfl
  have hDc := hD.sub (ws' := [(a_t, .inr (6, [.ref a_t_forms, .ref a_t_roll, .ref a_t_row, .ref a_t_rows, .ref a_t_factors, .ref a_t_found, .ref a_t_foundOtherwise, .int c_t_acts, .int c_t_refusals, .int c_t_knocks]))]) [0] (by decide) rfl
  refine hp_i (w1 := [(a_t, .inr (6, [.ref a_t_forms, .ref a_t_roll, .ref a_t_row, .ref a_t_rows, .ref a_t_factors, .ref a_t_found, .ref a_t_foundOtherwise, .int c_t_acts_12, .int c_t_refusals, .int c_t_knocks]))]) (wr := [(a_t_forms, .inl (cyJ, 6, .inr (.inl f_t_forms_6)))]) (va_runV (As := [.int r9]) (rest := []) hcf (c_X7_done l D cyJ H.size a_t a_t_forms a_t_roll a_t_row a_t_rows a_t_factors a_t_found a_t_foundOtherwise c_t_acts c_t_refusals c_t_knocks r9 r12 c_t_acts_12 hc12) (cwV 1 hts gX7_become_X7_done rfl rfl rfl ydX7_done ⟨Nat.le_of_ble_eq_true rfl, Nat.le_of_ble_eq_true rfl⟩) ⟨bl_PD, va_recv hK hP (ci := 6) (q0 := 0) rfl rfl, pr_PD hPc hK0 hDc hnw⟩ rfl rfl hl.1 rfl (lv_room (Nat.le_of_ble_eq_true rfl)) dX7_become_12 ⟨Nat.le_of_ble_eq_true rfl, Nat.le_of_ble_eq_true rfl⟩) hP hD hS hA [0] [1] rfl rfl (by decide) (by decide) (fun H locs hP hD hS => ?_)
  have hP : va_P D vwCl [(a_t_forms, .inl (cyJ, 6, .inr (.inl f_t_forms_6))), (a_t, .inr (6, [.ref a_t_forms, .ref a_t_roll, .ref a_t_row, .ref a_t_rows, .ref a_t_factors, .ref a_t_found, .ref a_t_foundOtherwise, .int c_t_acts_12, .int c_t_refusals, .int c_t_knocks]))] H := hP
  have hD : va_D A [(a_t_forms, .inl (cyJ, 6, .inr (.inl f_t_forms_6))), (a_t, .inr (6, [.ref a_t_forms, .ref a_t_roll, .ref a_t_row, .ref a_t_rows, .ref a_t_factors, .ref a_t_found, .ref a_t_foundOtherwise, .int c_t_acts_12, .int c_t_refusals, .int c_t_knocks]))] := hD
  obtain ⟨e0, e1, e2⟩ := tup3 h
  subst e0
  subst e1
  subst e2
  have hP9 : va_P D vwCl [(a_t, .inr (6, [.ref a_t_forms, .ref a_t_roll, .ref a_t_row, .ref a_t_rows, .ref a_t_factors, .ref a_t_found, .ref a_t_foundOtherwise, .int c_t_acts_12, .int c_t_refusals, .int c_t_knocks])), (a_t_forms, .inl (cyJ, 6, .inr (.inl f_t_forms_6)))] H := hP.sub [1, 0] rfl
  have hD9 : va_D A [(a_t, .inr (6, [.ref a_t_forms, .ref a_t_roll, .ref a_t_row, .ref a_t_rows, .ref a_t_factors, .ref a_t_found, .ref a_t_foundOtherwise, .int c_t_acts_12, .int c_t_refusals, .int c_t_knocks])), (a_t_forms, .inl (cyJ, 6, .inr (.inl f_t_forms_6)))] := hD.sub [1, 0] (by decide) rfl
  exact W.iret hx hb hr (fun t ht hW => ⟨⟨_, (), rfl, rfl, wQA_of ht hP9 hD9⟩, hS.F ht⟩) hS.2.2 dX7_become_15

abbrev rmX7_testForm : Room := { frames := 8, cells := 1, slots := 6, locals := 100 }
theorem ydX7_testForm : yX7_testForm.cls ≠ "java/lang/invoke/MethodHandle" ∧ yX7_testForm.cls ≠ "java/lang/invoke/VarHandle" ∧ (parseMethodDescriptor yX7_testForm.desc).map (fun d => d.parameters.length) = some 1 := by decide +kernel
def F_X7_testForm (p0 : Int32) : Option (Nat) :=
 obn (F_X7_isBetween p0 ((0 : Int32)) ((5 : Int32))) (fun r3 =>
 (if r3 = 0 then
 some 1
else
 some 0))
theorem wsat_X7_testForm : ∀ w ∈ (vx_atS RX7 303 "java/lang/IndexOutOfBoundsException" ["java/lang/RuntimeException", "java/lang/Exception"]).filter goodWord, w ∈ wsX7_testForm := fun w h => List.mem_cons_of_mem _ (by first | exact List.mem_append_right _ h | exact List.mem_append_left _ (List.mem_append_right _ h) | exact List.mem_append_left _ (List.mem_append_left _ (List.mem_append_right _ h)))
theorem hgood_X7_testForm : ∀ w ∈ Cond.classLink RX7 299 "java/lang/IndexOutOfBoundsException" :: Cond.initialized "java/lang/IndexOutOfBoundsException" :: vx_atS RX7 303 "java/lang/IndexOutOfBoundsException" ["java/lang/RuntimeException", "java/lang/Exception"], vx_ot w = true := by decide +kernel
set_option maxHeartbeats 4000000 in
set_option maxRecDepth 100000 in
theorem c_X7_testForm (l : Launch) (hfl : l.stackTraces = false) (D : va_G) (cyJ : ClassId) (sz : Nat) (p0 : Int32) (xc : Nat) (hF : F_X7_testForm p0 = some xc) : vx_Met l yX7_testForm wsX7_testForm rmX7_testForm (va_Pc [.int p0] (wPX D [(cyJ, .long)] [] sz)) (va_Qv (fun (_ : Unit) => xc = 0) (fun _ t => wQA D [] (va_A [] sz) t) (va_A [] sz)) (vx_X (fun (_ : Unit) => ¬ xc = 0) (fun E _ t => E = xcls xc ∧ wQA D [] (va_A [] sz) t) (va_A [] sz)) 1 6 (va_A [] sz) := by
  refine vx_ofW (cc := ccode) (maxL := 1) (ret := none) (by decide) rfl ?_
  intro p e s m args below meth c s₁ B hml hxt hv
  obtain ⟨rfl, ⟨hsz, hP, hK, hD0, hnw⟩, hE⟩ := hv
  have hx := B.exec
  have hb := B.bytes
  have hr := B.returns
  have hts := atoms_spec (ws := wsX7_testForm) B.pre
  have hown : s.vm.findClass RX7 = some m.cls := findClass_of_methodNamed B.named
  have hlocks := B.notSynchronized
  have hcf : CallFix _ _ _ _ _ _ _ _ _ := ⟨hx, hb, hml, hown, hts⟩
  subst hsz
  have hD := hD0.self (sz := s.heap.size)
  generalize hAe : va_A [] s.heap.size = A at hD hE ⊢
  have hA : ∀ q : Nat, s.heap.size ≤ q → A q := fun q h => by rw [← hAe]; exact Or.inr h
  have hS : va_S A s.heap s.heap [] := va_S.rf
  have hP : va_P D vwCl [] s.heap := hP
  have hK0 := hK
  have hl := lv_entry ([.int p0]) (n := 1) (Nat.le_of_ble_eq_true rfl)
  rw [lg_entry_eq]
  generalize (lg_sl ([.int p0]) ++ List.replicate (1 - (lg_sl ([.int p0])).length) Slot.unset).toArray = ls at hl ⊢
  have hl : lv_has ls 1 [(0, .int p0)] := hl
  have h := hF
  clear hF
  unfold F_X7_testForm at h
  refine lv_iload_n hx hb dX7_testForm_0 rfl (lv_at hl 0 rfl) ?_
  refine lv_iconst (v := 0) hx hb dX7_testForm_1 (by decide) ?_
  refine lv_iconst (v := 5) hx hb dX7_testForm_2 (by decide) ?_
  obtain ⟨r3, hc3, h⟩ := obn_h h
  refine pz_callS (As := [.int p0, .int (0 : Int32), .int (5 : Int32)]) (rest := []) hcf (c_X7_isBetween l p0 ((0 : Int32)) ((5 : Int32)) r3 hc3) (va_cwS 3 hts gX7_testForm_X7_isBetween rfl rfl rfl ydX7_isBetween ⟨Nat.le_of_ble_eq_true rfl, Nat.le_of_ble_eq_true rfl⟩) hnw rfl hl.1 rfl (Nat.le_of_ble_eq_true rfl) dX7_testForm_3 ⟨Nat.le_of_ble_eq_true rfl, Nat.le_of_ble_eq_true rfl⟩ ?_
  refine lv_if_ne (tgt := 20) hx hb dX7_testForm_6 (by decide) (fun c6 => ?_) (fun c6 => ?_)
  · have h := if_ c6 h
    have e1 := Option.some.inj h
    subst e1
    have hP9 : va_P D vwCl [] s.heap := hP.sub [] rfl
    have hD9 : va_D A [] := hD.sub [] (by decide) rfl
    refine vx_ret ?_
    refine W.widen (k := 1) (n := 6) (Nat.le_of_ble_eq_true rfl) (Nat.le_of_ble_eq_true rfl) ?_
    exact W.vret hx hb hr (fun t ht hW => ⟨⟨(), rfl, rfl, wQA_of ht hP9 hD9⟩, hS.F ht⟩) hS.2.2 dX7_testForm_20
  · have h := it_ c6 h
    have e1 := Option.some.inj h
    subst e1
    have hP9 : va_P D vwCl [] s.heap := hP.sub [] rfl
    have hD9 : va_D A [] := hD.sub [] (by decide) rfl
    obtain ⟨sa9, hstr9⟩ := hE.2.2 _ (show (RX7, 301, _) ∈ strL from by decide +kernel)
    exact vx_throwSW hx hb hfl hown (cls := "java/lang/IndexOutOfBoundsException") (names := ["java/lang/RuntimeException", "java/lang/Exception"]) (by decide +kernel) (by decide +kernel) (hts (.classLink RX7 299 "java/lang/IndexOutOfBoundsException") (by decide +kernel)) (hts (.initialized "java/lang/IndexOutOfBoundsException") (by decide +kernel)) hstr9 (hat_1 (fun w hw => hts w (wsat_X7_testForm w hw)) hE.2.1) hgood_X7_testForm hE.1.1 hE.1.2 hS (hl.1.trans hml.symm) dX7_testForm_9 dX7_testForm_12 dX7_testForm_13 dX7_testForm_16 dX7_testForm_19 (fun x hx => (hxt x hx).elim) (Nat.le_of_ble_eq_true rfl) (Nat.le_of_ble_eq_true rfl) (Nat.le_of_ble_eq_true rfl) (Nat.le_of_ble_eq_true rfl) hlocks (fun t hW hz hk => ⟨(), by decide, ⟨rfl, wQA_kept hP9 hD9 hk⟩, va_F_kept hS hz hk⟩) hS.2.2 (Nat.le_of_ble_eq_true rfl) (Nat.le_of_ble_eq_true rfl)

abbrev rmX7_testRange : Room := { frames := 8, cells := 1, slots := 6, locals := 100 }
theorem ydX7_testRange : yX7_testRange.cls ≠ "java/lang/invoke/MethodHandle" ∧ yX7_testRange.cls ≠ "java/lang/invoke/VarHandle" ∧ (parseMethodDescriptor yX7_testRange.desc).map (fun d => d.parameters.length) = some 3 := by decide +kernel
def F_X7_testRange (p0 : Int32) (p1 : Int32) (p2 : Int32) : Option (Nat) :=
 obn (F_X7_isBetween p0 p1 p2) (fun r3 =>
 (if r3 = 0 then
 some 2
else
 some 0))
theorem wsat_X7_testRange : ∀ w ∈ (vx_atS RX7 127 "java/lang/IllegalArgumentException" ["java/lang/RuntimeException", "java/lang/Exception"]).filter goodWord, w ∈ wsX7_testRange := fun w h => List.mem_cons_of_mem _ (by first | exact List.mem_append_right _ h | exact List.mem_append_left _ (List.mem_append_right _ h) | exact List.mem_append_left _ (List.mem_append_left _ (List.mem_append_right _ h)))
theorem hgood_X7_testRange : ∀ w ∈ Cond.classLink RX7 123 "java/lang/IllegalArgumentException" :: Cond.initialized "java/lang/IllegalArgumentException" :: vx_atS RX7 127 "java/lang/IllegalArgumentException" ["java/lang/RuntimeException", "java/lang/Exception"], vx_ot w = true := by decide +kernel
set_option maxHeartbeats 4000000 in
set_option maxRecDepth 100000 in
theorem c_X7_testRange (l : Launch) (hfl : l.stackTraces = false) (D : va_G) (cyJ : ClassId) (sz : Nat) (p0 : Int32) (p1 : Int32) (p2 : Int32) (xc : Nat) (hF : F_X7_testRange p0 p1 p2 = some xc) : vx_Met l yX7_testRange wsX7_testRange rmX7_testRange (va_Pc [.int p0, .int p1, .int p2] (wPX D [(cyJ, .long)] [] sz)) (va_Qv (fun (_ : Unit) => xc = 0) (fun _ t => wQA D [] (va_A [] sz) t) (va_A [] sz)) (vx_X (fun (_ : Unit) => ¬ xc = 0) (fun E _ t => E = xcls xc ∧ wQA D [] (va_A [] sz) t) (va_A [] sz)) 1 6 (va_A [] sz) := by
  refine vx_ofW (cc := ccode) (maxL := 3) (ret := none) (by decide) rfl ?_
  intro p e s m args below meth c s₁ B hml hxt hv
  obtain ⟨rfl, ⟨hsz, hP, hK, hD0, hnw⟩, hE⟩ := hv
  have hx := B.exec
  have hb := B.bytes
  have hr := B.returns
  have hts := atoms_spec (ws := wsX7_testRange) B.pre
  have hown : s.vm.findClass RX7 = some m.cls := findClass_of_methodNamed B.named
  have hlocks := B.notSynchronized
  have hcf : CallFix _ _ _ _ _ _ _ _ _ := ⟨hx, hb, hml, hown, hts⟩
  subst hsz
  have hD := hD0.self (sz := s.heap.size)
  generalize hAe : va_A [] s.heap.size = A at hD hE ⊢
  have hA : ∀ q : Nat, s.heap.size ≤ q → A q := fun q h => by rw [← hAe]; exact Or.inr h
  have hS : va_S A s.heap s.heap [] := va_S.rf
  have hP : va_P D vwCl [] s.heap := hP
  have hK0 := hK
  have hl := lv_entry ([.int p0, .int p1, .int p2]) (n := 3) (Nat.le_of_ble_eq_true rfl)
  rw [lg_entry_eq]
  generalize (lg_sl ([.int p0, .int p1, .int p2]) ++ List.replicate (3 - (lg_sl ([.int p0, .int p1, .int p2])).length) Slot.unset).toArray = ls at hl ⊢
  have hl : lv_has ls 3 [(0, .int p0), (1, .int p1), (2, .int p2)] := hl
  have h := hF
  clear hF
  unfold F_X7_testRange at h
  refine lv_iload_n hx hb dX7_testRange_0 rfl (lv_at hl 0 rfl) ?_
  refine lv_iload_n hx hb dX7_testRange_1 rfl (lv_at hl 1 rfl) ?_
  refine lv_iload_n hx hb dX7_testRange_2 rfl (lv_at hl 2 rfl) ?_
  obtain ⟨r3, hc3, h⟩ := obn_h h
  refine pz_callS (As := [.int p0, .int p1, .int p2]) (rest := []) hcf (c_X7_isBetween l p0 p1 p2 r3 hc3) (va_cwS 3 hts gX7_testRange_X7_isBetween rfl rfl rfl ydX7_isBetween ⟨Nat.le_of_ble_eq_true rfl, Nat.le_of_ble_eq_true rfl⟩) hnw rfl hl.1 rfl (Nat.le_of_ble_eq_true rfl) dX7_testRange_3 ⟨Nat.le_of_ble_eq_true rfl, Nat.le_of_ble_eq_true rfl⟩ ?_
  refine lv_if_ne (tgt := 20) hx hb dX7_testRange_6 (by decide) (fun c6 => ?_) (fun c6 => ?_)
  · have h := if_ c6 h
    have e1 := Option.some.inj h
    subst e1
    have hP9 : va_P D vwCl [] s.heap := hP.sub [] rfl
    have hD9 : va_D A [] := hD.sub [] (by decide) rfl
    refine vx_ret ?_
    refine W.widen (k := 1) (n := 6) (Nat.le_of_ble_eq_true rfl) (Nat.le_of_ble_eq_true rfl) ?_
    exact W.vret hx hb hr (fun t ht hW => ⟨⟨(), rfl, rfl, wQA_of ht hP9 hD9⟩, hS.F ht⟩) hS.2.2 dX7_testRange_20
  · have h := it_ c6 h
    have e1 := Option.some.inj h
    subst e1
    have hP9 : va_P D vwCl [] s.heap := hP.sub [] rfl
    have hD9 : va_D A [] := hD.sub [] (by decide) rfl
    obtain ⟨sa9, hstr9⟩ := hE.2.2 _ (show (RX7, 308, _) ∈ strL from by decide +kernel)
    exact vx_throwSW hx hb hfl hown (cls := "java/lang/IllegalArgumentException") (names := ["java/lang/RuntimeException", "java/lang/Exception"]) (by decide +kernel) (by decide +kernel) (hts (.classLink RX7 123 "java/lang/IllegalArgumentException") (by decide +kernel)) (hts (.initialized "java/lang/IllegalArgumentException") (by decide +kernel)) hstr9 (hat_2 (fun w hw => hts w (wsat_X7_testRange w hw)) hE.2.1) hgood_X7_testRange hE.1.1 hE.1.2 hS (hl.1.trans hml.symm) dX7_testRange_9 dX7_testRange_12 dX7_testRange_13 dX7_testRange_16 dX7_testRange_19 (fun x hx => (hxt x hx).elim) (Nat.le_of_ble_eq_true rfl) (Nat.le_of_ble_eq_true rfl) (Nat.le_of_ble_eq_true rfl) (Nat.le_of_ble_eq_true rfl) hlocks (fun t hW hz hk => ⟨(), by decide, ⟨rfl, wQA_kept hP9 hD9 hk⟩, va_F_kept hS hz hk⟩) hS.2.2 (Nat.le_of_ble_eq_true rfl) (Nat.le_of_ble_eq_true rfl)

abbrev rmX7_set : Room := { frames := 9, cells := 2, slots := 12, locals := 122 }
theorem ydX7_set : yX7_set.cls = RX7 ∧ yX7_set.cls ≠ "java/lang/invoke/MethodHandle" ∧ yX7_set.cls ≠ "java/lang/invoke/VarHandle" ∧ (parseMethodDescriptor yX7_set.desc).map (fun d => d.parameters.length) = some 2 := by decide +kernel
def F_X7_set (c_t_acts : Int32) (f_t_forms : Nat → Int64) (p0 : Int32) (p1 : Int32) : Option (Nat × Int32 × Int32 × (Nat → Int64)) :=
 obn (F_X7_testForm p0) (fun xc1 =>
 if xc1 = 0 then
 obn (F_X7_testRange p1 ((0 : Int32)) ((2147483647 : Int32))) (fun xc8 =>
 if xc8 = 0 then
 chk (¬ (p0 < 0 ∨ 6 ≤ p0.toNatClampNeg)) (
 obn (F_X0_degreeOf (f_t_forms p0.toNatClampNeg)) (fun r17 =>
 chk (¬ (p0 < 0 ∨ 6 ≤ p0.toNatClampNeg)) (
 bnd (vp_updL f_t_forms p0.toNatClampNeg p1.toInt64) (fun f_t_forms_28 =>
 obn2 (F_X7_done c_t_acts r17) (fun r31 c_t_acts_31 =>
 some (0, r31, c_t_acts_31, f_t_forms_28))))))
else
 some (xc8, 0, c_t_acts, f_t_forms))
else
 some (xc1, 0, c_t_acts, f_t_forms))
set_option maxHeartbeats 4000000 in
set_option maxRecDepth 100000 in
theorem c_X7_set (l : Launch) (hfl : l.stackTraces = false) (D : va_G) (cyJ : ClassId) (sz : Nat) (a_t : Nat) (a_t_forms : Nat) (a_t_roll : Nat) (a_t_row : Nat) (a_t_rows : Nat) (a_t_factors : Nat) (a_t_found : Nat) (a_t_foundOtherwise : Nat) (c_t_acts : Int32) (c_t_refusals : Int32) (c_t_knocks : Int32) (f_t_forms : Nat → Int64) (p0 : Int32) (p1 : Int32) (xc : Nat) (r0 : Int32) (o_c_t_acts : Int32) (o_f_t_forms : Nat → Int64) (hF : F_X7_set c_t_acts f_t_forms p0 p1 = some (xc, r0, o_c_t_acts, o_f_t_forms)) : vx_Met l yX7_set wsX7_set rmX7_set (va_Pc [.ref a_t, .int p0, .int p1] (wPX D [(cyJ, .long)] [(a_t, .inr (6, [.ref a_t_forms, .ref a_t_roll, .ref a_t_row, .ref a_t_rows, .ref a_t_factors, .ref a_t_found, .ref a_t_foundOtherwise, .int c_t_acts, .int c_t_refusals, .int c_t_knocks])), (a_t_forms, .inl (cyJ, 6, .inr (.inl f_t_forms)))] sz)) (va_Qi (fun (r : Int32) (_ : Unit) => xc = 0 ∧ r = r0) (fun _ t => wQA D [(a_t, .inr (6, [.ref a_t_forms, .ref a_t_roll, .ref a_t_row, .ref a_t_rows, .ref a_t_factors, .ref a_t_found, .ref a_t_foundOtherwise, .int o_c_t_acts, .int c_t_refusals, .int c_t_knocks])), (a_t_forms, .inl (cyJ, 6, .inr (.inl o_f_t_forms)))] (va_A [(a_t, .inr (6, [.ref a_t_forms, .ref a_t_roll, .ref a_t_row, .ref a_t_rows, .ref a_t_factors, .ref a_t_found, .ref a_t_foundOtherwise, .int c_t_acts, .int c_t_refusals, .int c_t_knocks])), (a_t_forms, .inl (cyJ, 6, .inr (.inl f_t_forms)))] sz) t) (va_A [(a_t, .inr (6, [.ref a_t_forms, .ref a_t_roll, .ref a_t_row, .ref a_t_rows, .ref a_t_factors, .ref a_t_found, .ref a_t_foundOtherwise, .int c_t_acts, .int c_t_refusals, .int c_t_knocks])), (a_t_forms, .inl (cyJ, 6, .inr (.inl f_t_forms)))] sz)) (vx_X (fun (_ : Unit) => ¬ xc = 0) (fun E _ t => E = xcls xc ∧ wQA D [(a_t, .inr (6, [.ref a_t_forms, .ref a_t_roll, .ref a_t_row, .ref a_t_rows, .ref a_t_factors, .ref a_t_found, .ref a_t_foundOtherwise, .int o_c_t_acts, .int c_t_refusals, .int c_t_knocks])), (a_t_forms, .inl (cyJ, 6, .inr (.inl o_f_t_forms)))] (va_A [(a_t, .inr (6, [.ref a_t_forms, .ref a_t_roll, .ref a_t_row, .ref a_t_rows, .ref a_t_factors, .ref a_t_found, .ref a_t_foundOtherwise, .int c_t_acts, .int c_t_refusals, .int c_t_knocks])), (a_t_forms, .inl (cyJ, 6, .inr (.inl f_t_forms)))] sz) t) (va_A [(a_t, .inr (6, [.ref a_t_forms, .ref a_t_roll, .ref a_t_row, .ref a_t_rows, .ref a_t_factors, .ref a_t_found, .ref a_t_foundOtherwise, .int c_t_acts, .int c_t_refusals, .int c_t_knocks])), (a_t_forms, .inl (cyJ, 6, .inr (.inl f_t_forms)))] sz)) 2 12 (va_A [(a_t, .inr (6, [.ref a_t_forms, .ref a_t_roll, .ref a_t_row, .ref a_t_rows, .ref a_t_factors, .ref a_t_found, .ref a_t_foundOtherwise, .int c_t_acts, .int c_t_refusals, .int c_t_knocks])), (a_t_forms, .inl (cyJ, 6, .inr (.inl f_t_forms)))] sz) := by
  refine vx_ofW (cc := ccode) (maxL := 4) (ret := (some .int)) (by decide) rfl ?_
  intro p e s m args below meth c s₁ B hml hxt hv
  obtain ⟨rfl, ⟨hsz, hP, hK, hD0, hnw⟩, hE⟩ := hv
  have hx := B.exec
  have hb := B.bytes
  have hr := B.returns
  have hts := atoms_spec (ws := wsX7_set) B.pre
  have hown : s.vm.findClass RX7 = some m.cls := findClass_of_methodNamed B.named
  have hlocks := B.notSynchronized
  have hcf : CallFix _ _ _ _ _ _ _ _ _ := ⟨hx, hb, hml, hown, hts⟩
  have hinX7 : ∀ w ∈ u_ws RX7 TX7 10, w ∈ wsX7_set := by decide +kernel
  have hfl9 := hts (.fieldLink RX7 9 "Formwheel" "forms" "[J") (by decide +kernel)
  subst hsz
  have hD := hD0.self (sz := s.heap.size)
  generalize hAe : va_A [(a_t, .inr (6, [.ref a_t_forms, .ref a_t_roll, .ref a_t_row, .ref a_t_rows, .ref a_t_factors, .ref a_t_found, .ref a_t_foundOtherwise, .int c_t_acts, .int c_t_refusals, .int c_t_knocks])), (a_t_forms, .inl (cyJ, 6, .inr (.inl f_t_forms)))] s.heap.size = A at hD hE ⊢
  have hA : ∀ q : Nat, s.heap.size ≤ q → A q := fun q h => by rw [← hAe]; exact Or.inr h
  have hS : va_S A s.heap s.heap [] := va_S.rf
  have hP : va_P D vwCl [(a_t, .inr (6, [.ref a_t_forms, .ref a_t_roll, .ref a_t_row, .ref a_t_rows, .ref a_t_factors, .ref a_t_found, .ref a_t_foundOtherwise, .int c_t_acts, .int c_t_refusals, .int c_t_knocks])), (a_t_forms, .inl (cyJ, 6, .inr (.inl f_t_forms)))] s.heap := hP
  have hK0 := hK
  have hl := lv_entry ([.ref a_t, .int p0, .int p1]) (n := 4) (Nat.le_of_ble_eq_true rfl)
  rw [lg_entry_eq]
  generalize (lg_sl ([.ref a_t, .int p0, .int p1]) ++ List.replicate (4 - (lg_sl ([.ref a_t, .int p0, .int p1])).length) Slot.unset).toArray = ls at hl ⊢
  have hl : lv_has ls 4 [(0, .ref a_t), (1, .int p0), (2, .int p1)] := hl
  have h := hF
  clear hF
  unfold F_X7_set at h
  refine lv_iload_n hx hb dX7_set_0 rfl (lv_at hl 1 rfl) ?_
  obtain ⟨xc1, hc1, h⟩ := obn_h h
  have hPc := hP.sub (ws' := []) [] rfl
  have hDc := hD.sub (ws' := []) [] (by decide) rfl
  refine hx_v (w1 := []) (wr := [(a_t, .inr (6, [.ref a_t_forms, .ref a_t_roll, .ref a_t_row, .ref a_t_rows, .ref a_t_factors, .ref a_t_found, .ref a_t_foundOtherwise, .int c_t_acts, .int c_t_refusals, .int c_t_knocks])), (a_t_forms, .inl (cyJ, 6, .inr (.inl f_t_forms)))]) (vx_runS (As := [.int p0]) (rest := []) hcf (c_X7_testForm l hfl D cyJ s.heap.size p0 xc1 hc1) (va_cwS 1 hts gX7_set_X7_testForm rfl rfl rfl ydX7_testForm ⟨Nat.le_of_ble_eq_true rfl, Nat.le_of_ble_eq_true rfl⟩) ⟨bl_PX, pr_PX hPc hK0 hDc hnw hE hS (va_free hD hS hA [] rfl)⟩ rfl rfl hl.1 rfl (lv_room (Nat.le_of_ble_eq_true rfl)) dX7_set_1 ⟨Nat.le_of_ble_eq_true rfl, Nat.le_of_ble_eq_true rfl⟩) hP hD hS hA [] [0, 1] rfl rfl (by decide) (by decide) (fun E9 ce9 q9 H locs hx9 hE9 hP hD hS hce9 hcv9 hcl9 => ?_) (fun hx9 H locs hP hD hS => ?_)
  · have h := if_ hx9 h
    have hP : va_P D vwCl [(a_t, .inr (6, [.ref a_t_forms, .ref a_t_roll, .ref a_t_row, .ref a_t_rows, .ref a_t_factors, .ref a_t_found, .ref a_t_foundOtherwise, .int c_t_acts, .int c_t_refusals, .int c_t_knocks])), (a_t_forms, .inl (cyJ, 6, .inr (.inl f_t_forms)))] H := hP
    have hD : va_D A [(a_t, .inr (6, [.ref a_t_forms, .ref a_t_roll, .ref a_t_row, .ref a_t_rows, .ref a_t_factors, .ref a_t_found, .ref a_t_foundOtherwise, .int c_t_acts, .int c_t_refusals, .int c_t_knocks])), (a_t_forms, .inl (cyJ, 6, .inr (.inl f_t_forms)))] := hD
    obtain ⟨e0, e1, e2, e3⟩ := tup4 h
    subst e0
    subst e1
    subst e2
    subst e3
    have hP9 : va_P D vwCl [(a_t, .inr (6, [.ref a_t_forms, .ref a_t_roll, .ref a_t_row, .ref a_t_rows, .ref a_t_factors, .ref a_t_found, .ref a_t_foundOtherwise, .int c_t_acts, .int c_t_refusals, .int c_t_knocks])), (a_t_forms, .inl (cyJ, 6, .inr (.inl f_t_forms)))] H := hP.sub [0, 1] rfl
    have hD9 : va_D A [(a_t, .inr (6, [.ref a_t_forms, .ref a_t_roll, .ref a_t_row, .ref a_t_rows, .ref a_t_factors, .ref a_t_found, .ref a_t_foundOtherwise, .int c_t_acts, .int c_t_refusals, .int c_t_knocks])), (a_t_forms, .inl (cyJ, 6, .inr (.inl f_t_forms)))] := hD.sub [0, 1] (by decide) rfl
    exact vx_out (fun x hx => (hxt x hx).elim) hlocks hce9 hcv9 hcl9 (fun t ht hW => ⟨(), hx9, ⟨hE9, wQA_of ht hP9 hD9⟩, hS.F ht⟩) hS.2.2 (Nat.le_of_ble_eq_true rfl) (Nat.le_of_ble_eq_true rfl)
  · have h := it_ hx9 h
    have hP : va_P D vwCl [(a_t, .inr (6, [.ref a_t_forms, .ref a_t_roll, .ref a_t_row, .ref a_t_rows, .ref a_t_factors, .ref a_t_found, .ref a_t_foundOtherwise, .int c_t_acts, .int c_t_refusals, .int c_t_knocks])), (a_t_forms, .inl (cyJ, 6, .inr (.inl f_t_forms)))] H := hP
    have hD : va_D A [(a_t, .inr (6, [.ref a_t_forms, .ref a_t_roll, .ref a_t_row, .ref a_t_rows, .ref a_t_factors, .ref a_t_found, .ref a_t_foundOtherwise, .int c_t_acts, .int c_t_refusals, .int c_t_knocks])), (a_t_forms, .inl (cyJ, 6, .inr (.inl f_t_forms)))] := hD
    refine lv_iload_n hx hb dX7_set_4 rfl (lv_at hl 2 rfl) ?_
    refine lv_iconst (v := 0) hx hb dX7_set_5 (by decide) ?_
    refine lv_ldc hx hb hown (hts (.constant RX7 61 (2147483647)) (by decide +kernel)) dX7_set_6 ?_
    obtain ⟨xc8, hc8, h⟩ := obn_h h
    have hPc := hP.sub (ws' := []) [] rfl
    have hDc := hD.sub (ws' := []) [] (by decide) rfl
    refine hx_v (w1 := []) (wr := [(a_t, .inr (6, [.ref a_t_forms, .ref a_t_roll, .ref a_t_row, .ref a_t_rows, .ref a_t_factors, .ref a_t_found, .ref a_t_foundOtherwise, .int c_t_acts, .int c_t_refusals, .int c_t_knocks])), (a_t_forms, .inl (cyJ, 6, .inr (.inl f_t_forms)))]) (vx_runS (As := [.int p1, .int (0 : Int32), .int (2147483647 : Int32)]) (rest := []) hcf (c_X7_testRange l hfl D cyJ H.size p1 ((0 : Int32)) ((2147483647 : Int32)) xc8 hc8) (va_cwS 3 hts gX7_set_X7_testRange rfl rfl rfl ydX7_testRange ⟨Nat.le_of_ble_eq_true rfl, Nat.le_of_ble_eq_true rfl⟩) ⟨bl_PX, pr_PX hPc hK0 hDc hnw hE hS (va_free hD hS hA [] rfl)⟩ rfl rfl hl.1 rfl (lv_room (Nat.le_of_ble_eq_true rfl)) dX7_set_8 ⟨Nat.le_of_ble_eq_true rfl, Nat.le_of_ble_eq_true rfl⟩) hP hD hS hA [] [0, 1] rfl rfl (by decide) (by decide) (fun E9 ce9 q9 H locs hx9 hE9 hP hD hS hce9 hcv9 hcl9 => ?_) (fun hx9 H locs hP hD hS => ?_)
    · have h := if_ hx9 h
      have hP : va_P D vwCl [(a_t, .inr (6, [.ref a_t_forms, .ref a_t_roll, .ref a_t_row, .ref a_t_rows, .ref a_t_factors, .ref a_t_found, .ref a_t_foundOtherwise, .int c_t_acts, .int c_t_refusals, .int c_t_knocks])), (a_t_forms, .inl (cyJ, 6, .inr (.inl f_t_forms)))] H := hP
      have hD : va_D A [(a_t, .inr (6, [.ref a_t_forms, .ref a_t_roll, .ref a_t_row, .ref a_t_rows, .ref a_t_factors, .ref a_t_found, .ref a_t_foundOtherwise, .int c_t_acts, .int c_t_refusals, .int c_t_knocks])), (a_t_forms, .inl (cyJ, 6, .inr (.inl f_t_forms)))] := hD
      obtain ⟨e0, e1, e2, e3⟩ := tup4 h
      subst e0
      subst e1
      subst e2
      subst e3
      have hP9 : va_P D vwCl [(a_t, .inr (6, [.ref a_t_forms, .ref a_t_roll, .ref a_t_row, .ref a_t_rows, .ref a_t_factors, .ref a_t_found, .ref a_t_foundOtherwise, .int c_t_acts, .int c_t_refusals, .int c_t_knocks])), (a_t_forms, .inl (cyJ, 6, .inr (.inl f_t_forms)))] H := hP.sub [0, 1] rfl
      have hD9 : va_D A [(a_t, .inr (6, [.ref a_t_forms, .ref a_t_roll, .ref a_t_row, .ref a_t_rows, .ref a_t_factors, .ref a_t_found, .ref a_t_foundOtherwise, .int c_t_acts, .int c_t_refusals, .int c_t_knocks])), (a_t_forms, .inl (cyJ, 6, .inr (.inl f_t_forms)))] := hD.sub [0, 1] (by decide) rfl
      exact vx_out (fun x hx => (hxt x hx).elim) hlocks hce9 hcv9 hcl9 (fun t ht hW => ⟨(), hx9, ⟨hE9, wQA_of ht hP9 hD9⟩, hS.F ht⟩) hS.2.2 (Nat.le_of_ble_eq_true rfl) (Nat.le_of_ble_eq_true rfl)
    · have h := it_ hx9 h
      have hP : va_P D vwCl [(a_t, .inr (6, [.ref a_t_forms, .ref a_t_roll, .ref a_t_row, .ref a_t_rows, .ref a_t_factors, .ref a_t_found, .ref a_t_foundOtherwise, .int c_t_acts, .int c_t_refusals, .int c_t_knocks])), (a_t_forms, .inl (cyJ, 6, .inr (.inl f_t_forms)))] H := hP
      have hD : va_D A [(a_t, .inr (6, [.ref a_t_forms, .ref a_t_roll, .ref a_t_row, .ref a_t_rows, .ref a_t_factors, .ref a_t_found, .ref a_t_foundOtherwise, .int c_t_acts, .int c_t_refusals, .int c_t_knocks])), (a_t_forms, .inl (cyJ, 6, .inr (.inl f_t_forms)))] := hD
      refine lv_aload_n hx hb dX7_set_11 rfl (lv_at hl 0 rfl) ?_
      refine va_get (D := D) (ci := 6) (v := .ref a_t_forms) (C := RX7) (T := TX7) (N := 10) hx hb hts hinX7 hown hK hP 0 rfl rfl 0 (by decide) hfl9 (fun _ h9 => h9) rfl dX7_set_12 ?_
      refine lv_iload_n hx hb dX7_set_15 rfl (lv_at hl 1 rfl) ?_
      obtain ⟨hq16, h⟩ := chk_h h
      refine va_lald hx hb hK hP 1 0 rfl rfl hq16 dX7_set_16 ?_
      obtain ⟨r17, hc17, h⟩ := obn_h h
      refine pz_callS (As := [.long f_t_forms p0.toNatClampNeg]) (rest := []) hcf (c_X0_degreeOf l (f_t_forms p0.toNatClampNeg) r17 hc17) (va_cwS 1 hts gX7_set_X0_degreeOf rfl rfl rfl ydX0_degreeOf ⟨Nat.le_of_ble_eq_true rfl, Nat.le_of_ble_eq_true rfl⟩) hnw rfl hl.1 rfl (Nat.le_of_ble_eq_true rfl) dX7_set_17 ⟨Nat.le_of_ble_eq_true rfl, Nat.le_of_ble_eq_true rfl⟩ ?_
      refine lv_istore_n (lv' := [(3, .int r17), (0, .ref a_t), (1, .int p0), (2, .int p1)]) hx hb dX7_set_20 rfl hl (by decide) rfl (fun ls hl => ?_)
      refine lv_aload_n hx hb dX7_set_21 rfl (lv_at hl 1 rfl) ?_
      refine va_get (D := D) (ci := 6) (v := .ref a_t_forms) (C := RX7) (T := TX7) (N := 10) hx hb hts hinX7 hown hK hP 0 rfl rfl 0 (by decide) hfl9 (fun _ h9 => h9) rfl dX7_set_22 ?_
      refine lv_iload_n hx hb dX7_set_25 rfl (lv_at hl 2 rfl) ?_
      refine lv_iload_n hx hb dX7_set_26 rfl (lv_at hl 3 rfl) ?_
      refine lv_i2l (v := p1.toInt64) hx hb dX7_set_27 rfl ?_
      obtain ⟨hq28, h⟩ := chk_h h
      refine va_last hx hb hK hP hD hS 1 0 rfl rfl hq28 dX7_set_28 (fun H locs hP hD hS => ?_)
      obtain ⟨f_t_forms_28, e_f_t_forms_28⟩ : ∃ z, z = vp_updL f_t_forms p0.toNatClampNeg p1.toInt64 := ⟨_, rfl⟩
      have h := bnd_h e_f_t_forms_28 h
      have hP : va_P D vwCl [(a_t, .inr (6, [.ref a_t_forms, .ref a_t_roll, .ref a_t_row, .ref a_t_rows, .ref a_t_factors, .ref a_t_found, .ref a_t_foundOtherwise, .int c_t_acts, .int c_t_refusals, .int c_t_knocks])), (a_t_forms, .inl (cyJ, 6, .inr (.inl f_t_forms_28)))] H := by rw [e_f_t_forms_28]; exact hP
      have hD : va_D A [(a_t, .inr (6, [.ref a_t_forms, .ref a_t_roll, .ref a_t_row, .ref a_t_rows, .ref a_t_factors, .ref a_t_found, .ref a_t_foundOtherwise, .int c_t_acts, .int c_t_refusals, .int c_t_knocks])), (a_t_forms, .inl (cyJ, 6, .inr (.inl f_t_forms_28)))] := by rw [e_f_t_forms_28]; exact hD
      refine lv_aload_n hx hb dX7_set_29 rfl (lv_at hl 1 rfl) ?_
      refine lv_iload_n hx hb dX7_set_30 rfl (lv_at hl 0 rfl) ?_
      obtain ⟨r31, c_t_acts_31, hc31, h⟩ := obn2_h h
      have hPc := hP.sub (ws' := [(a_t, .inr (6, [.ref a_t_forms, .ref a_t_roll, .ref a_t_row, .ref a_t_rows, .ref a_t_factors, .ref a_t_found, .ref a_t_foundOtherwise, .int c_t_acts, .int c_t_refusals, .int c_t_knocks]))]) [0] rfl
      have hDc := hD.sub (ws' := [(a_t, .inr (6, [.ref a_t_forms, .ref a_t_roll, .ref a_t_row, .ref a_t_rows, .ref a_t_factors, .ref a_t_found, .ref a_t_foundOtherwise, .int c_t_acts, .int c_t_refusals, .int c_t_knocks]))]) [0] (by decide) rfl
      refine hp_i (w1 := [(a_t, .inr (6, [.ref a_t_forms, .ref a_t_roll, .ref a_t_row, .ref a_t_rows, .ref a_t_factors, .ref a_t_found, .ref a_t_foundOtherwise, .int c_t_acts_31, .int c_t_refusals, .int c_t_knocks]))]) (wr := [(a_t_forms, .inl (cyJ, 6, .inr (.inl f_t_forms_28)))]) (va_runV (As := [.int r17]) (rest := []) hcf (c_X7_done l D cyJ H.size a_t a_t_forms a_t_roll a_t_row a_t_rows a_t_factors a_t_found a_t_foundOtherwise c_t_acts c_t_refusals c_t_knocks r17 r31 c_t_acts_31 hc31) (cwV 1 hts gX7_set_X7_done rfl rfl rfl ydX7_done ⟨Nat.le_of_ble_eq_true rfl, Nat.le_of_ble_eq_true rfl⟩) ⟨bl_PD, va_recv hK hP (ci := 6) (q0 := 0) rfl rfl, pr_PD hPc hK0 hDc hnw⟩ rfl rfl hl.1 rfl (lv_room (Nat.le_of_ble_eq_true rfl)) dX7_set_31 ⟨Nat.le_of_ble_eq_true rfl, Nat.le_of_ble_eq_true rfl⟩) hP hD hS hA [0] [1] rfl rfl (by decide) (by decide) (fun H locs hP hD hS => ?_)
      have hP : va_P D vwCl [(a_t_forms, .inl (cyJ, 6, .inr (.inl f_t_forms_28))), (a_t, .inr (6, [.ref a_t_forms, .ref a_t_roll, .ref a_t_row, .ref a_t_rows, .ref a_t_factors, .ref a_t_found, .ref a_t_foundOtherwise, .int c_t_acts_31, .int c_t_refusals, .int c_t_knocks]))] H := hP
      have hD : va_D A [(a_t_forms, .inl (cyJ, 6, .inr (.inl f_t_forms_28))), (a_t, .inr (6, [.ref a_t_forms, .ref a_t_roll, .ref a_t_row, .ref a_t_rows, .ref a_t_factors, .ref a_t_found, .ref a_t_foundOtherwise, .int c_t_acts_31, .int c_t_refusals, .int c_t_knocks]))] := hD
      obtain ⟨e0, e1, e2, e3⟩ := tup4 h
      subst e0
      subst e1
      subst e2
      subst e3
      have hP9 : va_P D vwCl [(a_t, .inr (6, [.ref a_t_forms, .ref a_t_roll, .ref a_t_row, .ref a_t_rows, .ref a_t_factors, .ref a_t_found, .ref a_t_foundOtherwise, .int c_t_acts_31, .int c_t_refusals, .int c_t_knocks])), (a_t_forms, .inl (cyJ, 6, .inr (.inl f_t_forms_28)))] H := hP.sub [1, 0] rfl
      have hD9 : va_D A [(a_t, .inr (6, [.ref a_t_forms, .ref a_t_roll, .ref a_t_row, .ref a_t_rows, .ref a_t_factors, .ref a_t_found, .ref a_t_foundOtherwise, .int c_t_acts_31, .int c_t_refusals, .int c_t_knocks])), (a_t_forms, .inl (cyJ, 6, .inr (.inl f_t_forms_28)))] := hD.sub [1, 0] (by decide) rfl
      refine vx_ret ?_
      exact W.iret hx hb hr (fun t ht hW => ⟨⟨_, (), rfl, ⟨rfl, rfl⟩, wQA_of ht hP9 hD9⟩, hS.F ht⟩) hS.2.2 dX7_set_34

abbrev rmX3_removeAt : Room := { frames := 0, cells := 0, slots := 0, locals := 0 }
theorem ydX3_removeAt : yX3_removeAt.cls = RX3 ∧ yX3_removeAt.cls ≠ "java/lang/invoke/MethodHandle" ∧ yX3_removeAt.cls ≠ "java/lang/invoke/VarHandle" ∧ (parseMethodDescriptor yX3_removeAt.desc).map (fun d => d.parameters.length) = some 1 := by decide +kernel
def S_X3_removeAt_17 (c_t_size_z17 : Int32) (k45 : (Nat → Int64) → Option (Int32 × (Nat → Int64))) (ih17 : Int32 → (Nat → Int64) → Option (Int32 × (Nat → Int64))) (y2_17 : Int32) (f_t_held_17 : Nat → Int64) : Option (Int32 × (Nat → Int64)) :=
 (if c_t_size_z17 ≤ y2_17 then
 k45 f_t_held_17
else
 chk (¬ (y2_17 < 0 ∨ 12 ≤ y2_17.toNatClampNeg)) (
 chk (¬ ((y2_17 - ((1 : Int32))) < 0 ∨ 12 ≤ (y2_17 - ((1 : Int32))).toNatClampNeg)) (
 bnd (vp_updL f_t_held_17 (y2_17 - ((1 : Int32))).toNatClampNeg (f_t_held_17 y2_17.toNatClampNeg)) (fun f_t_held_38 =>
 bnd (y2_17 + 1) (fun x2_39 =>
 ih17 x2_39 f_t_held_38)))))
def F_X3_removeAt (c_t_size : Int32) (f_t_held : Nat → Int64) (p0 : Int32) : Option (Int32 × (Nat → Int64)) :=
 (if p0 < 0 then
 some (c_t_size, f_t_held)
else
 (if p0 < c_t_size then
 bnd (p0 + ((1 : Int32))) (fun x2_16 =>
 LQ2 (S_X3_removeAt_17 c_t_size (fun f_t_held_17_45 =>
 bnd (c_t_size - ((1 : Int32))) (fun c_t_size_52 =>
 some (c_t_size_52, f_t_held_17_45)))) 20000 x2_16 f_t_held)
else
 some (c_t_size, f_t_held)))
set_option maxHeartbeats 4000000 in
set_option maxRecDepth 100000 in
theorem c_X3_removeAt (l : Launch) (D : va_G) (cyJ : ClassId) (sz : Nat) (a_t : Nat) (a_t_held : Nat) (a_t_before : Nat) (c_t_size : Int32) (f_t_held : Nat → Int64) (p0 : Int32) (o_c_t_size : Int32) (o_f_t_held : Nat → Int64) (hF : F_X3_removeAt c_t_size f_t_held p0 = some (o_c_t_size, o_f_t_held)) : Met l yX3_removeAt wsX3_removeAt rmX3_removeAt (va_Pc [.ref a_t, .int p0] (wPD D [(cyJ, .long)] [(a_t, .inr (3, [.ref a_t_held, .ref a_t_before, .int c_t_size])), (a_t_held, .inl (cyJ, 12, .inr (.inl f_t_held)))] sz)) (va_Qv (fun (_ : Unit) => True) (fun _ t => wQA D [(a_t, .inr (3, [.ref a_t_held, .ref a_t_before, .int o_c_t_size])), (a_t_held, .inl (cyJ, 12, .inr (.inl o_f_t_held)))] (va_A [(a_t, .inr (3, [.ref a_t_held, .ref a_t_before, .int c_t_size])), (a_t_held, .inl (cyJ, 12, .inr (.inl f_t_held)))] sz) t) (va_A [(a_t, .inr (3, [.ref a_t_held, .ref a_t_before, .int c_t_size])), (a_t_held, .inl (cyJ, 12, .inr (.inl f_t_held)))] sz)) 0 0 (va_A [(a_t, .inr (3, [.ref a_t_held, .ref a_t_before, .int c_t_size])), (a_t_held, .inl (cyJ, 12, .inr (.inl f_t_held)))] sz) := by
  refine Met.ofW (cc := ccode) (maxL := 3) (ret := none) (by decide) rfl ?_
  intro p e s m args below meth c s₁ B hml hv
  obtain ⟨rfl, hsz, hP, hK, hD0, hnw⟩ := hv
  have hx := B.exec
  have hb := B.bytes
  have hr := B.returns
  have hts := atoms_spec (ws := wsX3_removeAt) B.pre
  have hown : s.vm.findClass RX3 = some m.cls := findClass_of_methodNamed B.named
  have hlocks := B.notSynchronized
  have hcf : CallFix _ _ _ _ _ _ _ _ _ := ⟨hx, hb, hml, hown, hts⟩
  have hinX3 : ∀ w ∈ u_ws RX3 TX3 3, w ∈ wsX3_removeAt := by decide +kernel
  have hfl18 := hts (.fieldLink RX3 18 "Formwheel$Roll" "size" "I") (by decide +kernel)
  have hfl9 := hts (.fieldLink RX3 9 "Formwheel$Roll" "held" "[J") (by decide +kernel)
  subst hsz
  have hD := hD0.self (sz := s.heap.size)
  generalize hAe : va_A [(a_t, .inr (3, [.ref a_t_held, .ref a_t_before, .int c_t_size])), (a_t_held, .inl (cyJ, 12, .inr (.inl f_t_held)))] s.heap.size = A at hD ⊢
  have hA : ∀ q : Nat, s.heap.size ≤ q → A q := fun q h => by rw [← hAe]; exact Or.inr h
  have hS : va_S A s.heap s.heap [] := va_S.rf
  have hP : va_P D vwCl [(a_t, .inr (3, [.ref a_t_held, .ref a_t_before, .int c_t_size])), (a_t_held, .inl (cyJ, 12, .inr (.inl f_t_held)))] s.heap := hP
  have hK0 := hK
  have hl := lv_entry ([.ref a_t, .int p0]) (n := 3) (Nat.le_of_ble_eq_true rfl)
  rw [lg_entry_eq]
  generalize (lg_sl ([.ref a_t, .int p0]) ++ List.replicate (3 - (lg_sl ([.ref a_t, .int p0])).length) Slot.unset).toArray = ls at hl ⊢
  have hl : lv_has ls 3 [(0, .ref a_t), (1, .int p0)] := hl
  have h := hF
  clear hF
  unfold F_X3_removeAt at h
  refine lv_iload_n hx hb dX3_removeAt_0 rfl (lv_at hl 1 rfl) ?_
  refine lv_if_lt (tgt := 12) hx hb dX3_removeAt_1 (by decide) (fun c1 => ?_) (fun c1 => ?_)
  · have h := it_ c1 h
    obtain ⟨e0, e1⟩ := tup2 h
    subst e0
    subst e1
    have hP9 : va_P D vwCl [(a_t, .inr (3, [.ref a_t_held, .ref a_t_before, .int c_t_size])), (a_t_held, .inl (cyJ, 12, .inr (.inl f_t_held)))] s.heap := hP.sub [0, 1] rfl
    have hD9 : va_D A [(a_t, .inr (3, [.ref a_t_held, .ref a_t_before, .int c_t_size])), (a_t_held, .inl (cyJ, 12, .inr (.inl f_t_held)))] := hD.sub [0, 1] (by decide) rfl
    exact W.vret hx hb hr (fun t ht hW => ⟨⟨(), rfl, trivial, wQA_of ht hP9 hD9⟩, hS.F ht⟩) hS.2.2 dX3_removeAt_12
  · have h := if_ c1 h
    refine lv_iload_n hx hb dX3_removeAt_4 rfl (lv_at hl 1 rfl) ?_
    refine lv_aload_n hx hb dX3_removeAt_5 rfl (lv_at hl 0 rfl) ?_
    refine va_get (D := D) (ci := 3) (v := .int c_t_size) (C := RX3) (T := TX3) (N := 3) hx hb hts hinX3 hown hK hP 0 rfl rfl 2 (by decide) hfl18 (fun _ h9 => h9) rfl dX3_removeAt_6 ?_
    refine lv_icmp_lt (tgt := 13) hx hb dX3_removeAt_9 (by decide) (fun c9 => ?_) (fun c9 => ?_)
    · have h := it_ c9 h
      refine lv_iload_n hx hb dX3_removeAt_13 rfl (lv_at hl 1 rfl) ?_
      refine lv_iconst (v := 1) hx hb dX3_removeAt_14 (by decide) ?_
      refine lv_iadd hx hb dX3_removeAt_15 ?_
      refine lv_topi (fun x2_16 e_x2_16 => ?_)
      have h := bnd_h e_x2_16 h
      refine lv_istore_n (lv' := [(2, .int x2_16), (0, .ref a_t), (1, .int p0)]) hx hb dX3_removeAt_16 rfl hl (by decide) rfl (fun ls hl => ?_)
      refine LQ2_k1 (M := fun (y2_17 : Int32) (f_t_held_17 : Nat → Int64) => ∀ (H : Heap) (locs : List Loc), va_P D vwCl [(a_t, .inr (3, [.ref a_t_held, .ref a_t_before, .int c_t_size])), (a_t_held, .inl (cyJ, 12, .inr (.inl f_t_held_17)))] H → va_D A [(a_t, .inr (3, [.ref a_t_held, .ref a_t_before, .int c_t_size])), (a_t_held, .inl (cyJ, 12, .inr (.inl f_t_held_17)))] → va_S A s.heap H locs → ∀ (ls : Array Slot), lv_has ls 3 [(0, .ref a_t), (2, .int y2_17)] → W p l e rmX3_removeAt s m ([.ref a_t, .int p0] : List Value).toArray below meth c H locs 0 0 (MQ below (va_Qv (fun (_ : Unit) => True) (fun _ t => wQA D [(a_t, .inr (3, [.ref a_t_held, .ref a_t_before, .int o_c_t_size])), (a_t_held, .inl (cyJ, 12, .inr (.inl o_f_t_held)))] A t) A) ([.ref a_t, .int p0] : List Value).toArray s 0 0 A) (F0 m 17 ls [])) ?_ _ _ _ h _ _ hP hD hS ls (lv_sub hl [1, 0] rfl)
      intro k45 hk45 ih17 hih17 y2_17 f_t_held_17 h H locs hP hD hS ls hl
      unfold S_X3_removeAt_17 at h
      refine lv_iload_n hx hb dX3_removeAt_17 rfl (lv_at hl 1 rfl) ?_
      refine lv_aload_n hx hb dX3_removeAt_18 rfl (lv_at hl 0 rfl) ?_
      refine va_get (D := D) (ci := 3) (v := .int c_t_size) (C := RX3) (T := TX3) (N := 3) hx hb hts hinX3 hown hK hP 0 rfl rfl 2 (by decide) hfl18 (fun _ h9 => h9) rfl dX3_removeAt_19 ?_
      refine lv_icmp_ge (tgt := 45) hx hb dX3_removeAt_22 (by decide) (fun c22 => ?_) (fun c22 => ?_)
      · have h := it_ c22 h
        rw [hk45] at h
        refine lv_aload_n hx hb dX3_removeAt_45 rfl (lv_at hl 0 rfl) ?_
        refine lv_dup hx hb dX3_removeAt_46 rfl ?_
        refine va_get (D := D) (ci := 3) (v := .int c_t_size) (C := RX3) (T := TX3) (N := 3) hx hb hts hinX3 hown hK hP 0 rfl rfl 2 (by decide) hfl18 (fun _ h9 => h9) rfl dX3_removeAt_47 ?_
        refine lv_iconst (v := 1) hx hb dX3_removeAt_50 (by decide) ?_
        refine lv_isub hx hb dX3_removeAt_51 ?_
        refine lv_topi (fun c_t_size_52 e_c_t_size_52 => ?_)
        have h := bnd_h e_c_t_size_52 h
        refine va_put (D := D) (ci := 3) (v := .int c_t_size_52) (ty := .int) (C := RX3) (T := TX3) (N := 3) hx hb hts hinX3 tyX3 tyX3_ok nmX3 hown hK hP hD hS 0 rfl rfl 2 (by decide) hfl18 (fun _ h9 => h9) rfl (by decide +kernel) rfl rfl (Nat.le_of_ble_eq_true rfl) dX3_removeAt_52 (fun H locs hP hD hS => ?_)
        have hP : va_P D vwCl [(a_t, .inr (3, [.ref a_t_held, .ref a_t_before, .int c_t_size_52])), (a_t_held, .inl (cyJ, 12, .inr (.inl f_t_held_17)))] H := hP
        have hD : va_D A [(a_t, .inr (3, [.ref a_t_held, .ref a_t_before, .int c_t_size_52])), (a_t_held, .inl (cyJ, 12, .inr (.inl f_t_held_17)))] := hD
        obtain ⟨e0, e1⟩ := tup2 h
        subst e0
        subst e1
        have hP9 : va_P D vwCl [(a_t, .inr (3, [.ref a_t_held, .ref a_t_before, .int c_t_size_52])), (a_t_held, .inl (cyJ, 12, .inr (.inl f_t_held_17)))] H := hP.sub [0, 1] rfl
        have hD9 : va_D A [(a_t, .inr (3, [.ref a_t_held, .ref a_t_before, .int c_t_size_52])), (a_t_held, .inl (cyJ, 12, .inr (.inl f_t_held_17)))] := hD.sub [0, 1] (by decide) rfl
        exact W.vret hx hb hr (fun t ht hW => ⟨⟨(), rfl, trivial, wQA_of ht hP9 hD9⟩, hS.F ht⟩) hS.2.2 dX3_removeAt_55
      · have h := if_ c22 h
        refine lv_aload_n hx hb dX3_removeAt_25 rfl (lv_at hl 0 rfl) ?_
        refine va_get (D := D) (ci := 3) (v := .ref a_t_held) (C := RX3) (T := TX3) (N := 3) hx hb hts hinX3 hown hK hP 0 rfl rfl 0 (by decide) hfl9 (fun _ h9 => h9) rfl dX3_removeAt_26 ?_
        refine lv_iload_n hx hb dX3_removeAt_29 rfl (lv_at hl 1 rfl) ?_
        refine lv_iconst (v := 1) hx hb dX3_removeAt_30 (by decide) ?_
        refine lv_isub hx hb dX3_removeAt_31 ?_
        refine lv_aload_n hx hb dX3_removeAt_32 rfl (lv_at hl 0 rfl) ?_
        refine va_get (D := D) (ci := 3) (v := .ref a_t_held) (C := RX3) (T := TX3) (N := 3) hx hb hts hinX3 hown hK hP 0 rfl rfl 0 (by decide) hfl9 (fun _ h9 => h9) rfl dX3_removeAt_33 ?_
        refine lv_iload_n hx hb dX3_removeAt_36 rfl (lv_at hl 1 rfl) ?_
        obtain ⟨hq37, h⟩ := chk_h h
        refine va_lald hx hb hK hP 1 0 rfl rfl hq37 dX3_removeAt_37 ?_
        obtain ⟨hq38, h⟩ := chk_h h
        refine va_last hx hb hK hP hD hS 1 0 rfl rfl hq38 dX3_removeAt_38 (fun H locs hP hD hS => ?_)
        obtain ⟨f_t_held_38, e_f_t_held_38⟩ : ∃ z, z = vp_updL f_t_held_17 (y2_17 - ((1 : Int32))).toNatClampNeg (f_t_held_17 y2_17.toNatClampNeg) := ⟨_, rfl⟩
        have h := bnd_h e_f_t_held_38 h
        have hP : va_P D vwCl [(a_t, .inr (3, [.ref a_t_held, .ref a_t_before, .int c_t_size])), (a_t_held, .inl (cyJ, 12, .inr (.inl f_t_held_38)))] H := by rw [e_f_t_held_38]; exact hP
        have hD : va_D A [(a_t, .inr (3, [.ref a_t_held, .ref a_t_before, .int c_t_size])), (a_t_held, .inl (cyJ, 12, .inr (.inl f_t_held_38)))] := by rw [e_f_t_held_38]; exact hD
        obtain ⟨x2_39, e_x2_39⟩ : ∃ z : Int32, z = y2_17 + 1 := ⟨_, rfl⟩
        have h := bnd_h e_x2_39 h
        refine lv_iinc (v := x2_39) (lv' := [(2, .int x2_39), (0, .ref a_t)]) hx hb dX3_removeAt_39 hl (k := 1) rfl (by rw [e_x2_39]; rfl) (by decide) rfl (fun ls hl => ?_)
        refine lv_goto (tgt := 17) hx hb dX3_removeAt_42 (by decide) ?_
        exact hih17 x2_39 f_t_held_38 h _ _ (hP.sub [0, 1] rfl) (hD.sub [0, 1] (by decide) rfl) hS ls (lv_sub hl [1, 0] rfl)
    · have h := if_ c9 h
      obtain ⟨e0, e1⟩ := tup2 h
      subst e0
      subst e1
      have hP9 : va_P D vwCl [(a_t, .inr (3, [.ref a_t_held, .ref a_t_before, .int c_t_size])), (a_t_held, .inl (cyJ, 12, .inr (.inl f_t_held)))] s.heap := hP.sub [0, 1] rfl
      have hD9 : va_D A [(a_t, .inr (3, [.ref a_t_held, .ref a_t_before, .int c_t_size])), (a_t_held, .inl (cyJ, 12, .inr (.inl f_t_held)))] := hD.sub [0, 1] (by decide) rfl
      exact W.vret hx hb hr (fun t ht hW => ⟨⟨(), rfl, trivial, wQA_of ht hP9 hD9⟩, hS.F ht⟩) hS.2.2 dX3_removeAt_12

abbrev rmX3_hasEmpty : Room := { frames := 0, cells := 0, slots := 0, locals := 0 }
theorem ydX3_hasEmpty : yX3_hasEmpty.cls = RX3 ∧ yX3_hasEmpty.cls ≠ "java/lang/invoke/MethodHandle" ∧ yX3_hasEmpty.cls ≠ "java/lang/invoke/VarHandle" ∧ (parseMethodDescriptor yX3_hasEmpty.desc).map (fun d => d.parameters.length) = some 0 := by decide +kernel
def S_X3_hasEmpty_2 (c_t_size_z2 : Int32) (f_t_held_z2 : Nat → Int64) (k21 : Unit → Option (Int32)) (k29 : Unit → Option (Int32)) (ih2 : Int32 → Option (Int32)) (y1_2 : Int32) : Option (Int32) :=
 (if c_t_size_z2 ≤ y1_2 then
 k29 ()
else
 chk (¬ (y1_2 < 0 ∨ 12 ≤ y1_2.toNatClampNeg)) (
 (if (f_t_held_z2 y1_2.toNatClampNeg) = ((0 : Int64)) then
 k21 ()
else
 bnd (y1_2 + 1) (fun x1_23 =>
 ih2 x1_23))))
def F_X3_hasEmpty (c_t_size : Int32) (f_t_held : Nat → Int64) : Option (Int32) :=
 LQ1 (S_X3_hasEmpty_2 c_t_size f_t_held (fun _ =>
 some (1 : Int32)) (fun _ =>
 some (0 : Int32))) 20000 ((0 : Int32))
set_option maxHeartbeats 4000000 in
set_option maxRecDepth 100000 in
theorem c_X3_hasEmpty (l : Launch) (D : va_G) (cyJ : ClassId) (a_t : Nat) (a_t_held : Nat) (a_t_before : Nat) (c_t_size : Int32) (f_t_held : Nat → Int64) (r0 : Int32) (hF : F_X3_hasEmpty c_t_size f_t_held = some r0) : Met l yX3_hasEmpty wsX3_hasEmpty rmX3_hasEmpty (va_Pc [.ref a_t] (wPK D [(cyJ, .long)] [(a_t, .inr (3, [.ref a_t_held, .ref a_t_before, .int c_t_size])), (a_t_held, .inl (cyJ, 12, .inr (.inl f_t_held)))])) (k2_QcV (.int r0)) 0 0 (fun _ => False) := by
  refine Met.ofW (cc := ccode) (maxL := 2) (ret := (some .boolean)) (by decide) rfl ?_
  intro p e s m args below meth c s₁ B hml hv
  obtain ⟨rfl, hP, hK, hnw⟩ := hv
  have hx := B.exec
  have hb := B.bytes
  have hr := B.returns
  have hts := atoms_spec (ws := wsX3_hasEmpty) B.pre
  have hown : s.vm.findClass RX3 = some m.cls := findClass_of_methodNamed B.named
  have hlocks := B.notSynchronized
  have hcf : CallFix _ _ _ _ _ _ _ _ _ := ⟨hx, hb, hml, hown, hts⟩
  have hinX3 : ∀ w ∈ u_ws RX3 TX3 3, w ∈ wsX3_hasEmpty := by decide +kernel
  have hfl18 := hts (.fieldLink RX3 18 "Formwheel$Roll" "size" "I") (by decide +kernel)
  have hfl9 := hts (.fieldLink RX3 9 "Formwheel$Roll" "held" "[J") (by decide +kernel)
  have hK0 := hK
  have hl := lv_entry ([.ref a_t]) (n := 2) (Nat.le_of_ble_eq_true rfl)
  rw [lg_entry_eq]
  generalize (lg_sl ([.ref a_t]) ++ List.replicate (2 - (lg_sl ([.ref a_t])).length) Slot.unset).toArray = ls at hl ⊢
  have hl : lv_has ls 2 [(0, .ref a_t)] := hl
  have h := hF
  clear hF
  unfold F_X3_hasEmpty at h
  refine lv_iconst (v := 0) hx hb dX3_hasEmpty_0 (by decide) ?_
  refine lv_istore_n (lv' := [(1, .int (0 : Int32)), (0, .ref a_t)]) hx hb dX3_hasEmpty_1 rfl hl (by decide) rfl (fun ls hl => ?_)
  refine LQ1_k2 (M := fun (y1_2 : Int32) => ∀ (ls : Array Slot), lv_has ls 2 [(0, .ref a_t), (1, .int y1_2)] → W p l e rmX3_hasEmpty s m ([.ref a_t] : List Value).toArray below meth c s.heap [] 0 0 (MQ below (k2_QcV (.int r0)) ([.ref a_t] : List Value).toArray s 0 0 (fun _ => False)) (F0 m 2 ls [])) ?_ _ _ h ls (lv_sub hl [1, 0] rfl)
  intro k21 hk21 k29 hk29 ih2 hih2 y1_2 h ls hl
  unfold S_X3_hasEmpty_2 at h
  refine lv_iload_n hx hb dX3_hasEmpty_2 rfl (lv_at hl 1 rfl) ?_
  refine lv_aload_n hx hb dX3_hasEmpty_3 rfl (lv_at hl 0 rfl) ?_
  refine va_get (D := D) (ci := 3) (v := .int c_t_size) (C := RX3) (T := TX3) (N := 3) hx hb hts hinX3 hown hK hP 0 rfl rfl 2 (by decide) hfl18 (fun _ h9 => h9) rfl dX3_hasEmpty_4 ?_
  refine lv_icmp_ge (tgt := 29) hx hb dX3_hasEmpty_7 (by decide) (fun c7 => ?_) (fun c7 => ?_)
  · have h := it_ c7 h
    rw [hk29] at h
    refine lv_iconst (v := 0) hx hb dX3_hasEmpty_29 (by decide) ?_
    have e1 := Option.some.inj h
    subst e1
    exact W.zret hx hb hr narrow_b0 (fun t ht _ => ⟨rfl, ht⟩) no_q dX3_hasEmpty_30
  · have h := if_ c7 h
    refine lv_aload_n hx hb dX3_hasEmpty_10 rfl (lv_at hl 0 rfl) ?_
    refine va_get (D := D) (ci := 3) (v := .ref a_t_held) (C := RX3) (T := TX3) (N := 3) hx hb hts hinX3 hown hK hP 0 rfl rfl 0 (by decide) hfl9 (fun _ h9 => h9) rfl dX3_hasEmpty_11 ?_
    refine lv_iload_n hx hb dX3_hasEmpty_14 rfl (lv_at hl 1 rfl) ?_
    obtain ⟨hq15, h⟩ := chk_h h
    refine va_lald hx hb hK hP 1 0 rfl rfl hq15 dX3_hasEmpty_15 ?_
    refine lv_lconst (v := 0) hx hb dX3_hasEmpty_16 (by decide) ?_
    refine W.lcmp hx hb dX3_hasEmpty_17 ?_
    refine lv_if_ne (tgt := 23) hx hb dX3_hasEmpty_18 (by decide) (fun c18 => ?_) (fun c18 => ?_)
    · have c18 := fun z => c18 ((lg_cmp_eq _ _).mpr z)
      have h := if_ c18 h
      obtain ⟨x1_23, e_x1_23⟩ : ∃ z : Int32, z = y1_2 + 1 := ⟨_, rfl⟩
      have h := bnd_h e_x1_23 h
      refine lv_iinc (v := x1_23) (lv' := [(1, .int x1_23), (0, .ref a_t)]) hx hb dX3_hasEmpty_23 hl (k := 1) rfl (by rw [e_x1_23]; rfl) (by decide) rfl (fun ls hl => ?_)
      refine lv_goto (tgt := 2) hx hb dX3_hasEmpty_26 (by decide) ?_
      exact hih2 x1_23 h ls (lv_sub hl [1, 0] rfl)
    · have c18 := (lg_cmp_eq _ _).mp c18
      have h := it_ c18 h
      rw [hk21] at h
      refine lv_iconst (v := 1) hx hb dX3_hasEmpty_21 (by decide) ?_
      have e1 := Option.some.inj h
      subst e1
      exact W.zret hx hb hr narrow_b1 (fun t ht _ => ⟨rfl, ht⟩) no_q dX3_hasEmpty_22
