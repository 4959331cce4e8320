noncomputable abbrev rmX2_markOf : Room := { frames := 1, cells := 0, slots := 0, locals := 21 }
theorem ydX2_markOf : yX2_markOf.cls ≠ "java/lang/invoke/MethodHandle" ∧ yX2_markOf.cls ≠ "java/lang/invoke/VarHandle" ∧ (parseMethodDescriptor yX2_markOf.desc).map (fun d => d.parameters.length) = some 1 := by decide +kernel
noncomputable def S_X2_markOf_4 (z0_4 : Int32) (k17 : Unit → Option (Int32)) (k41 : Int32 → Option (Int32)) (ih4 : Int32 → Int32 → Option (Int32)) (y1_4 : Int32) (y2_4 : Int32) : Option (Int32) :=
 (if z0_4 < y2_4 then
 k41 y1_4
else
 chk (¬ (y2_4 * y2_4) = 0) (
 (if (z0_4 - z0_4 / (y2_4 * y2_4) * (y2_4 * y2_4)) = 0 then
 k17 ()
else
 chk (¬ y2_4 = 0) (
 (if (z0_4 - z0_4 / y2_4 * y2_4) = 0 then
 obn (F_X2_isPrimeNumber y2_4) (fun r26 =>
 (if r26 = 0 then
 bnd (y2_4 + 1) (fun x2_35 =>
 ih4 y1_4 x2_35)
else
 bnd (-y1_4) (fun x1_34 =>
 bnd (y2_4 + 1) (fun x2_35 =>
 ih4 x1_34 x2_35))))
else
 bnd (y2_4 + 1) (fun x2_35 =>
 ih4 y1_4 x2_35))))))
noncomputable def F_X2_markOf (p0 : Int32) : Option (Int32) :=
 LQ2 (S_X2_markOf_4 p0 (fun _ =>
 some (0 : Int32)) (fun y1_4_41 =>
 some y1_4_41)) 20000 (1 : Int32) (2 : Int32)
set_option maxHeartbeats 4000000 in
set_option maxRecDepth 100000 in
theorem c_X2_markOf (l : Launch) (p0 : Int32) (r0 : Int32) (hF : F_X2_markOf p0 = some r0) : Met l yX2_markOf wsX2_markOf rmX2_markOf (va_Pc [.int p0] NW) (k2_QcV (.int r0)) 0 0 (fun _ => False) := by
  refine Met.ofW (cc := cX2_markOf) (maxL := 3) (ret := (some .int)) (by decide) rfl ?_
  intro p e s m args below meth c s₁ B hml hv
  obtain ⟨rfl, hnw⟩ := hv
  have hx := B.exec
  have hb := B.bytes
  have hr := B.returns
  have hts := atoms_spec (ws := wsX2_markOf) B.pre
  have hown : s.vm.findClass RX2 = some m.cls := findClass_of_methodNamed B.named
  have hlocks := B.notSynchronized
  have hcf : CallFix _ _ _ _ _ _ _ _ _ := ⟨hx, hb, hml, hown, hts⟩
  have hl := lv_entry ([.int p0]) (n := 3) (Nat.le_of_ble_eq_true rfl)
  rw [lg_entry_eq]
  generalize (lg_sl ([.int p0]) ++ List.replicate (3 - (lg_sl ([.int p0])).length) Slot.unset).toArray = ls at hl ⊢
  have hl : lv_has ls 3 [(0, .int p0)] := hl
  have h := hF
  clear hF
  unfold F_X2_markOf at h
  refine lv_iconst (v := 1) hx hb dX2_markOf_0 (by decide) ?_
  refine lv_istore_n (lv' := [(1, .int (1 : Int32)), (0, .int p0)]) hx hb dX2_markOf_1 rfl hl (by decide) rfl (fun ls hl => ?_)
  refine lv_iconst (v := 2) hx hb dX2_markOf_2 (by decide) ?_
  refine lv_istore_n (lv' := [(2, .int (2 : Int32)), (1, .int (1 : Int32)), (0, .int p0)]) hx hb dX2_markOf_3 rfl hl (by decide) rfl (fun ls hl => ?_)
  refine LQ2_k2 (M := fun (y1_4 : Int32) (y2_4 : Int32) => ∀ (ls : Array Slot), lv_has ls 3 [(0, .int p0), (1, .int y1_4), (2, .int y2_4)] → W p l e rmX2_markOf s m ([.int p0] : List Value).toArray below meth c s.heap [] 0 0 (MQ below (k2_QcV (.int r0)) ([.int p0] : List Value).toArray s 0 0 (fun _ => False)) (F0 m 4 ls [])) ?_ _ _ _ h ls (lv_sub hl [2, 1, 0] rfl)
  intro k17 hk17 k41 hk41 ih4 hih4 y1_4 y2_4 h ls hl
  unfold S_X2_markOf_4 at h
  refine lv_iload_n hx hb dX2_markOf_4 rfl (lv_at hl 2 rfl) ?_
  refine lv_iload_n hx hb dX2_markOf_5 rfl (lv_at hl 0 rfl) ?_
  refine lv_icmp_gt (tgt := 41) hx hb dX2_markOf_6 (by decide) (fun c6 => ?_) (fun c6 => ?_)
  · have h := it_ c6 h
    rw [hk41] at h
    refine lv_iload_n hx hb dX2_markOf_41 rfl (lv_at hl 1 rfl) ?_
    have e1 := Option.some.inj h
    subst e1
    exact W.iret hx hb hr (fun t ht _ => ⟨rfl, ht⟩) no_q dX2_markOf_42
  · have h := if_ c6 h
    refine lv_iload_n hx hb dX2_markOf_9 rfl (lv_at hl 0 rfl) ?_
    refine lv_iload_n hx hb dX2_markOf_10 rfl (lv_at hl 2 rfl) ?_
    refine lv_iload_n hx hb dX2_markOf_11 rfl (lv_at hl 2 rfl) ?_
    refine lv_imul hx hb dX2_markOf_12 ?_
    obtain ⟨hq13, h⟩ := chk_h h
    refine lv_irem hx hb dX2_markOf_13 hq13 ?_
    refine lv_if_ne (tgt := 19) hx hb dX2_markOf_14 (by decide) (fun c14 => ?_) (fun c14 => ?_)
    · have h := if_ c14 h
      refine lv_iload_n hx hb dX2_markOf_19 rfl (lv_at hl 0 rfl) ?_
      refine lv_iload_n hx hb dX2_markOf_20 rfl (lv_at hl 2 rfl) ?_
      obtain ⟨hq21, h⟩ := chk_h h
      refine lv_irem hx hb dX2_markOf_21 hq21 ?_
      refine lv_if_ne (tgt := 35) hx hb dX2_markOf_22 (by decide) (fun c22 => ?_) (fun c22 => ?_)
      · have h := if_ c22 h
        obtain ⟨x2_35, e_x2_35⟩ : ∃ z : Int32, z = y2_4 + 1 := ⟨_, rfl⟩
        have h := bnd_h e_x2_35 h
        refine lv_iinc (v := x2_35) (lv' := [(2, .int x2_35), (0, .int p0), (1, .int y1_4)]) hx hb dX2_markOf_35 hl (k := 2) rfl (by rw [e_x2_35]; rfl) (by decide) rfl (fun ls hl => ?_)
        refine lv_goto (tgt := 4) hx hb dX2_markOf_38 (by decide) ?_
        exact hih4 y1_4 x2_35 h ls (lv_sub hl [1, 2, 0] rfl)
      · have h := it_ c22 h
        refine lv_iload_n hx hb dX2_markOf_25 rfl (lv_at hl 2 rfl) ?_
        obtain ⟨r26, hc26, h⟩ := obn_h h
        refine pz_callS (As := [.int y2_4]) (rest := []) hcf (c_X2_isPrimeNumber l y2_4 r26 hc26) (va_cwS 1 hts gX2_markOf_X2_isPrimeNumber rfl rfl rfl ydX2_isPrimeNumber ⟨Nat.le_of_ble_eq_true rfl, Nat.le_of_ble_eq_true rfl⟩) hnw rfl hl.1 rfl (Nat.le_of_ble_eq_true rfl) dX2_markOf_26 ⟨Nat.le_of_ble_eq_true rfl, Nat.le_of_ble_eq_true rfl⟩ ?_
        refine lv_if_eq (tgt := 35) hx hb dX2_markOf_29 (by decide) (fun c29 => ?_) (fun c29 => ?_)
        · have h := it_ c29 h
          obtain ⟨x2_35, e_x2_35⟩ : ∃ z : Int32, z = y2_4 + 1 := ⟨_, rfl⟩
          have h := bnd_h e_x2_35 h
          refine lv_iinc (v := x2_35) (lv' := [(2, .int x2_35), (0, .int p0), (1, .int y1_4)]) hx hb dX2_markOf_35 hl (k := 2) rfl (by rw [e_x2_35]; rfl) (by decide) rfl (fun ls hl => ?_)
          refine lv_goto (tgt := 4) hx hb dX2_markOf_38 (by decide) ?_
          exact hih4 y1_4 x2_35 h ls (lv_sub hl [1, 2, 0] rfl)
        · have h := if_ c29 h
          refine lv_iload_n hx hb dX2_markOf_32 rfl (lv_at hl 1 rfl) ?_
          refine lv_ineg hx hb dX2_markOf_33 ?_
          refine lv_topi (fun x1_34 e_x1_34 => ?_)
          have h := bnd_h e_x1_34 h
          refine lv_istore_n (lv' := [(1, .int x1_34), (0, .int p0), (2, .int y2_4)]) hx hb dX2_markOf_34 rfl hl (by decide) rfl (fun ls hl => ?_)
          obtain ⟨x2_35, e_x2_35⟩ : ∃ z : Int32, z = y2_4 + 1 := ⟨_, rfl⟩
          have h := bnd_h e_x2_35 h
          refine lv_iinc (v := x2_35) (lv' := [(2, .int x2_35), (1, .int x1_34), (0, .int p0)]) hx hb dX2_markOf_35 hl (k := 2) rfl (by rw [e_x2_35]; rfl) (by decide) rfl (fun ls hl => ?_)
          refine lv_goto (tgt := 4) hx hb dX2_markOf_38 (by decide) ?_
          exact hih4 x1_34 x2_35 h ls (lv_sub hl [2, 1, 0] rfl)
    · have h := it_ c14 h
      rw [hk17] at h
      refine lv_iconst (v := 0) hx hb dX2_markOf_17 (by decide) ?_
      have e1 := Option.some.inj h
      subst e1
      exact W.iret hx hb hr (fun t ht _ => ⟨rfl, ht⟩) no_q dX2_markOf_18

noncomputable abbrev rmX2_howManyBySum : Room := { frames := 2, cells := 0, slots := 0, locals := 43 }
theorem ydX2_howManyBySum : yX2_howManyBySum.cls ≠ "java/lang/invoke/MethodHandle" ∧ yX2_howManyBySum.cls ≠ "java/lang/invoke/VarHandle" ∧ (parseMethodDescriptor yX2_howManyBySum.desc).map (fun d => d.parameters.length) = some 1 := by decide +kernel
noncomputable def S_X2_howManyBySum_11 (z0_11 : Int32) (k41 : Int32 → Option (Int32)) (ih11 : Int32 → Int32 → Option (Int32)) (y1_11 : Int32) (y2_11 : Int32) : Option (Int32) :=
 (if z0_11 < y2_11 then
 k41 y1_11
else
 chk (¬ y2_11 = 0) (
 (if (z0_11 - z0_11 / y2_11 * y2_11) = 0 then
 obn (F_X2_markOf y2_11) (fun r24 =>
 chk (¬ y2_11 = 0) (
 bnd (y1_11 + (r24 * ((1 : Int32) <<< ((z0_11 / y2_11) &&& 31)))) (fun x1_34 =>
 bnd (y2_11 + 1) (fun x2_35 =>
 ih11 x1_34 x2_35))))
else
 bnd (y2_11 + 1) (fun x2_35 =>
 ih11 y1_11 x2_35))))
noncomputable def F_X2_howManyBySum (p0 : Int32) : Option (Int32) :=
 (if (1 : Int32) ≤ p0 then
 LQ2 (S_X2_howManyBySum_11 p0 (fun y1_11_41 =>
 chk (¬ p0 = 0) (
 some (y1_11_41 / p0)))) 20000 (0 : Int32) (1 : Int32)
else
 some (0 : Int32))
set_option maxHeartbeats 4000000 in
set_option maxRecDepth 100000 in
theorem c_X2_howManyBySum (l : Launch) (p0 : Int32) (r0 : Int32) (hF : F_X2_howManyBySum p0 = some r0) : Met l yX2_howManyBySum wsX2_howManyBySum rmX2_howManyBySum (va_Pc [.int p0] NW) (k2_QcV (.int r0)) 0 0 (fun _ => False) := by
  refine Met.ofW (cc := cX2_howManyBySum) (maxL := 3) (ret := (some .int)) (by decide) rfl ?_
  intro p e s m args below meth c s₁ B hml hv
  obtain ⟨rfl, hnw⟩ := hv
  have hx := B.exec
  have hb := B.bytes
  have hr := B.returns
  have hts := atoms_spec (ws := wsX2_howManyBySum) B.pre
  have hown : s.vm.findClass RX2 = some m.cls := findClass_of_methodNamed B.named
  have hlocks := B.notSynchronized
  have hcf : CallFix _ _ _ _ _ _ _ _ _ := ⟨hx, hb, hml, hown, hts⟩
  have hl := lv_entry ([.int p0]) (n := 3) (Nat.le_of_ble_eq_true rfl)
  rw [lg_entry_eq]
  generalize (lg_sl ([.int p0]) ++ List.replicate (3 - (lg_sl ([.int p0])).length) Slot.unset).toArray = ls at hl ⊢
  have hl : lv_has ls 3 [(0, .int p0)] := hl
  have h := hF
  clear hF
  unfold F_X2_howManyBySum at h
  refine lv_iload_n hx hb dX2_howManyBySum_0 rfl (lv_at hl 0 rfl) ?_
  refine lv_iconst (v := 1) hx hb dX2_howManyBySum_1 (by decide) ?_
  refine lv_icmp_ge (tgt := 7) hx hb dX2_howManyBySum_2 (by decide) (fun c2 => ?_) (fun c2 => ?_)
  · have h := it_ c2 h
    refine lv_iconst (v := 0) hx hb dX2_howManyBySum_7 (by decide) ?_
    refine lv_istore_n (lv' := [(1, .int (0 : Int32)), (0, .int p0)]) hx hb dX2_howManyBySum_8 rfl hl (by decide) rfl (fun ls hl => ?_)
    refine lv_iconst (v := 1) hx hb dX2_howManyBySum_9 (by decide) ?_
    refine lv_istore_n (lv' := [(2, .int (1 : Int32)), (1, .int (0 : Int32)), (0, .int p0)]) hx hb dX2_howManyBySum_10 rfl hl (by decide) rfl (fun ls hl => ?_)
    refine LQ2_k1 (M := fun (y1_11 : Int32) (y2_11 : Int32) => ∀ (ls : Array Slot), lv_has ls 3 [(0, .int p0), (1, .int y1_11), (2, .int y2_11)] → W p l e rmX2_howManyBySum s m ([.int p0] : List Value).toArray below meth c s.heap [] 0 0 (MQ below (k2_QcV (.int r0)) ([.int p0] : List Value).toArray s 0 0 (fun _ => False)) (F0 m 11 ls [])) ?_ _ _ _ h ls (lv_sub hl [2, 1, 0] rfl)
    intro k41 hk41 ih11 hih11 y1_11 y2_11 h ls hl
    unfold S_X2_howManyBySum_11 at h
    refine lv_iload_n hx hb dX2_howManyBySum_11 rfl (lv_at hl 2 rfl) ?_
    refine lv_iload_n hx hb dX2_howManyBySum_12 rfl (lv_at hl 0 rfl) ?_
    refine lv_icmp_gt (tgt := 41) hx hb dX2_howManyBySum_13 (by decide) (fun c13 => ?_) (fun c13 => ?_)
    · have h := it_ c13 h
      rw [hk41] at h
      refine lv_iload_n hx hb dX2_howManyBySum_41 rfl (lv_at hl 1 rfl) ?_
      refine lv_iload_n hx hb dX2_howManyBySum_42 rfl (lv_at hl 0 rfl) ?_
      obtain ⟨hq43, h⟩ := chk_h h
      refine lv_idiv hx hb dX2_howManyBySum_43 hq43 ?_
      have e1 := Option.some.inj h
      subst e1
      exact W.iret hx hb hr (fun t ht _ => ⟨rfl, ht⟩) no_q dX2_howManyBySum_44
    · have h := if_ c13 h
      refine lv_iload_n hx hb dX2_howManyBySum_16 rfl (lv_at hl 0 rfl) ?_
      refine lv_iload_n hx hb dX2_howManyBySum_17 rfl (lv_at hl 2 rfl) ?_
      obtain ⟨hq18, h⟩ := chk_h h
      refine lv_irem hx hb dX2_howManyBySum_18 hq18 ?_
      refine lv_if_ne (tgt := 35) hx hb dX2_howManyBySum_19 (by decide) (fun c19 => ?_) (fun c19 => ?_)
      · have h := if_ c19 h
        obtain ⟨x2_35, e_x2_35⟩ : ∃ z : Int32, z = y2_11 + 1 := ⟨_, rfl⟩
        have h := bnd_h e_x2_35 h
        refine lv_iinc (v := x2_35) (lv' := [(2, .int x2_35), (0, .int p0), (1, .int y1_11)]) hx hb dX2_howManyBySum_35 hl (k := 2) rfl (by rw [e_x2_35]; rfl) (by decide) rfl (fun ls hl => ?_)
        refine lv_goto (tgt := 11) hx hb dX2_howManyBySum_38 (by decide) ?_
        exact hih11 y1_11 x2_35 h ls (lv_sub hl [1, 2, 0] rfl)
      · have h := it_ c19 h
        refine lv_iload_n hx hb dX2_howManyBySum_22 rfl (lv_at hl 1 rfl) ?_
        refine lv_iload_n hx hb dX2_howManyBySum_23 rfl (lv_at hl 2 rfl) ?_
        obtain ⟨r24, hc24, h⟩ := obn_h h
        refine pz_callS (As := [.int y2_11]) (rest := [.int y1_11]) hcf (c_X2_markOf l y2_11 r24 hc24) (va_cwS 1 hts gX2_howManyBySum_X2_markOf rfl rfl rfl ydX2_markOf ⟨Nat.le_of_ble_eq_true rfl, Nat.le_of_ble_eq_true rfl⟩) hnw rfl hl.1 rfl (Nat.le_of_ble_eq_true rfl) dX2_howManyBySum_24 ⟨Nat.le_of_ble_eq_true rfl, Nat.le_of_ble_eq_true rfl⟩ ?_
        refine lv_iconst (v := 1) hx hb dX2_howManyBySum_27 (by decide) ?_
        refine lv_iload_n hx hb dX2_howManyBySum_28 rfl (lv_at hl 0 rfl) ?_
        refine lv_iload_n hx hb dX2_howManyBySum_29 rfl (lv_at hl 2 rfl) ?_
        obtain ⟨hq30, h⟩ := chk_h h
        refine lv_idiv hx hb dX2_howManyBySum_30 hq30 ?_
        refine lv_ishl hx hb dX2_howManyBySum_31 ?_
        refine lv_imul hx hb dX2_howManyBySum_32 ?_
        refine lv_iadd hx hb dX2_howManyBySum_33 ?_
        refine lv_topi (fun x1_34 e_x1_34 => ?_)
        have h := bnd_h e_x1_34 h
        refine lv_istore_n (lv' := [(1, .int x1_34), (0, .int p0), (2, .int y2_11)]) hx hb dX2_howManyBySum_34 rfl hl (by decide) rfl (fun ls hl => ?_)
        obtain ⟨x2_35, e_x2_35⟩ : ∃ z : Int32, z = y2_11 + 1 := ⟨_, rfl⟩
        have h := bnd_h e_x2_35 h
        refine lv_iinc (v := x2_35) (lv' := [(2, .int x2_35), (1, .int x1_34), (0, .int p0)]) hx hb dX2_howManyBySum_35 hl (k := 2) rfl (by rw [e_x2_35]; rfl) (by decide) rfl (fun ls hl => ?_)
        refine lv_goto (tgt := 11) hx hb dX2_howManyBySum_38 (by decide) ?_
        exact hih11 x1_34 x2_35 h ls (lv_sub hl [2, 1, 0] rfl)
  · have h := if_ c2 h
    refine lv_iconst (v := 0) hx hb dX2_howManyBySum_5 (by decide) ?_
    have e1 := Option.some.inj h
    subst e1
    exact W.iret hx hb hr (fun t ht _ => ⟨rfl, ht⟩) no_q dX2_howManyBySum_6

noncomputable abbrev rmX7_primes : Room := { frames := 9, cells := 2, slots := 12, locals := 143 }
theorem ydX7_primes : yX7_primes.cls = RX7 ∧ yX7_primes.cls ≠ "java/lang/invoke/MethodHandle" ∧ yX7_primes.cls ≠ "java/lang/invoke/VarHandle" ∧ (parseMethodDescriptor yX7_primes.desc).map (fun d => d.parameters.length) = some 2 := by decide +kernel
noncomputable def F_X7_primes (p0 : Int32) (p1 : Int32) : Option (Nat × Int32) :=
 obn (F_X7_testRange p1 (0 : Int32) (1 : Int32)) (fun xc3 =>
 if xc3 = 0 then
 (if p1 = 0 then
 obn (F_X7_testRange p0 (1 : Int32) (10 : Int32)) (fun xc19 =>
 if xc19 = 0 then
 (if p1 = 0 then
 obn (F_X2_howManyBySum p0) (fun r27 =>
 some (0, r27))
else
 obn (F_X2_howManyByCounting p0) (fun r34 =>
 some (0, r34)))
else
 some (xc19, 0))
else
 obn (F_X7_testRange p0 (1 : Int32) (6 : Int32)) (fun xc19 =>
 if xc19 = 0 then
 (if p1 = 0 then
 obn (F_X2_howManyBySum p0) (fun r27 =>
 some (0, r27))
else
 obn (F_X2_howManyByCounting p0) (fun r34 =>
 some (0, r34)))
else
 some (xc19, 0)))
else
 some (xc3, 0))
set_option maxHeartbeats 4000000 in
set_option maxRecDepth 100000 in
theorem c_X7_primes (l : Launch) (hfl : l.stackTraces = false) (D : va_G) (cyJ : ClassId) (sz : Nat) (a_t : Nat) (p0 : Int32) (p1 : Int32) (xc : Nat) (r0 : Int32) (hF : F_X7_primes p0 p1 = some (xc, r0)) : vx_Met l yX7_primes wsX7_primes rmX7_primes (va_Pc [.ref a_t, .int p0, .int p1] (wPX D [(cyJ, .long)] [] sz)) (va_Qi (fun (r : Int32) (_ : Unit) => xc = 0 ∧ r = r0) (fun _ t => wQA D [] (va_A [] sz) t) (va_A [] sz)) (vx_X (fun (_ : Unit) => ¬ xc = 0) (fun E _ t => E = xcls xc ∧ wQA D [] (va_A [] sz) t) (va_A [] sz)) 2 12 (va_A [] sz) := by
  refine vx_ofW (cc := cX7_primes) (maxL := 3) (ret := (some .int)) (by decide) rfl ?_
  intro p e s m args below meth c s₁ B hml hxt hv
  obtain ⟨rfl, ⟨⟨hsz, hP, hK, hD0, hnw⟩, hE⟩⟩ := hv
  have hx := B.exec
  have hb := B.bytes
  have hr := B.returns
  have hts := atoms_spec (ws := wsX7_primes) B.pre
  have hown : s.vm.findClass RX7 = some m.cls := findClass_of_methodNamed B.named
  have hlocks := B.notSynchronized
  have hcf : CallFix _ _ _ _ _ _ _ _ _ := ⟨hx, hb, hml, hown, hts⟩
  subst hsz
  have hD := hD0.self (sz := s.heap.size)
  generalize hAe : va_A [] s.heap.size = A at hD hE ⊢
  have hA : ∀ q : Nat, s.heap.size ≤ q → A q := fun q h => by rw [← hAe]; exact Or.inr h
  have hS : va_S A s.heap s.heap [] := va_S.rf
  have hP : va_P D vwCl [] s.heap := hP
  have hK0 := hK
  have hl := lv_entry ([.ref a_t, .int p0, .int p1]) (n := 3) (Nat.le_of_ble_eq_true rfl)
  rw [lg_entry_eq]
  generalize (lg_sl ([.ref a_t, .int p0, .int p1]) ++ List.replicate (3 - (lg_sl ([.ref a_t, .int p0, .int p1])).length) Slot.unset).toArray = ls at hl ⊢
  have hl : lv_has ls 3 [(0, .ref a_t), (1, .int p0), (2, .int p1)] := hl
  have h := hF
  clear hF
  unfold F_X7_primes at h
  refine lv_iload_n hx hb dX7_primes_0 rfl (lv_at hl 2 rfl) ?_
  refine lv_iconst (v := 0) hx hb dX7_primes_1 (by decide) ?_
  refine lv_iconst (v := 1) hx hb dX7_primes_2 (by decide) ?_
  obtain ⟨xc3, hc3, h⟩ := obn_h h
  have hPc := hP.sub (ws' := []) [] rfl
  have hDc := hD.sub (ws' := []) [] (by decide) rfl
  refine hx_v (w1 := []) (wr := []) (vx_runS (As := [.int p1, .int (0 : Int32), .int (1 : Int32)]) (rest := []) hcf (c_X7_testRange l hfl D cyJ s.heap.size p1 (0 : Int32) (1 : Int32) xc3 hc3) (va_cwS 3 hts gX7_primes_X7_testRange rfl rfl rfl ydX7_testRange ⟨Nat.le_of_ble_eq_true rfl, Nat.le_of_ble_eq_true rfl⟩) ⟨bl_PX, pr_PX hPc hK0 hDc hnw hE hS (va_free hD hS hA [] rfl)⟩ rfl rfl hl.1 rfl (lv_room (Nat.le_of_ble_eq_true rfl)) dX7_primes_3 ⟨Nat.le_of_ble_eq_true rfl, Nat.le_of_ble_eq_true rfl⟩) hP hD hS hA [] [] rfl rfl (by decide) (by decide) (fun E9 ce9 q9 H locs hx9 hE9 hP hD hS hce9 hcv9 hcl9 => ?_) (fun hx9 H locs hP hD hS => ?_)
  · have h := if_ hx9 h
    have hP : va_P D vwCl [] H := hP
    have hD : va_D A [] := hD
    obtain ⟨e0, e1⟩ := tup2 h
    subst e0
    subst e1
    have hP9 : va_P D vwCl [] H := hP.sub [] rfl
    have hD9 : va_D A [] := hD.sub [] (by decide) rfl
    exact vx_out (fun x hx => (hxt x hx).elim) hlocks hce9 hcv9 hcl9 (fun t ht hW => ⟨(), hx9, ⟨hE9, wQA_of ht hP9 hD9⟩, hS.F ht⟩) hS.2.2 (Nat.le_of_ble_eq_true rfl) (Nat.le_of_ble_eq_true rfl)
  · have h := it_ hx9 h
    have hP : va_P D vwCl [] H := hP
    have hD : va_D A [] := hD
    refine lv_iload_n hx hb dX7_primes_6 rfl (lv_at hl 1 rfl) ?_
    refine lv_iconst (v := 1) hx hb dX7_primes_7 (by decide) ?_
    refine lv_iload_n hx hb dX7_primes_8 rfl (lv_at hl 2 rfl) ?_
    refine lv_if_ne (tgt := 17) hx hb dX7_primes_9 (by decide) (fun c9 => ?_) (fun c9 => ?_)
    · have h := if_ c9 h
      refine lv_bipush (v := 6) hx hb dX7_primes_17 (by decide) ?_
      obtain ⟨xc19, hc19, h⟩ := obn_h h
      have hPc := hP.sub (ws' := []) [] rfl
      have hDc := hD.sub (ws' := []) [] (by decide) rfl
      refine hx_v (w1 := []) (wr := []) (vx_runS (As := [.int p0, .int (1 : Int32), .int (6 : Int32)]) (rest := []) hcf (c_X7_testRange l hfl D cyJ H.size p0 (1 : Int32) (6 : Int32) xc19 hc19) (va_cwS 3 hts gX7_primes_X7_testRange rfl rfl rfl ydX7_testRange ⟨Nat.le_of_ble_eq_true rfl, Nat.le_of_ble_eq_true rfl⟩) ⟨bl_PX, pr_PX hPc hK0 hDc hnw hE hS (va_free hD hS hA [] rfl)⟩ rfl rfl hl.1 rfl (lv_room (Nat.le_of_ble_eq_true rfl)) dX7_primes_19 ⟨Nat.le_of_ble_eq_true rfl, Nat.le_of_ble_eq_true rfl⟩) hP hD hS hA [] [] rfl rfl (by decide) (by decide) (fun E9 ce9 q9 H locs hx9 hE9 hP hD hS hce9 hcv9 hcl9 => ?_) (fun hx9 H locs hP hD hS => ?_)
      · have h := if_ hx9 h
        have hP : va_P D vwCl [] H := hP
        have hD : va_D A [] := hD
        obtain ⟨e0, e1⟩ := tup2 h
        subst e0
        subst e1
        have hP9 : va_P D vwCl [] H := hP.sub [] rfl
        have hD9 : va_D A [] := hD.sub [] (by decide) rfl
        exact vx_out (fun x hx => (hxt x hx).elim) hlocks hce9 hcv9 hcl9 (fun t ht hW => ⟨(), hx9, ⟨hE9, wQA_of ht hP9 hD9⟩, hS.F ht⟩) hS.2.2 (Nat.le_of_ble_eq_true rfl) (Nat.le_of_ble_eq_true rfl)
      · have h := it_ hx9 h
        have hP : va_P D vwCl [] H := hP
        have hD : va_D A [] := hD
        refine lv_iload_n hx hb dX7_primes_22 rfl (lv_at hl 2 rfl) ?_
        refine lv_if_ne (tgt := 33) hx hb dX7_primes_23 (by decide) (fun c23 => ?_) (fun c23 => ?_)
        · have h := if_ c23 h
          refine lv_iload_n hx hb dX7_primes_33 rfl (lv_at hl 1 rfl) ?_
          obtain ⟨r34, hc34, h⟩ := obn_h h
          refine pz_callS (As := [.int p0]) (rest := []) hcf (c_X2_howManyByCounting l p0 r34 hc34) (va_cwS 1 hts gX7_primes_X2_howManyByCounting rfl rfl rfl ydX2_howManyByCounting ⟨Nat.le_of_ble_eq_true rfl, Nat.le_of_ble_eq_true rfl⟩) hnw rfl hl.1 rfl (Nat.le_of_ble_eq_true rfl) dX7_primes_34 ⟨Nat.le_of_ble_eq_true rfl, Nat.le_of_ble_eq_true rfl⟩ ?_
          obtain ⟨e0, e1⟩ := tup2 h
          subst e0
          subst e1
          have hP9 : va_P D vwCl [] H := hP.sub [] rfl
          have hD9 : va_D A [] := hD.sub [] (by decide) rfl
          refine vx_ret ?_
          exact W.iret hx hb hr (fun t ht hW => ⟨⟨_, (), rfl, ⟨rfl, rfl⟩, wQA_of ht hP9 hD9⟩, hS.F ht⟩) hS.2.2 dX7_primes_37
        · have h := it_ c23 h
          refine lv_iload_n hx hb dX7_primes_26 rfl (lv_at hl 1 rfl) ?_
          obtain ⟨r27, hc27, h⟩ := obn_h h
          refine pz_callS (As := [.int p0]) (rest := []) hcf (c_X2_howManyBySum l p0 r27 hc27) (va_cwS 1 hts gX7_primes_X2_howManyBySum rfl rfl rfl ydX2_howManyBySum ⟨Nat.le_of_ble_eq_true rfl, Nat.le_of_ble_eq_true rfl⟩) hnw rfl hl.1 rfl (Nat.le_of_ble_eq_true rfl) dX7_primes_27 ⟨Nat.le_of_ble_eq_true rfl, Nat.le_of_ble_eq_true rfl⟩ ?_
          refine lv_goto (tgt := 37) hx hb dX7_primes_30 (by decide) ?_
          obtain ⟨e0, e1⟩ := tup2 h
          subst e0
          subst e1
          have hP9 : va_P D vwCl [] H := hP.sub [] rfl
          have hD9 : va_D A [] := hD.sub [] (by decide) rfl
          refine vx_ret ?_
          exact W.iret hx hb hr (fun t ht hW => ⟨⟨_, (), rfl, ⟨rfl, rfl⟩, wQA_of ht hP9 hD9⟩, hS.F ht⟩) hS.2.2 dX7_primes_37
    · have h := it_ c9 h
      refine lv_bipush (v := 10) hx hb dX7_primes_12 (by decide) ?_
      refine lv_goto (tgt := 19) hx hb dX7_primes_14 (by decide) ?_
      obtain ⟨xc19, hc19, h⟩ := obn_h h
      have hPc := hP.sub (ws' := []) [] rfl
      have hDc := hD.sub (ws' := []) [] (by decide) rfl
      refine hx_v (w1 := []) (wr := []) (vx_runS (As := [.int p0, .int (1 : Int32), .int (10 : Int32)]) (rest := []) hcf (c_X7_testRange l hfl D cyJ H.size p0 (1 : Int32) (10 : Int32) xc19 hc19) (va_cwS 3 hts gX7_primes_X7_testRange rfl rfl rfl ydX7_testRange ⟨Nat.le_of_ble_eq_true rfl, Nat.le_of_ble_eq_true rfl⟩) ⟨bl_PX, pr_PX hPc hK0 hDc hnw hE hS (va_free hD hS hA [] rfl)⟩ rfl rfl hl.1 rfl (lv_room (Nat.le_of_ble_eq_true rfl)) dX7_primes_19 ⟨Nat.le_of_ble_eq_true rfl, Nat.le_of_ble_eq_true rfl⟩) hP hD hS hA [] [] rfl rfl (by decide) (by decide) (fun E9 ce9 q9 H locs hx9 hE9 hP hD hS hce9 hcv9 hcl9 => ?_) (fun hx9 H locs hP hD hS => ?_)
      · have h := if_ hx9 h
        have hP : va_P D vwCl [] H := hP
        have hD : va_D A [] := hD
        obtain ⟨e0, e1⟩ := tup2 h
        subst e0
        subst e1
        have hP9 : va_P D vwCl [] H := hP.sub [] rfl
        have hD9 : va_D A [] := hD.sub [] (by decide) rfl
        exact vx_out (fun x hx => (hxt x hx).elim) hlocks hce9 hcv9 hcl9 (fun t ht hW => ⟨(), hx9, ⟨hE9, wQA_of ht hP9 hD9⟩, hS.F ht⟩) hS.2.2 (Nat.le_of_ble_eq_true rfl) (Nat.le_of_ble_eq_true rfl)
      · have h := it_ hx9 h
        have hP : va_P D vwCl [] H := hP
        have hD : va_D A [] := hD
        refine lv_iload_n hx hb dX7_primes_22 rfl (lv_at hl 2 rfl) ?_
        refine lv_if_ne (tgt := 33) hx hb dX7_primes_23 (by decide) (fun c23 => ?_) (fun c23 => ?_)
        · have h := if_ c23 h
          refine lv_iload_n hx hb dX7_primes_33 rfl (lv_at hl 1 rfl) ?_
          obtain ⟨r34, hc34, h⟩ := obn_h h
          refine pz_callS (As := [.int p0]) (rest := []) hcf (c_X2_howManyByCounting l p0 r34 hc34) (va_cwS 1 hts gX7_primes_X2_howManyByCounting rfl rfl rfl ydX2_howManyByCounting ⟨Nat.le_of_ble_eq_true rfl, Nat.le_of_ble_eq_true rfl⟩) hnw rfl hl.1 rfl (Nat.le_of_ble_eq_true rfl) dX7_primes_34 ⟨Nat.le_of_ble_eq_true rfl, Nat.le_of_ble_eq_true rfl⟩ ?_
          obtain ⟨e0, e1⟩ := tup2 h
          subst e0
          subst e1
          have hP9 : va_P D vwCl [] H := hP.sub [] rfl
          have hD9 : va_D A [] := hD.sub [] (by decide) rfl
          refine vx_ret ?_
          exact W.iret hx hb hr (fun t ht hW => ⟨⟨_, (), rfl, ⟨rfl, rfl⟩, wQA_of ht hP9 hD9⟩, hS.F ht⟩) hS.2.2 dX7_primes_37
        · have h := it_ c23 h
          refine lv_iload_n hx hb dX7_primes_26 rfl (lv_at hl 1 rfl) ?_
          obtain ⟨r27, hc27, h⟩ := obn_h h
          refine pz_callS (As := [.int p0]) (rest := []) hcf (c_X2_howManyBySum l p0 r27 hc27) (va_cwS 1 hts gX7_primes_X2_howManyBySum rfl rfl rfl ydX2_howManyBySum ⟨Nat.le_of_ble_eq_true rfl, Nat.le_of_ble_eq_true rfl⟩) hnw rfl hl.1 rfl (Nat.le_of_ble_eq_true rfl) dX7_primes_27 ⟨Nat.le_of_ble_eq_true rfl, Nat.le_of_ble_eq_true rfl⟩ ?_
          refine lv_goto (tgt := 37) hx hb dX7_primes_30 (by decide) ?_
          obtain ⟨e0, e1⟩ := tup2 h
          subst e0
          subst e1
          have hP9 : va_P D vwCl [] H := hP.sub [] rfl
          have hD9 : va_D A [] := hD.sub [] (by decide) rfl
          refine vx_ret ?_
          exact W.iret hx hb hr (fun t ht hW => ⟨⟨_, (), rfl, ⟨rfl, rfl⟩, wQA_of ht hP9 hD9⟩, hS.F ht⟩) hS.2.2 dX7_primes_37

noncomputable abbrev rmX2_codeOf : Room := { frames := 5, cells := 0, slots := 0, locals := 120 }
theorem ydX2_codeOf : yX2_codeOf.cls ≠ "java/lang/invoke/MethodHandle" ∧ yX2_codeOf.cls ≠ "java/lang/invoke/VarHandle" ∧ (parseMethodDescriptor yX2_codeOf.desc).map (fun d => d.parameters.length) = some 2 := by decide +kernel
noncomputable def S_X2_codeOf_6 (z0_6 : Int32) (z1_6 : Int32) (k26 : Int32 → Option (Int32)) (k37 : Unit → Option (Int32)) (ih6 : Int32 → Int32 → Option (Int32)) (y2_6 : Int32) (y3_6 : Int32) : Option (Int32) :=
 (if ((2 : Int32) <<< (z0_6 &&& 31)) ≤ y3_6 then
 k37 ()
else
 obn (F_X2_isByTrying y3_6.toInt64) (fun r15 =>
 (if r15 = 0 then
 bnd (y3_6 + 1) (fun x3_31 =>
 ih6 y2_6 x3_31)
else
 (if y2_6 = z1_6 then
 k26 y3_6
else
 bnd (y2_6 + 1) (fun x2_28 =>
 bnd (y3_6 + 1) (fun x3_31 =>
 ih6 x2_28 x3_31))))))
noncomputable def F_X2_codeOf (p0 : Int32) (p1 : Int32) : Option (Int32) :=
 bnd ((1 : Int32) <<< (p0 &&& 31)) (fun x3_5 =>
 LQ2 (S_X2_codeOf_6 p0 p1 (fun y3_6_26 =>
 some y3_6_26) (fun _ =>
 some (-1 : Int32))) 20000 (0 : Int32) x3_5)
set_option maxHeartbeats 4000000 in
set_option maxRecDepth 100000 in
theorem c_X2_codeOf (l : Launch) (p0 : Int32) (p1 : Int32) (r0 : Int32) (hF : F_X2_codeOf p0 p1 = some r0) : Met l yX2_codeOf wsX2_codeOf rmX2_codeOf (va_Pc [.int p0, .int p1] NW) (k2_QcV (.int r0)) 0 0 (fun _ => False) := by
  refine Met.ofW (cc := cX2_codeOf) (maxL := 4) (ret := (some .int)) (by decide) rfl ?_
  intro p e s m args below meth c s₁ B hml hv
  obtain ⟨rfl, hnw⟩ := hv
  have hx := B.exec
  have hb := B.bytes
  have hr := B.returns
  have hts := atoms_spec (ws := wsX2_codeOf) B.pre
  have hown : s.vm.findClass RX2 = some m.cls := findClass_of_methodNamed B.named
  have hlocks := B.notSynchronized
  have hcf : CallFix _ _ _ _ _ _ _ _ _ := ⟨hx, hb, hml, hown, hts⟩
  have hl := lv_entry ([.int p0, .int p1]) (n := 4) (Nat.le_of_ble_eq_true rfl)
  rw [lg_entry_eq]
  generalize (lg_sl ([.int p0, .int p1]) ++ List.replicate (4 - (lg_sl ([.int p0, .int p1])).length) Slot.unset).toArray = ls at hl ⊢
  have hl : lv_has ls 4 [(0, .int p0), (1, .int p1)] := hl
  have h := hF
  clear hF
  unfold F_X2_codeOf at h
  refine lv_iconst (v := 0) hx hb dX2_codeOf_0 (by decide) ?_
  refine lv_istore_n (lv' := [(2, .int (0 : Int32)), (0, .int p0), (1, .int p1)]) hx hb dX2_codeOf_1 rfl hl (by decide) rfl (fun ls hl => ?_)
  refine lv_iconst (v := 1) hx hb dX2_codeOf_2 (by decide) ?_
  refine lv_iload_n hx hb dX2_codeOf_3 rfl (lv_at hl 1 rfl) ?_
  refine lv_ishl hx hb dX2_codeOf_4 ?_
  refine lv_topi (fun x3_5 e_x3_5 => ?_)
  have h := bnd_h e_x3_5 h
  refine lv_istore_n (lv' := [(3, .int x3_5), (2, .int (0 : Int32)), (0, .int p0), (1, .int p1)]) hx hb dX2_codeOf_5 rfl hl (by decide) rfl (fun ls hl => ?_)
  refine LQ2_k2 (M := fun (y2_6 : Int32) (y3_6 : Int32) => ∀ (ls : Array Slot), lv_has ls 4 [(0, .int p0), (1, .int p1), (2, .int y2_6), (3, .int y3_6)] → W p l e rmX2_codeOf s m ([.int p0, .int p1] : List Value).toArray below meth c s.heap [] 0 0 (MQ below (k2_QcV (.int r0)) ([.int p0, .int p1] : List Value).toArray s 0 0 (fun _ => False)) (F0 m 6 ls [])) ?_ _ _ _ h ls (lv_sub hl [2, 3, 1, 0] rfl)
  intro k26 hk26 k37 hk37 ih6 hih6 y2_6 y3_6 h ls hl
  unfold S_X2_codeOf_6 at h
  refine lv_iload_n hx hb dX2_codeOf_6 rfl (lv_at hl 3 rfl) ?_
  refine lv_iconst (v := 2) hx hb dX2_codeOf_7 (by decide) ?_
  refine lv_iload_n hx hb dX2_codeOf_8 rfl (lv_at hl 0 rfl) ?_
  refine lv_ishl hx hb dX2_codeOf_9 ?_
  refine lv_icmp_ge (tgt := 37) hx hb dX2_codeOf_10 (by decide) (fun c10 => ?_) (fun c10 => ?_)
  · have h := it_ c10 h
    rw [hk37] at h
    refine lv_iconst (v := -1) hx hb dX2_codeOf_37 (by decide) ?_
    have e1 := Option.some.inj h
    subst e1
    exact W.iret hx hb hr (fun t ht _ => ⟨rfl, ht⟩) no_q dX2_codeOf_38
  · have h := if_ c10 h
    refine lv_iload_n hx hb dX2_codeOf_13 rfl (lv_at hl 3 rfl) ?_
    refine lv_i2l (v := y3_6.toInt64) hx hb dX2_codeOf_14 rfl ?_
    obtain ⟨r15, hc15, h⟩ := obn_h h
    refine pz_callS (As := [.long y3_6.toInt64]) (rest := []) hcf (c_X2_isByTrying l y3_6.toInt64 r15 hc15) (va_cwS 1 hts gX2_codeOf_X2_isByTrying rfl rfl rfl ydX2_isByTrying ⟨Nat.le_of_ble_eq_true rfl, Nat.le_of_ble_eq_true rfl⟩) hnw rfl hl.1 rfl (Nat.le_of_ble_eq_true rfl) dX2_codeOf_15 ⟨Nat.le_of_ble_eq_true rfl, Nat.le_of_ble_eq_true rfl⟩ ?_
    refine lv_if_eq (tgt := 31) hx hb dX2_codeOf_18 (by decide) (fun c18 => ?_) (fun c18 => ?_)
    · have h := it_ c18 h
      obtain ⟨x3_31, e_x3_31⟩ : ∃ z : Int32, z = y3_6 + 1 := ⟨_, rfl⟩
      have h := bnd_h e_x3_31 h
      refine lv_iinc (v := x3_31) (lv' := [(3, .int x3_31), (0, .int p0), (1, .int p1), (2, .int y2_6)]) hx hb dX2_codeOf_31 hl (k := 3) rfl (by rw [e_x3_31]; rfl) (by decide) rfl (fun ls hl => ?_)
      refine lv_goto (tgt := 6) hx hb dX2_codeOf_34 (by decide) ?_
      exact hih6 y2_6 x3_31 h ls (lv_sub hl [1, 2, 3, 0] rfl)
    · have h := if_ c18 h
      refine lv_iload_n hx hb dX2_codeOf_21 rfl (lv_at hl 2 rfl) ?_
      refine lv_iload_n hx hb dX2_codeOf_22 rfl (lv_at hl 1 rfl) ?_
      refine lv_icmp_ne (tgt := 28) hx hb dX2_codeOf_23 (by decide) (fun c23 => ?_) (fun c23 => ?_)
      · have h := if_ c23 h
        obtain ⟨x2_28, e_x2_28⟩ : ∃ z : Int32, z = y2_6 + 1 := ⟨_, rfl⟩
        have h := bnd_h e_x2_28 h
        refine lv_iinc (v := x2_28) (lv' := [(2, .int x2_28), (0, .int p0), (1, .int p1), (3, .int y3_6)]) hx hb dX2_codeOf_28 hl (k := 2) rfl (by rw [e_x2_28]; rfl) (by decide) rfl (fun ls hl => ?_)
        obtain ⟨x3_31, e_x3_31⟩ : ∃ z : Int32, z = y3_6 + 1 := ⟨_, rfl⟩
        have h := bnd_h e_x3_31 h
        refine lv_iinc (v := x3_31) (lv' := [(3, .int x3_31), (2, .int x2_28), (0, .int p0), (1, .int p1)]) hx hb dX2_codeOf_31 hl (k := 3) rfl (by rw [e_x3_31]; rfl) (by decide) rfl (fun ls hl => ?_)
        refine lv_goto (tgt := 6) hx hb dX2_codeOf_34 (by decide) ?_
        exact hih6 x2_28 x3_31 h ls (lv_sub hl [2, 3, 1, 0] rfl)
      · have h := it_ c23 h
        rw [hk26] at h
        refine lv_iload_n hx hb dX2_codeOf_26 rfl (lv_at hl 3 rfl) ?_
        have e1 := Option.some.inj h
        subst e1
        exact W.iret hx hb hr (fun t ht _ => ⟨rfl, ht⟩) no_q dX2_codeOf_27

noncomputable abbrev rmX7_prime : Room := { frames := 9, cells := 2, slots := 12, locals := 143 }
theorem ydX7_prime : yX7_prime.cls = RX7 ∧ yX7_prime.cls ≠ "java/lang/invoke/MethodHandle" ∧ yX7_prime.cls ≠ "java/lang/invoke/VarHandle" ∧ (parseMethodDescriptor yX7_prime.desc).map (fun d => d.parameters.length) = some 2 := by decide +kernel
noncomputable def F_X7_prime (p0 : Int32) (p1 : Int32) : Option (Nat × Int32) :=
 obn (F_X7_testRange p0 (1 : Int32) (6 : Int32)) (fun xc4 =>
 if xc4 = 0 then
 obn (F_X7_testRange p1 (0 : Int32) (9 : Int32)) (fun xc11 =>
 if xc11 = 0 then
 obn (F_X2_codeOf p0 p1) (fun r16 =>
 some (0, r16))
else
 some (xc11, 0))
else
 some (xc4, 0))
set_option maxHeartbeats 4000000 in
set_option maxRecDepth 100000 in
theorem c_X7_prime (l : Launch) (hfl : l.stackTraces = false) (D : va_G) (cyJ : ClassId) (sz : Nat) (a_t : Nat) (p0 : Int32) (p1 : Int32) (xc : Nat) (r0 : Int32) (hF : F_X7_prime p0 p1 = some (xc, r0)) : vx_Met l yX7_prime wsX7_prime rmX7_prime (va_Pc [.ref a_t, .int p0, .int p1] (wPX D [(cyJ, .long)] [] sz)) (va_Qi (fun (r : Int32) (_ : Unit) => xc = 0 ∧ r = r0) (fun _ t => wQA D [] (va_A [] sz) t) (va_A [] sz)) (vx_X (fun (_ : Unit) => ¬ xc = 0) (fun E _ t => E = xcls xc ∧ wQA D [] (va_A [] sz) t) (va_A [] sz)) 2 12 (va_A [] sz) := by
  refine vx_ofW (cc := cX7_prime) (maxL := 3) (ret := (some .int)) (by decide) rfl ?_
  intro p e s m args below meth c s₁ B hml hxt hv
  obtain ⟨rfl, ⟨⟨hsz, hP, hK, hD0, hnw⟩, hE⟩⟩ := hv
  have hx := B.exec
  have hb := B.bytes
  have hr := B.returns
  have hts := atoms_spec (ws := wsX7_prime) B.pre
  have hown : s.vm.findClass RX7 = some m.cls := findClass_of_methodNamed B.named
  have hlocks := B.notSynchronized
  have hcf : CallFix _ _ _ _ _ _ _ _ _ := ⟨hx, hb, hml, hown, hts⟩
  subst hsz
  have hD := hD0.self (sz := s.heap.size)
  generalize hAe : va_A [] s.heap.size = A at hD hE ⊢
  have hA : ∀ q : Nat, s.heap.size ≤ q → A q := fun q h => by rw [← hAe]; exact Or.inr h
  have hS : va_S A s.heap s.heap [] := va_S.rf
  have hP : va_P D vwCl [] s.heap := hP
  have hK0 := hK
  have hl := lv_entry ([.ref a_t, .int p0, .int p1]) (n := 3) (Nat.le_of_ble_eq_true rfl)
  rw [lg_entry_eq]
  generalize (lg_sl ([.ref a_t, .int p0, .int p1]) ++ List.replicate (3 - (lg_sl ([.ref a_t, .int p0, .int p1])).length) Slot.unset).toArray = ls at hl ⊢
  have hl : lv_has ls 3 [(0, .ref a_t), (1, .int p0), (2, .int p1)] := hl
  have h := hF
  clear hF
  unfold F_X7_prime at h
  refine lv_iload_n hx hb dX7_prime_0 rfl (lv_at hl 1 rfl) ?_
  refine lv_iconst (v := 1) hx hb dX7_prime_1 (by decide) ?_
  refine lv_bipush (v := 6) hx hb dX7_prime_2 (by decide) ?_
  obtain ⟨xc4, hc4, h⟩ := obn_h h
  have hPc := hP.sub (ws' := []) [] rfl
  have hDc := hD.sub (ws' := []) [] (by decide) rfl
  refine hx_v (w1 := []) (wr := []) (vx_runS (As := [.int p0, .int (1 : Int32), .int (6 : Int32)]) (rest := []) hcf (c_X7_testRange l hfl D cyJ s.heap.size p0 (1 : Int32) (6 : Int32) xc4 hc4) (va_cwS 3 hts gX7_prime_X7_testRange rfl rfl rfl ydX7_testRange ⟨Nat.le_of_ble_eq_true rfl, Nat.le_of_ble_eq_true rfl⟩) ⟨bl_PX, pr_PX hPc hK0 hDc hnw hE hS (va_free hD hS hA [] rfl)⟩ rfl rfl hl.1 rfl (lv_room (Nat.le_of_ble_eq_true rfl)) dX7_prime_4 ⟨Nat.le_of_ble_eq_true rfl, Nat.le_of_ble_eq_true rfl⟩) hP hD hS hA [] [] rfl rfl (by decide) (by decide) (fun E9 ce9 q9 H locs hx9 hE9 hP hD hS hce9 hcv9 hcl9 => ?_) (fun hx9 H locs hP hD hS => ?_)
  · have h := if_ hx9 h
    have hP : va_P D vwCl [] H := hP
    have hD : va_D A [] := hD
    obtain ⟨e0, e1⟩ := tup2 h
    subst e0
    subst e1
    have hP9 : va_P D vwCl [] H := hP.sub [] rfl
    have hD9 : va_D A [] := hD.sub [] (by decide) rfl
    exact vx_out (fun x hx => (hxt x hx).elim) hlocks hce9 hcv9 hcl9 (fun t ht hW => ⟨(), hx9, ⟨hE9, wQA_of ht hP9 hD9⟩, hS.F ht⟩) hS.2.2 (Nat.le_of_ble_eq_true rfl) (Nat.le_of_ble_eq_true rfl)
  · have h := it_ hx9 h
    have hP : va_P D vwCl [] H := hP
    have hD : va_D A [] := hD
    refine lv_iload_n hx hb dX7_prime_7 rfl (lv_at hl 2 rfl) ?_
    refine lv_iconst (v := 0) hx hb dX7_prime_8 (by decide) ?_
    refine lv_bipush (v := 9) hx hb dX7_prime_9 (by decide) ?_
    obtain ⟨xc11, hc11, h⟩ := obn_h h
    have hPc := hP.sub (ws' := []) [] rfl
    have hDc := hD.sub (ws' := []) [] (by decide) rfl
    refine hx_v (w1 := []) (wr := []) (vx_runS (As := [.int p1, .int (0 : Int32), .int (9 : Int32)]) (rest := []) hcf (c_X7_testRange l hfl D cyJ H.size p1 (0 : Int32) (9 : Int32) xc11 hc11) (va_cwS 3 hts gX7_prime_X7_testRange rfl rfl rfl ydX7_testRange ⟨Nat.le_of_ble_eq_true rfl, Nat.le_of_ble_eq_true rfl⟩) ⟨bl_PX, pr_PX hPc hK0 hDc hnw hE hS (va_free hD hS hA [] rfl)⟩ rfl rfl hl.1 rfl (lv_room (Nat.le_of_ble_eq_true rfl)) dX7_prime_11 ⟨Nat.le_of_ble_eq_true rfl, Nat.le_of_ble_eq_true rfl⟩) hP hD hS hA [] [] rfl rfl (by decide) (by decide) (fun E9 ce9 q9 H locs hx9 hE9 hP hD hS hce9 hcv9 hcl9 => ?_) (fun hx9 H locs hP hD hS => ?_)
    · have h := if_ hx9 h
      have hP : va_P D vwCl [] H := hP
      have hD : va_D A [] := hD
      obtain ⟨e0, e1⟩ := tup2 h
      subst e0
      subst e1
      have hP9 : va_P D vwCl [] H := hP.sub [] rfl
      have hD9 : va_D A [] := hD.sub [] (by decide) rfl
      exact vx_out (fun x hx => (hxt x hx).elim) hlocks hce9 hcv9 hcl9 (fun t ht hW => ⟨(), hx9, ⟨hE9, wQA_of ht hP9 hD9⟩, hS.F ht⟩) hS.2.2 (Nat.le_of_ble_eq_true rfl) (Nat.le_of_ble_eq_true rfl)
    · have h := it_ hx9 h
      have hP : va_P D vwCl [] H := hP
      have hD : va_D A [] := hD
      refine lv_iload_n hx hb dX7_prime_14 rfl (lv_at hl 1 rfl) ?_
      refine lv_iload_n hx hb dX7_prime_15 rfl (lv_at hl 2 rfl) ?_
      obtain ⟨r16, hc16, h⟩ := obn_h h
      refine pz_callS (As := [.int p0, .int p1]) (rest := []) hcf (c_X2_codeOf l p0 p1 r16 hc16) (va_cwS 2 hts gX7_prime_X2_codeOf rfl rfl rfl ydX2_codeOf ⟨Nat.le_of_ble_eq_true rfl, Nat.le_of_ble_eq_true rfl⟩) hnw rfl hl.1 rfl (Nat.le_of_ble_eq_true rfl) dX7_prime_16 ⟨Nat.le_of_ble_eq_true rfl, Nat.le_of_ble_eq_true rfl⟩ ?_
      obtain ⟨e0, e1⟩ := tup2 h
      subst e0
      subst e1
      have hP9 : va_P D vwCl [] H := hP.sub [] rfl
      have hD9 : va_D A [] := hD.sub [] (by decide) rfl
      refine vx_ret ?_
      exact W.iret hx hb hr (fun t ht hW => ⟨⟨_, (), rfl, ⟨rfl, rfl⟩, wQA_of ht hP9 hD9⟩, hS.F ht⟩) hS.2.2 dX7_prime_19

noncomputable abbrev rmX6_periodByMultiplying : Room := { frames := 3, cells := 0, slots := 0, locals := 71 }
theorem ydX6_periodByMultiplying : yX6_periodByMultiplying.cls ≠ "java/lang/invoke/MethodHandle" ∧ yX6_periodByMultiplying.cls ≠ "java/lang/invoke/VarHandle" ∧ (parseMethodDescriptor yX6_periodByMultiplying.desc).map (fun d => d.parameters.length) = some 1 := by decide +kernel
noncomputable def S_X6_periodByMultiplying_5 (z0_5 : Int64) (k27 : Int32 → Option (Int32)) (k36 : Unit → Option (Int32)) (ih5 : Int64 → Int32 → Option (Int32)) (y2_5 : Int64) (y4_5 : Int32) : Option (Int32) :=
 (if (1000 : Int32) ≤ y4_5 then
 k36 ()
else
 obn (F_X0_rest (y2_5 <<< ((1 : Int32).toInt64 &&& 63)) z0_5) (fun r17 =>
 (if r17 = (1 : Int64) then
 k27 y4_5
else
 bnd (y4_5 + 1) (fun x4_30 =>
 ih5 r17 x4_30))))
noncomputable def F_X6_periodByMultiplying (p0 : Int64) : Option (Int32) :=
 LQ2 (S_X6_periodByMultiplying_5 p0 (fun y4_5_27 =>
 some y4_5_27) (fun _ =>
 some (-1 : Int32))) 20000 (1 : Int64) (1 : Int32)
set_option maxHeartbeats 4000000 in
set_option maxRecDepth 100000 in
theorem c_X6_periodByMultiplying (l : Launch) (p0 : Int64) (r0 : Int32) (hF : F_X6_periodByMultiplying p0 = some r0) : Met l yX6_periodByMultiplying wsX6_periodByMultiplying rmX6_periodByMultiplying (va_Pc [.long p0] NW) (k2_QcV (.int r0)) 0 0 (fun _ => False) := by
  refine Met.ofW (cc := cX6_periodByMultiplying) (maxL := 5) (ret := (some .int)) (by decide) rfl ?_
  intro p e s m args below meth c s₁ B hml hv
  obtain ⟨rfl, hnw⟩ := hv
  have hx := B.exec
  have hb := B.bytes
  have hr := B.returns
  have hts := atoms_spec (ws := wsX6_periodByMultiplying) B.pre
  have hown : s.vm.findClass RX6 = some m.cls := findClass_of_methodNamed B.named
  have hlocks := B.notSynchronized
  have hcf : CallFix _ _ _ _ _ _ _ _ _ := ⟨hx, hb, hml, hown, hts⟩
  have hl := lv_entry ([.long p0]) (n := 5) (Nat.le_of_ble_eq_true rfl)
  rw [lg_entry_eq]
  generalize (lg_sl ([.long p0]) ++ List.replicate (5 - (lg_sl ([.long p0])).length) Slot.unset).toArray = ls at hl ⊢
  have hl : lv_has ls 5 [(0, .long p0)] := hl
  have h := hF
  clear hF
  unfold F_X6_periodByMultiplying at h
  refine lv_lconst (v := 1) hx hb dX6_periodByMultiplying_0 (by decide) ?_
  refine lv_lstore_n (lv' := [(2, .long (1 : Int64)), (0, .long p0)]) hx hb dX6_periodByMultiplying_1 rfl hl (by decide) rfl (fun ls hl => ?_)
  refine lv_iconst (v := 1) hx hb dX6_periodByMultiplying_2 (by decide) ?_
  refine lv_istore (lv' := [(4, .int (1 : Int32)), (2, .long (1 : Int64)), (0, .long p0)]) hx hb dX6_periodByMultiplying_3 hl (by decide) rfl (fun ls hl => ?_)
  refine LQ2_k2 (M := fun (y2_5 : Int64) (y4_5 : Int32) => ∀ (ls : Array Slot), lv_has ls 5 [(0, .long p0), (2, .long y2_5), (4, .int y4_5)] → W p l e rmX6_periodByMultiplying s m ([.long p0] : List Value).toArray below meth c s.heap [] 0 0 (MQ below (k2_QcV (.int r0)) ([.long p0] : List Value).toArray s 0 0 (fun _ => False)) (F0 m 5 ls [])) ?_ _ _ _ h ls (lv_sub hl [2, 1, 0] rfl)
  intro k27 hk27 k36 hk36 ih5 hih5 y2_5 y4_5 h ls hl
  unfold S_X6_periodByMultiplying_5 at h
  refine lv_iload hx hb dX6_periodByMultiplying_5 (lv_at hl 2 rfl) ?_
  refine lv_sipush (v := 1000) hx hb dX6_periodByMultiplying_7 (by decide) ?_
  refine lv_icmp_ge (tgt := 36) hx hb dX6_periodByMultiplying_10 (by decide) (fun c10 => ?_) (fun c10 => ?_)
  · have h := it_ c10 h
    rw [hk36] at h
    refine lv_iconst (v := -1) hx hb dX6_periodByMultiplying_36 (by decide) ?_
    have e1 := Option.some.inj h
    subst e1
    exact W.iret hx hb hr (fun t ht _ => ⟨rfl, ht⟩) no_q dX6_periodByMultiplying_37
  · have h := if_ c10 h
    refine lv_lload_n hx hb dX6_periodByMultiplying_13 rfl (lv_at hl 1 rfl) ?_
    refine lv_iconst (v := 1) hx hb dX6_periodByMultiplying_14 (by decide) ?_
    refine lv_lshl (v := y2_5 <<< ((1 : Int32).toInt64 &&& 63)) hx hb dX6_periodByMultiplying_15 rfl ?_
    refine lv_lload_n hx hb dX6_periodByMultiplying_16 rfl (lv_at hl 0 rfl) ?_
    obtain ⟨r17, hc17, h⟩ := obn_h h
    refine pz_callS (As := [.long (y2_5 <<< ((1 : Int32).toInt64 &&& 63)), .long p0]) (rest := []) hcf (c_X0_rest l (y2_5 <<< ((1 : Int32).toInt64 &&& 63)) p0 r17 hc17) (va_cwS 2 hts gX6_periodByMultiplying_X0_rest rfl rfl rfl ydX0_rest ⟨Nat.le_of_ble_eq_true rfl, Nat.le_of_ble_eq_true rfl⟩) hnw rfl hl.1 rfl (Nat.le_of_ble_eq_true rfl) dX6_periodByMultiplying_17 ⟨Nat.le_of_ble_eq_true rfl, Nat.le_of_ble_eq_true rfl⟩ ?_
    refine lv_lstore_n (lv' := [(2, .long r17), (0, .long p0), (4, .int y4_5)]) hx hb dX6_periodByMultiplying_20 rfl hl (by decide) rfl (fun ls hl => ?_)
    refine lv_lload_n hx hb dX6_periodByMultiplying_21 rfl (lv_at hl 0 rfl) ?_
    refine lv_lconst (v := 1) hx hb dX6_periodByMultiplying_22 (by decide) ?_
    refine W.lcmp hx hb dX6_periodByMultiplying_23 ?_
    refine lv_if_ne (tgt := 30) hx hb dX6_periodByMultiplying_24 (by decide) (fun c24 => ?_) (fun c24 => ?_)
    · have c24 := fun z => c24 ((lg_cmp_eq _ _).mpr z)
      have h := if_ c24 h
      obtain ⟨x4_30, e_x4_30⟩ : ∃ z : Int32, z = y4_5 + 1 := ⟨_, rfl⟩
      have h := bnd_h e_x4_30 h
      refine lv_iinc (v := x4_30) (lv' := [(4, .int x4_30), (2, .long r17), (0, .long p0)]) hx hb dX6_periodByMultiplying_30 hl (k := 2) rfl (by rw [e_x4_30]; rfl) (by decide) rfl (fun ls hl => ?_)
      refine lv_goto (tgt := 5) hx hb dX6_periodByMultiplying_33 (by decide) ?_
      exact hih5 r17 x4_30 h ls (lv_sub hl [2, 1, 0] rfl)
    · have c24 := (lg_cmp_eq _ _).mp c24
      have h := it_ c24 h
      rw [hk27] at h
      refine lv_iload hx hb dX6_periodByMultiplying_27 (lv_at hl 2 rfl) ?_
      have e1 := Option.some.inj h
      subst e1
      exact W.iret hx hb hr (fun t ht _ => ⟨rfl, ht⟩) no_q dX6_periodByMultiplying_29

noncomputable abbrev rmX6_leastMultiple : Room := { frames := 0, cells := 0, slots := 0, locals := 0 }
theorem ydX6_leastMultiple : yX6_leastMultiple.cls ≠ "java/lang/invoke/MethodHandle" ∧ yX6_leastMultiple.cls ≠ "java/lang/invoke/VarHandle" ∧ (parseMethodDescriptor yX6_leastMultiple.desc).map (fun d => d.parameters.length) = some 2 := by decide +kernel
noncomputable def S_X6_leastMultiple_7 (k35 : Int32 → Option (Int32)) (ih7 : Int32 → Int32 → Int32 → Option (Int32)) (y2_7 : Int32) (y3_7 : Int32) (y4_7 : Int32) : Option (Int32) :=
 (if (1000 : Int32) ≤ y4_7 then
 k35 y2_7
else
 (if y3_7 = 0 then
 k35 y2_7
else
 chk (¬ y3_7 = 0) (
 bnd (y2_7 - y2_7 / y3_7 * y3_7) (fun x5_22 =>
 bnd (y4_7 + 1) (fun x4_29 =>
 ih7 y3_7 x5_22 x4_29)))))
noncomputable def F_X6_leastMultiple (p0 : Int32) (p1 : Int32) : Option (Int32) :=
 LQ3 (S_X6_leastMultiple_7 (fun y2_7_35 =>
 (if y2_7_35 = 0 then
 some (0 : Int32)
else
 chk (¬ y2_7_35 = 0) (
 some ((p0 / y2_7_35) * p1))))) 20000 p0 p1 (0 : Int32)
set_option maxHeartbeats 4000000 in
set_option maxRecDepth 100000 in
theorem c_X6_leastMultiple (l : Launch) (p0 : Int32) (p1 : Int32) (r0 : Int32) (hF : F_X6_leastMultiple p0 p1 = some r0) : Met l yX6_leastMultiple wsX6_leastMultiple rmX6_leastMultiple (va_Pc [.int p0, .int p1] NW) (k2_QcV (.int r0)) 0 0 (fun _ => False) := by
  refine Met.ofW (cc := cX6_leastMultiple) (maxL := 6) (ret := (some .int)) (by decide) rfl ?_
  intro p e s m args below meth c s₁ B hml hv
  obtain ⟨rfl, hnw⟩ := hv
  have hx := B.exec
  have hb := B.bytes
  have hr := B.returns
  have hts := atoms_spec (ws := wsX6_leastMultiple) B.pre
  have hown : s.vm.findClass RX6 = some m.cls := findClass_of_methodNamed B.named
  have hlocks := B.notSynchronized
  have hcf : CallFix _ _ _ _ _ _ _ _ _ := ⟨hx, hb, hml, hown, hts⟩
  have hl := lv_entry ([.int p0, .int p1]) (n := 6) (Nat.le_of_ble_eq_true rfl)
  rw [lg_entry_eq]
  generalize (lg_sl ([.int p0, .int p1]) ++ List.replicate (6 - (lg_sl ([.int p0, .int p1])).length) Slot.unset).toArray = ls at hl ⊢
  have hl : lv_has ls 6 [(0, .int p0), (1, .int p1)] := hl
  have h := hF
  clear hF
  unfold F_X6_leastMultiple at h
  refine lv_iload_n hx hb dX6_leastMultiple_0 rfl (lv_at hl 0 rfl) ?_
  refine lv_istore_n (lv' := [(2, .int p0), (0, .int p0), (1, .int p1)]) hx hb dX6_leastMultiple_1 rfl hl (by decide) rfl (fun ls hl => ?_)
  refine lv_iload_n hx hb dX6_leastMultiple_2 rfl (lv_at hl 2 rfl) ?_
  refine lv_istore_n (lv' := [(3, .int p1), (2, .int p0), (0, .int p0), (1, .int p1)]) hx hb dX6_leastMultiple_3 rfl hl (by decide) rfl (fun ls hl => ?_)
  refine lv_iconst (v := 0) hx hb dX6_leastMultiple_4 (by decide) ?_
  refine lv_istore (lv' := [(4, .int (0 : Int32)), (3, .int p1), (2, .int p0), (0, .int p0), (1, .int p1)]) hx hb dX6_leastMultiple_5 hl (by decide) rfl (fun ls hl => ?_)
  refine LQ3_k1 (M := fun (y2_7 : Int32) (y3_7 : Int32) (y4_7 : Int32) => ∀ (ls : Array Slot), lv_has ls 6 [(0, .int p0), (1, .int p1), (2, .int y2_7), (3, .int y3_7), (4, .int y4_7)] → W p l e rmX6_leastMultiple s m ([.int p0, .int p1] : List Value).toArray below meth c s.heap [] 0 0 (MQ below (k2_QcV (.int r0)) ([.int p0, .int p1] : List Value).toArray s 0 0 (fun _ => False)) (F0 m 7 ls [])) ?_ _ _ _ _ h ls (lv_sub hl [3, 4, 2, 1, 0] rfl)
  intro k35 hk35 ih7 hih7 y2_7 y3_7 y4_7 h ls hl
  unfold S_X6_leastMultiple_7 at h
  refine lv_iload hx hb dX6_leastMultiple_7 (lv_at hl 4 rfl) ?_
  refine lv_sipush (v := 1000) hx hb dX6_leastMultiple_9 (by decide) ?_
  refine lv_icmp_ge (tgt := 35) hx hb dX6_leastMultiple_12 (by decide) (fun c12 => ?_) (fun c12 => ?_)
  · have h := it_ c12 h
    rw [hk35] at h
    refine lv_iload_n hx hb dX6_leastMultiple_35 rfl (lv_at hl 2 rfl) ?_
    refine lv_if_ne (tgt := 43) hx hb dX6_leastMultiple_36 (by decide) (fun c36 => ?_) (fun c36 => ?_)
    · have h := if_ c36 h
      refine lv_iload_n hx hb dX6_leastMultiple_43 rfl (lv_at hl 0 rfl) ?_
      refine lv_iload_n hx hb dX6_leastMultiple_44 rfl (lv_at hl 2 rfl) ?_
      obtain ⟨hq45, h⟩ := chk_h h
      refine lv_idiv hx hb dX6_leastMultiple_45 hq45 ?_
      refine lv_iload_n hx hb dX6_leastMultiple_46 rfl (lv_at hl 1 rfl) ?_
      refine lv_imul hx hb dX6_leastMultiple_47 ?_
      have e1 := Option.some.inj h
      subst e1
      exact W.iret hx hb hr (fun t ht _ => ⟨rfl, ht⟩) no_q dX6_leastMultiple_48
    · have h := it_ c36 h
      refine lv_iconst (v := 0) hx hb dX6_leastMultiple_39 (by decide) ?_
      refine lv_goto (tgt := 48) hx hb dX6_leastMultiple_40 (by decide) ?_
      have e1 := Option.some.inj h
      subst e1
      exact W.iret hx hb hr (fun t ht _ => ⟨rfl, ht⟩) no_q dX6_leastMultiple_48
  · have h := if_ c12 h
    refine lv_iload_n hx hb dX6_leastMultiple_15 rfl (lv_at hl 3 rfl) ?_
    refine lv_if_eq (tgt := 35) hx hb dX6_leastMultiple_16 (by decide) (fun c16 => ?_) (fun c16 => ?_)
    · have h := it_ c16 h
      rw [hk35] at h
      refine lv_iload_n hx hb dX6_leastMultiple_35 rfl (lv_at hl 2 rfl) ?_
      refine lv_if_ne (tgt := 43) hx hb dX6_leastMultiple_36 (by decide) (fun c36 => ?_) (fun c36 => ?_)
      · have h := if_ c36 h
        refine lv_iload_n hx hb dX6_leastMultiple_43 rfl (lv_at hl 0 rfl) ?_
        refine lv_iload_n hx hb dX6_leastMultiple_44 rfl (lv_at hl 2 rfl) ?_
        obtain ⟨hq45, h⟩ := chk_h h
        refine lv_idiv hx hb dX6_leastMultiple_45 hq45 ?_
        refine lv_iload_n hx hb dX6_leastMultiple_46 rfl (lv_at hl 1 rfl) ?_
        refine lv_imul hx hb dX6_leastMultiple_47 ?_
        have e1 := Option.some.inj h
        subst e1
        exact W.iret hx hb hr (fun t ht _ => ⟨rfl, ht⟩) no_q dX6_leastMultiple_48
      · have h := it_ c36 h
        refine lv_iconst (v := 0) hx hb dX6_leastMultiple_39 (by decide) ?_
        refine lv_goto (tgt := 48) hx hb dX6_leastMultiple_40 (by decide) ?_
        have e1 := Option.some.inj h
        subst e1
        exact W.iret hx hb hr (fun t ht _ => ⟨rfl, ht⟩) no_q dX6_leastMultiple_48
    · have h := if_ c16 h
      refine lv_iload_n hx hb dX6_leastMultiple_19 rfl (lv_at hl 2 rfl) ?_
      refine lv_iload_n hx hb dX6_leastMultiple_20 rfl (lv_at hl 3 rfl) ?_
      obtain ⟨hq21, h⟩ := chk_h h
      refine lv_irem hx hb dX6_leastMultiple_21 hq21 ?_
      refine lv_topi (fun x5_22 e_x5_22 => ?_)
      have h := bnd_h e_x5_22 h
      refine lv_istore (lv' := [(5, .int x5_22), (0, .int p0), (1, .int p1), (2, .int y2_7), (3, .int y3_7), (4, .int y4_7)]) hx hb dX6_leastMultiple_22 hl (by decide) rfl (fun ls hl => ?_)
      refine lv_iload_n hx hb dX6_leastMultiple_24 rfl (lv_at hl 4 rfl) ?_
      refine lv_istore_n (lv' := [(2, .int y3_7), (5, .int x5_22), (0, .int p0), (1, .int p1), (3, .int y3_7), (4, .int y4_7)]) hx hb dX6_leastMultiple_25 rfl hl (by decide) rfl (fun ls hl => ?_)
      refine lv_iload hx hb dX6_leastMultiple_26 (lv_at hl 1 rfl) ?_
      refine lv_istore_n (lv' := [(3, .int x5_22), (2, .int y3_7), (5, .int x5_22), (0, .int p0), (1, .int p1), (4, .int y4_7)]) hx hb dX6_leastMultiple_28 rfl hl (by decide) rfl (fun ls hl => ?_)
      obtain ⟨x4_29, e_x4_29⟩ : ∃ z : Int32, z = y4_7 + 1 := ⟨_, rfl⟩
      have h := bnd_h e_x4_29 h
      refine lv_iinc (v := x4_29) (lv' := [(4, .int x4_29), (3, .int x5_22), (2, .int y3_7), (5, .int x5_22), (0, .int p0), (1, .int p1)]) hx hb dX6_leastMultiple_29 hl (k := 5) rfl (by rw [e_x4_29]; rfl) (by decide) rfl (fun ls hl => ?_)
      refine lv_goto (tgt := 7) hx hb dX6_leastMultiple_32 (by decide) ?_
      exact hih7 y3_7 x5_22 x4_29 h ls (lv_sub hl [4, 5, 2, 1, 0] rfl)

noncomputable abbrev rmX6_leastPowerOfTwo : Room := { frames := 0, cells := 0, slots := 0, locals := 0 }
theorem ydX6_leastPowerOfTwo : yX6_leastPowerOfTwo.cls ≠ "java/lang/invoke/MethodHandle" ∧ yX6_leastPowerOfTwo.cls ≠ "java/lang/invoke/VarHandle" ∧ (parseMethodDescriptor yX6_leastPowerOfTwo.desc).map (fun d => d.parameters.length) = some 1 := by decide +kernel
noncomputable def S_X6_leastPowerOfTwo_4 (z0_4 : Int32) (k25 : Int32 → Option (Int32)) (ih4 : Int32 → Int32 → Option (Int32)) (y1_4 : Int32) (y2_4 : Int32) : Option (Int32) :=
 (if (10 : Int32) ≤ y2_4 then
 k25 y1_4
else
 (if z0_4 ≤ y1_4 then
 k25 y1_4
else
 bnd (y1_4 * (2 : Int32)) (fun x1_18 =>
 bnd (y2_4 + 1) (fun x2_19 =>
 ih4 x1_18 x2_19))))
noncomputable def F_X6_leastPowerOfTwo (p0 : Int32) : Option (Int32) :=
 LQ2 (S_X6_leastPowerOfTwo_4 p0 (fun y1_4_25 =>
 some y1_4_25)) 20000 (1 : Int32) (0 : Int32)
set_option maxHeartbeats 4000000 in
set_option maxRecDepth 100000 in
theorem c_X6_leastPowerOfTwo (l : Launch) (p0 : Int32) (r0 : Int32) (hF : F_X6_leastPowerOfTwo p0 = some r0) : Met l yX6_leastPowerOfTwo wsX6_leastPowerOfTwo rmX6_leastPowerOfTwo (va_Pc [.int p0] NW) (k2_QcV (.int r0)) 0 0 (fun _ => False) := by
  refine Met.ofW (cc := cX6_leastPowerOfTwo) (maxL := 3) (ret := (some .int)) (by decide) rfl ?_
  intro p e s m args below meth c s₁ B hml hv
  obtain ⟨rfl, hnw⟩ := hv
  have hx := B.exec
  have hb := B.bytes
  have hr := B.returns
  have hts := atoms_spec (ws := wsX6_leastPowerOfTwo) B.pre
  have hown : s.vm.findClass RX6 = some m.cls := findClass_of_methodNamed B.named
  have hlocks := B.notSynchronized
  have hcf : CallFix _ _ _ _ _ _ _ _ _ := ⟨hx, hb, hml, hown, hts⟩
  have hl := lv_entry ([.int p0]) (n := 3) (Nat.le_of_ble_eq_true rfl)
  rw [lg_entry_eq]
  generalize (lg_sl ([.int p0]) ++ List.replicate (3 - (lg_sl ([.int p0])).length) Slot.unset).toArray = ls at hl ⊢
  have hl : lv_has ls 3 [(0, .int p0)] := hl
  have h := hF
  clear hF
  unfold F_X6_leastPowerOfTwo at h
  refine lv_iconst (v := 1) hx hb dX6_leastPowerOfTwo_0 (by decide) ?_
  refine lv_istore_n (lv' := [(1, .int (1 : Int32)), (0, .int p0)]) hx hb dX6_leastPowerOfTwo_1 rfl hl (by decide) rfl (fun ls hl => ?_)
  refine lv_iconst (v := 0) hx hb dX6_leastPowerOfTwo_2 (by decide) ?_
  refine lv_istore_n (lv' := [(2, .int (0 : Int32)), (1, .int (1 : Int32)), (0, .int p0)]) hx hb dX6_leastPowerOfTwo_3 rfl hl (by decide) rfl (fun ls hl => ?_)
  refine LQ2_k1 (M := fun (y1_4 : Int32) (y2_4 : Int32) => ∀ (ls : Array Slot), lv_has ls 3 [(0, .int p0), (1, .int y1_4), (2, .int y2_4)] → W p l e rmX6_leastPowerOfTwo s m ([.int p0] : List Value).toArray below meth c s.heap [] 0 0 (MQ below (k2_QcV (.int r0)) ([.int p0] : List Value).toArray s 0 0 (fun _ => False)) (F0 m 4 ls [])) ?_ _ _ _ h ls (lv_sub hl [2, 1, 0] rfl)
  intro k25 hk25 ih4 hih4 y1_4 y2_4 h ls hl
  unfold S_X6_leastPowerOfTwo_4 at h
  refine lv_iload_n hx hb dX6_leastPowerOfTwo_4 rfl (lv_at hl 2 rfl) ?_
  refine lv_bipush (v := 10) hx hb dX6_leastPowerOfTwo_5 (by decide) ?_
  refine lv_icmp_ge (tgt := 25) hx hb dX6_leastPowerOfTwo_7 (by decide) (fun c7 => ?_) (fun c7 => ?_)
  · have h := it_ c7 h
    rw [hk25] at h
    refine lv_iload_n hx hb dX6_leastPowerOfTwo_25 rfl (lv_at hl 1 rfl) ?_
    have e1 := Option.some.inj h
    subst e1
    exact W.iret hx hb hr (fun t ht _ => ⟨rfl, ht⟩) no_q dX6_leastPowerOfTwo_26
  · have h := if_ c7 h
    refine lv_iload_n hx hb dX6_leastPowerOfTwo_10 rfl (lv_at hl 1 rfl) ?_
    refine lv_iload_n hx hb dX6_leastPowerOfTwo_11 rfl (lv_at hl 0 rfl) ?_
    refine lv_icmp_ge (tgt := 25) hx hb dX6_leastPowerOfTwo_12 (by decide) (fun c12 => ?_) (fun c12 => ?_)
    · have h := it_ c12 h
      rw [hk25] at h
      refine lv_iload_n hx hb dX6_leastPowerOfTwo_25 rfl (lv_at hl 1 rfl) ?_
      have e1 := Option.some.inj h
      subst e1
      exact W.iret hx hb hr (fun t ht _ => ⟨rfl, ht⟩) no_q dX6_leastPowerOfTwo_26
    · have h := if_ c12 h
      refine lv_iload_n hx hb dX6_leastPowerOfTwo_15 rfl (lv_at hl 1 rfl) ?_
      refine lv_iconst (v := 2) hx hb dX6_leastPowerOfTwo_16 (by decide) ?_
      refine lv_imul hx hb dX6_leastPowerOfTwo_17 ?_
      refine lv_topi (fun x1_18 e_x1_18 => ?_)
      have h := bnd_h e_x1_18 h
      refine lv_istore_n (lv' := [(1, .int x1_18), (0, .int p0), (2, .int y2_4)]) hx hb dX6_leastPowerOfTwo_18 rfl hl (by decide) rfl (fun ls hl => ?_)
      obtain ⟨x2_19, e_x2_19⟩ : ∃ z : Int32, z = y2_4 + 1 := ⟨_, rfl⟩
      have h := bnd_h e_x2_19 h
      refine lv_iinc (v := x2_19) (lv' := [(2, .int x2_19), (1, .int x1_18), (0, .int p0)]) hx hb dX6_leastPowerOfTwo_19 hl (k := 2) rfl (by rw [e_x2_19]; rfl) (by decide) rfl (fun ls hl => ?_)
      refine lv_goto (tgt := 4) hx hb dX6_leastPowerOfTwo_22 (by decide) ?_
      exact hih4 x1_18 x2_19 h ls (lv_sub hl [2, 1, 0] rfl)

noncomputable abbrev rmX6_periodByFactors : Room := { frames := 4, cells := 0, slots := 0, locals := 95 }
theorem ydX6_periodByFactors : yX6_periodByFactors.cls ≠ "java/lang/invoke/MethodHandle" ∧ yX6_periodByFactors.cls ≠ "java/lang/invoke/VarHandle" ∧ (parseMethodDescriptor yX6_periodByFactors.desc).map (fun d => d.parameters.length) = some 1 := by decide +kernel
noncomputable def S_X6_periodByFactors_9 (c_q0_size_z9 : Int32) (f_q0_held_z9 : Nat → Int64) (k92 : Int32 → Int32 → Option (Int32)) (ih9 : Int32 → Int32 → Int32 → Int32 → Option (Int32)) (y1_9 : Int32) (y2_9 : Int32) (y3_9 : Int32) (y4_9 : Int32) : Option (Int32) :=
 (if c_q0_size_z9 ≤ y4_9 then
 k92 y1_9 y2_9
else
 (if y4_9 = 0 then
 bnd (if y2_9 < (1 : Int32) then (1 : Int32) else y2_9) (fun x2_66 =>
 obn (F_X3_at c_q0_size_z9 f_q0_held_z9 y4_9) (fun r76 =>
 obn (F_X6_periodByMultiplying r76) (fun r79 =>
 obn (F_X6_leastMultiple y1_9 r79) (fun r82 =>
 bnd (y4_9 + 1) (fun x4_86 =>
 ih9 r82 x2_66 (1 : Int32) x4_86)))))
else
 obn (F_X3_at c_q0_size_z9 f_q0_held_z9 y4_9) (fun r26 =>
 obn (F_X3_at c_q0_size_z9 f_q0_held_z9 (y4_9 - (1 : Int32))) (fun r34 =>
 (if r26 = r34 then
 bnd (y3_9 + (1 : Int32)) (fun x3_60 =>
 bnd (if y2_9 < x3_60 then x3_60 else y2_9) (fun x2_66 =>
 bnd (y4_9 + 1) (fun x4_86 =>
 ih9 y1_9 x2_66 x3_60 x4_86)))
else
 bnd (if y2_9 < (1 : Int32) then (1 : Int32) else y2_9) (fun x2_66 =>
 obn (F_X3_at c_q0_size_z9 f_q0_held_z9 y4_9) (fun r76 =>
 obn (F_X6_periodByMultiplying r76) (fun r79 =>
 obn (F_X6_leastMultiple y1_9 r79) (fun r82 =>
 bnd (y4_9 + 1) (fun x4_86 =>
 ih9 r82 x2_66 (1 : Int32) x4_86))))))))))
noncomputable def F_X6_periodByFactors (c_q0_size : Int32) (f_q0_held : Nat → Int64) : Option (Int32) :=
 LQ4 (S_X6_periodByFactors_9 c_q0_size f_q0_held (fun y1_9_92 y2_9_92 =>
 obn (F_X6_leastPowerOfTwo y2_9_92) (fun r94 =>
 some (y1_9_92 * r94)))) 20000 (1 : Int32) (0 : Int32) (0 : Int32) (0 : Int32)
set_option maxHeartbeats 4000000 in
set_option maxRecDepth 100000 in
theorem c_X6_periodByFactors (l : Launch) (D : va_G) (cyJ : ClassId) (a_q0 : Nat) (a_q0_held : Nat) (a_q0_before : Nat) (c_q0_size : Int32) (f_q0_held : Nat → Int64) (r0 : Int32) (hF : F_X6_periodByFactors c_q0_size f_q0_held = some r0) : Met l yX6_periodByFactors wsX6_periodByFactors rmX6_periodByFactors (va_Pc [.ref a_q0] (wPK D [(cyJ, .long)] [(a_q0, .inr (3, [.ref a_q0_held, .ref a_q0_before, .int c_q0_size])), (a_q0_held, .inl (cyJ, 12, .inr (.inl f_q0_held)))])) (k2_QcV (.int r0)) 0 0 (fun _ => False) := by
  refine Met.ofW (cc := cX6_periodByFactors) (maxL := 6) (ret := (some .int)) (by decide) rfl ?_
  intro p e s m args below meth c s₁ B hml hv
  obtain ⟨rfl, hP, hK, hnw⟩ := hv
  have hx := B.exec
  have hb := B.bytes
  have hr := B.returns
  have hts := atoms_spec (ws := wsX6_periodByFactors) B.pre
  have hown : s.vm.findClass RX6 = some m.cls := findClass_of_methodNamed B.named
  have hlocks := B.notSynchronized
  have hcf : CallFix _ _ _ _ _ _ _ _ _ := ⟨hx, hb, hml, hown, hts⟩
  have hinX3 : ∀ w ∈ u_ws RX3 TX3 3, w ∈ wsX6_periodByFactors := by decide +kernel
  have hfl37 := hnw.use (A := ([.ref a_q0] : List Value).toArray) (w := .fieldLinkNest RX6 37 "Formwheel$Roll" "size" "I" "Formwheel") (by decide +kernel)
  have hK0 := hK
  have hl := lv_entry ([.ref a_q0]) (n := 6) (Nat.le_of_ble_eq_true rfl)
  rw [lg_entry_eq]
  generalize (lg_sl ([.ref a_q0]) ++ List.replicate (6 - (lg_sl ([.ref a_q0])).length) Slot.unset).toArray = ls at hl ⊢
  have hl : lv_has ls 6 [(0, .ref a_q0)] := hl
  have h := hF
  clear hF
  unfold F_X6_periodByFactors at h
  refine lv_iconst (v := 1) hx hb dX6_periodByFactors_0 (by decide) ?_
  refine lv_istore_n (lv' := [(1, .int (1 : Int32)), (0, .ref a_q0)]) hx hb dX6_periodByFactors_1 rfl hl (by decide) rfl (fun ls hl => ?_)
  refine lv_iconst (v := 0) hx hb dX6_periodByFactors_2 (by decide) ?_
  refine lv_istore_n (lv' := [(2, .int (0 : Int32)), (1, .int (1 : Int32)), (0, .ref a_q0)]) hx hb dX6_periodByFactors_3 rfl hl (by decide) rfl (fun ls hl => ?_)
  refine lv_iconst (v := 0) hx hb dX6_periodByFactors_4 (by decide) ?_
  refine lv_istore_n (lv' := [(3, .int (0 : Int32)), (2, .int (0 : Int32)), (1, .int (1 : Int32)), (0, .ref a_q0)]) hx hb dX6_periodByFactors_5 rfl hl (by decide) rfl (fun ls hl => ?_)
  refine lv_iconst (v := 0) hx hb dX6_periodByFactors_6 (by decide) ?_
  refine lv_istore (lv' := [(4, .int (0 : Int32)), (3, .int (0 : Int32)), (2, .int (0 : Int32)), (1, .int (1 : Int32)), (0, .ref a_q0)]) hx hb dX6_periodByFactors_7 hl (by decide) rfl (fun ls hl => ?_)
  refine LQ4_k1 (M := fun (y1_9 : Int32) (y2_9 : Int32) (y3_9 : Int32) (y4_9 : Int32) => ∀ (ls : Array Slot), lv_has ls 6 [(0, .ref a_q0), (1, .int y1_9), (2, .int y2_9), (3, .int y3_9), (4, .int y4_9)] → W p l e rmX6_periodByFactors s m ([.ref a_q0] : List Value).toArray below meth c s.heap [] 0 0 (MQ below (k2_QcV (.int r0)) ([.ref a_q0] : List Value).toArray s 0 0 (fun _ => False)) (F0 m 9 ls [])) ?_ _ _ _ _ _ h ls (lv_sub hl [4, 3, 2, 1, 0] rfl)
  intro k92 hk92 ih9 hih9 y1_9 y2_9 y3_9 y4_9 h ls hl
  unfold S_X6_periodByFactors_9 at h
  refine lv_iload hx hb dX6_periodByFactors_9 (lv_at hl 4 rfl) ?_
  refine lv_aload_n hx hb dX6_periodByFactors_11 rfl (lv_at hl 0 rfl) ?_
  refine va_getN (D := D) (ci := 3) (v := .int c_q0_size) (C := RX3) (T := TX3) (N := 3) hx hb hts hinX3 hown hK hP 0 rfl rfl 2 (by decide) hfl37 (fun _ h9 => h9) rfl dX6_periodByFactors_12 ?_
  refine lv_icmp_ge (tgt := 92) hx hb dX6_periodByFactors_15 (by decide) (fun c15 => ?_) (fun c15 => ?_)
  · have h := it_ c15 h
    rw [hk92] at h
    refine lv_iload_n hx hb dX6_periodByFactors_92 rfl (lv_at hl 1 rfl) ?_
    refine lv_iload_n hx hb dX6_periodByFactors_93 rfl (lv_at hl 2 rfl) ?_
    obtain ⟨r94, hc94, h⟩ := obn_h h
    refine pz_callS (As := [.int y2_9]) (rest := [.int y1_9]) hcf (c_X6_leastPowerOfTwo l y2_9 r94 hc94) (va_cwS 1 hts gX6_periodByFactors_X6_leastPowerOfTwo rfl rfl rfl ydX6_leastPowerOfTwo ⟨Nat.le_of_ble_eq_true rfl, Nat.le_of_ble_eq_true rfl⟩) hnw rfl hl.1 rfl (Nat.le_of_ble_eq_true rfl) dX6_periodByFactors_94 ⟨Nat.le_of_ble_eq_true rfl, Nat.le_of_ble_eq_true rfl⟩ ?_
    refine lv_imul hx hb dX6_periodByFactors_97 ?_
    have e1 := Option.some.inj h
    subst e1
    exact W.iret hx hb hr (fun t ht _ => ⟨rfl, ht⟩) no_q dX6_periodByFactors_98
  · have h := if_ c15 h
    refine lv_iload hx hb dX6_periodByFactors_18 (lv_at hl 4 rfl) ?_
    refine lv_if_eq (tgt := 41) hx hb dX6_periodByFactors_20 (by decide) (fun c20 => ?_) (fun c20 => ?_)
    · have h := it_ c20 h
      refine lv_iconst (v := 1) hx hb dX6_periodByFactors_41 (by decide) ?_
      refine lv_goto (tgt := 46) hx hb dX6_periodByFactors_42 (by decide) ?_
      refine lv_istore (lv' := [(5, .int (1 : Int32)), (0, .ref a_q0), (1, .int y1_9), (2, .int y2_9), (3, .int y3_9), (4, .int y4_9)]) hx hb dX6_periodByFactors_46 hl (by decide) rfl (fun ls hl => ?_)
      refine lv_iload hx hb dX6_periodByFactors_48 (lv_at hl 0 rfl) ?_
      refine lv_if_eq (tgt := 57) hx hb dX6_periodByFactors_50 (by decide) (fun c50 => absurd c50 (by decide)) (fun c50 => ?_)
      refine lv_iconst (v := 1) hx hb dX6_periodByFactors_53 (by decide) ?_
      refine lv_goto (tgt := 60) hx hb dX6_periodByFactors_54 (by decide) ?_
      refine lv_istore_n (lv' := [(3, .int (1 : Int32)), (5, .int (1 : Int32)), (0, .ref a_q0), (1, .int y1_9), (2, .int y2_9), (4, .int y4_9)]) hx hb dX6_periodByFactors_60 rfl hl (by decide) rfl (fun ls hl => ?_)
      refine lv_iload_n hx hb dX6_periodByFactors_61 rfl (lv_at hl 4 rfl) ?_
      refine lv_iload_n hx hb dX6_periodByFactors_62 rfl (lv_at hl 0 rfl) ?_
      refine va_mmax hx hb (hml.trans hl.1.symm) hown (hts (.methodLink RX6 47 Lib.Math.max.name) (by decide +kernel)) (hts (.static Lib.Math.max.name) (by decide +kernel)) (hts (.initialized "java/lang/Math") (by decide +kernel)) (hts (.code Lib.Math.max.name Lib.Math.max.code 2 (some .int)) (by decide +kernel)) (Nat.le_of_ble_eq_true rfl) (Nat.le_of_ble_eq_true rfl) (Nat.le_of_ble_eq_true rfl) (Nat.le_of_ble_eq_true rfl) dX6_periodByFactors_63 ?_
      refine lv_topi (fun x2_66 e_x2_66 => ?_)
      have h := bnd_h e_x2_66 h
      refine lv_istore_n (lv' := [(2, .int x2_66), (3, .int (1 : Int32)), (5, .int (1 : Int32)), (0, .ref a_q0), (1, .int y1_9), (4, .int y4_9)]) hx hb dX6_periodByFactors_66 rfl hl (by decide) rfl (fun ls hl => ?_)
      refine lv_iload hx hb dX6_periodByFactors_67 (lv_at hl 2 rfl) ?_
      refine lv_if_eq (tgt := 86) hx hb dX6_periodByFactors_69 (by decide) (fun c69 => absurd c69 (by decide)) (fun c69 => ?_)
      refine lv_iload_n hx hb dX6_periodByFactors_72 rfl (lv_at hl 4 rfl) ?_
      refine lv_aload_n hx hb dX6_periodByFactors_73 rfl (lv_at hl 3 rfl) ?_
      refine lv_iload hx hb dX6_periodByFactors_74 (lv_at hl 5 rfl) ?_
      obtain ⟨r76, hc76, h⟩ := obn_h h
      have hPc : va_P D vwCl [(a_q0, .inr (3, [.ref a_q0_held, .ref a_q0_before, .int c_q0_size])), (a_q0_held, .inl (cyJ, 12, .inr (.inl f_q0_held)))] s.heap := hP.sub [0, 1] rfl
      refine rd_callV (As := [.int y4_9]) (rest := [.int y1_9]) hcf (c_X3_at l D cyJ a_q0 a_q0_held a_q0_before c_q0_size f_q0_held y4_9 r76 hc76) (cwV 1 hts gX6_periodByFactors_X3_at rfl rfl rfl ydX3_at ⟨Nat.le_of_ble_eq_true rfl, Nat.le_of_ble_eq_true rfl⟩) hnw hPc hK0 (va_recv hK hP (ci := 3) (q0 := 0) rfl rfl) rfl hl.1 rfl (Nat.le_of_ble_eq_true rfl) dX6_periodByFactors_76 ⟨Nat.le_of_ble_eq_true rfl, Nat.le_of_ble_eq_true rfl⟩ ?_
      obtain ⟨r79, hc79, h⟩ := obn_h h
      refine pz_callS (As := [.long r76]) (rest := [.int y1_9]) hcf (c_X6_periodByMultiplying l r76 r79 hc79) (va_cwS 1 hts gX6_periodByFactors_X6_periodByMultiplying rfl rfl rfl ydX6_periodByMultiplying ⟨Nat.le_of_ble_eq_true rfl, Nat.le_of_ble_eq_true rfl⟩) hnw rfl hl.1 rfl (Nat.le_of_ble_eq_true rfl) dX6_periodByFactors_79 ⟨Nat.le_of_ble_eq_true rfl, Nat.le_of_ble_eq_true rfl⟩ ?_
      obtain ⟨r82, hc82, h⟩ := obn_h h
      refine pz_callS (As := [.int y1_9, .int r79]) (rest := []) hcf (c_X6_leastMultiple l y1_9 r79 r82 hc82) (va_cwS 2 hts gX6_periodByFactors_X6_leastMultiple rfl rfl rfl ydX6_leastMultiple ⟨Nat.le_of_ble_eq_true rfl, Nat.le_of_ble_eq_true rfl⟩) hnw rfl hl.1 rfl (Nat.le_of_ble_eq_true rfl) dX6_periodByFactors_82 ⟨Nat.le_of_ble_eq_true rfl, Nat.le_of_ble_eq_true rfl⟩ ?_
      refine lv_istore_n (lv' := [(1, .int r82), (2, .int x2_66), (3, .int (1 : Int32)), (5, .int (1 : Int32)), (0, .ref a_q0), (4, .int y4_9)]) hx hb dX6_periodByFactors_85 rfl hl (by decide) rfl (fun ls hl => ?_)
      obtain ⟨x4_86, e_x4_86⟩ : ∃ z : Int32, z = y4_9 + 1 := ⟨_, rfl⟩
      have h := bnd_h e_x4_86 h
      refine lv_iinc (v := x4_86) (lv' := [(4, .int x4_86), (1, .int r82), (2, .int x2_66), (3, .int (1 : Int32)), (5, .int (1 : Int32)), (0, .ref a_q0)]) hx hb dX6_periodByFactors_86 hl (k := 5) rfl (by rw [e_x4_86]; rfl) (by decide) rfl (fun ls hl => ?_)
      refine lv_goto (tgt := 9) hx hb dX6_periodByFactors_89 (by decide) ?_
      exact hih9 r82 x2_66 (1 : Int32) x4_86 h ls (lv_sub hl [5, 1, 2, 3, 0] rfl)
    · have h := if_ c20 h
      refine lv_aload_n hx hb dX6_periodByFactors_23 rfl (lv_at hl 0 rfl) ?_
      refine lv_iload hx hb dX6_periodByFactors_24 (lv_at hl 4 rfl) ?_
      obtain ⟨r26, hc26, h⟩ := obn_h h
      have hPc : va_P D vwCl [(a_q0, .inr (3, [.ref a_q0_held, .ref a_q0_before, .int c_q0_size])), (a_q0_held, .inl (cyJ, 12, .inr (.inl f_q0_held)))] s.heap := hP.sub [0, 1] rfl
      refine rd_callV (As := [.int y4_9]) (rest := []) hcf (c_X3_at l D cyJ a_q0 a_q0_held a_q0_before c_q0_size f_q0_held y4_9 r26 hc26) (cwV 1 hts gX6_periodByFactors_X3_at rfl rfl rfl ydX3_at ⟨Nat.le_of_ble_eq_true rfl, Nat.le_of_ble_eq_true rfl⟩) hnw hPc hK0 (va_recv hK hP (ci := 3) (q0 := 0) rfl rfl) rfl hl.1 rfl (Nat.le_of_ble_eq_true rfl) dX6_periodByFactors_26 ⟨Nat.le_of_ble_eq_true rfl, Nat.le_of_ble_eq_true rfl⟩ ?_
      refine lv_aload_n hx hb dX6_periodByFactors_29 rfl (lv_at hl 0 rfl) ?_
      refine lv_iload hx hb dX6_periodByFactors_30 (lv_at hl 4 rfl) ?_
      refine lv_iconst (v := 1) hx hb dX6_periodByFactors_32 (by decide) ?_
      refine lv_isub hx hb dX6_periodByFactors_33 ?_
      obtain ⟨r34, hc34, h⟩ := obn_h h
      have hPc : va_P D vwCl [(a_q0, .inr (3, [.ref a_q0_held, .ref a_q0_before, .int c_q0_size])), (a_q0_held, .inl (cyJ, 12, .inr (.inl f_q0_held)))] s.heap := hP.sub [0, 1] rfl
      refine rd_callV (As := [.int (y4_9 - (1 : Int32))]) (rest := [.long r26]) hcf (c_X3_at l D cyJ a_q0 a_q0_held a_q0_before c_q0_size f_q0_held (y4_9 - (1 : Int32)) r34 hc34) (cwV 1 hts gX6_periodByFactors_X3_at rfl rfl rfl ydX3_at ⟨Nat.le_of_ble_eq_true rfl, Nat.le_of_ble_eq_true rfl⟩) hnw hPc hK0 (va_recv hK hP (ci := 3) (q0 := 0) rfl rfl) rfl hl.1 rfl (Nat.le_of_ble_eq_true rfl) dX6_periodByFactors_34 ⟨Nat.le_of_ble_eq_true rfl, Nat.le_of_ble_eq_true rfl⟩ ?_
      refine W.lcmp hx hb dX6_periodByFactors_37 ?_
      refine lv_if_eq (tgt := 45) hx hb dX6_periodByFactors_38 (by decide) (fun c38 => ?_) (fun c38 => ?_)
      · have c38 := (lg_cmp_eq _ _).mp c38
        have h := it_ c38 h
        refine lv_iconst (v := 0) hx hb dX6_periodByFactors_45 (by decide) ?_
        refine lv_istore (lv' := [(5, .int (0 : Int32)), (0, .ref a_q0), (1, .int y1_9), (2, .int y2_9), (3, .int y3_9), (4, .int y4_9)]) hx hb dX6_periodByFactors_46 hl (by decide) rfl (fun ls hl => ?_)
        refine lv_iload hx hb dX6_periodByFactors_48 (lv_at hl 0 rfl) ?_
        refine lv_if_eq (tgt := 57) hx hb dX6_periodByFactors_50 (by decide) (fun c50 => ?_) (fun c50 => absurd c50 (by decide))
        refine lv_iload_n hx hb dX6_periodByFactors_57 rfl (lv_at hl 4 rfl) ?_
        refine lv_iconst (v := 1) hx hb dX6_periodByFactors_58 (by decide) ?_
        refine lv_iadd hx hb dX6_periodByFactors_59 ?_
        refine lv_topi (fun x3_60 e_x3_60 => ?_)
        have h := bnd_h e_x3_60 h
        refine lv_istore_n (lv' := [(3, .int x3_60), (5, .int (0 : Int32)), (0, .ref a_q0), (1, .int y1_9), (2, .int y2_9), (4, .int y4_9)]) hx hb dX6_periodByFactors_60 rfl hl (by decide) rfl (fun ls hl => ?_)
        refine lv_iload_n hx hb dX6_periodByFactors_61 rfl (lv_at hl 4 rfl) ?_
        refine lv_iload_n hx hb dX6_periodByFactors_62 rfl (lv_at hl 0 rfl) ?_
        refine va_mmax hx hb (hml.trans hl.1.symm) hown (hts (.methodLink RX6 47 Lib.Math.max.name) (by decide +kernel)) (hts (.static Lib.Math.max.name) (by decide +kernel)) (hts (.initialized "java/lang/Math") (by decide +kernel)) (hts (.code Lib.Math.max.name Lib.Math.max.code 2 (some .int)) (by decide +kernel)) (Nat.le_of_ble_eq_true rfl) (Nat.le_of_ble_eq_true rfl) (Nat.le_of_ble_eq_true rfl) (Nat.le_of_ble_eq_true rfl) dX6_periodByFactors_63 ?_
        refine lv_topi (fun x2_66 e_x2_66 => ?_)
        have h := bnd_h e_x2_66 h
        refine lv_istore_n (lv' := [(2, .int x2_66), (3, .int x3_60), (5, .int (0 : Int32)), (0, .ref a_q0), (1, .int y1_9), (4, .int y4_9)]) hx hb dX6_periodByFactors_66 rfl hl (by decide) rfl (fun ls hl => ?_)
        refine lv_iload hx hb dX6_periodByFactors_67 (lv_at hl 2 rfl) ?_
        refine lv_if_eq (tgt := 86) hx hb dX6_periodByFactors_69 (by decide) (fun c69 => ?_) (fun c69 => absurd c69 (by decide))
        obtain ⟨x4_86, e_x4_86⟩ : ∃ z : Int32, z = y4_9 + 1 := ⟨_, rfl⟩
        have h := bnd_h e_x4_86 h
        refine lv_iinc (v := x4_86) (lv' := [(4, .int x4_86), (2, .int x2_66), (3, .int x3_60), (5, .int (0 : Int32)), (0, .ref a_q0), (1, .int y1_9)]) hx hb dX6_periodByFactors_86 hl (k := 5) rfl (by rw [e_x4_86]; rfl) (by decide) rfl (fun ls hl => ?_)
        refine lv_goto (tgt := 9) hx hb dX6_periodByFactors_89 (by decide) ?_
        exact hih9 y1_9 x2_66 x3_60 x4_86 h ls (lv_sub hl [4, 5, 1, 2, 0] rfl)
      · have c38 := fun z => c38 ((lg_cmp_eq _ _).mpr z)
        have h := if_ c38 h
        refine lv_iconst (v := 1) hx hb dX6_periodByFactors_41 (by decide) ?_
        refine lv_goto (tgt := 46) hx hb dX6_periodByFactors_42 (by decide) ?_
        refine lv_istore (lv' := [(5, .int (1 : Int32)), (0, .ref a_q0), (1, .int y1_9), (2, .int y2_9), (3, .int y3_9), (4, .int y4_9)]) hx hb dX6_periodByFactors_46 hl (by decide) rfl (fun ls hl => ?_)
        refine lv_iload hx hb dX6_periodByFactors_48 (lv_at hl 0 rfl) ?_
        refine lv_if_eq (tgt := 57) hx hb dX6_periodByFactors_50 (by decide) (fun c50 => absurd c50 (by decide)) (fun c50 => ?_)
        refine lv_iconst (v := 1) hx hb dX6_periodByFactors_53 (by decide) ?_
        refine lv_goto (tgt := 60) hx hb dX6_periodByFactors_54 (by decide) ?_
        refine lv_istore_n (lv' := [(3, .int (1 : Int32)), (5, .int (1 : Int32)), (0, .ref a_q0), (1, .int y1_9), (2, .int y2_9), (4, .int y4_9)]) hx hb dX6_periodByFactors_60 rfl hl (by decide) rfl (fun ls hl => ?_)
        refine lv_iload_n hx hb dX6_periodByFactors_61 rfl (lv_at hl 4 rfl) ?_
        refine lv_iload_n hx hb dX6_periodByFactors_62 rfl (lv_at hl 0 rfl) ?_
        refine va_mmax hx hb (hml.trans hl.1.symm) hown (hts (.methodLink RX6 47 Lib.Math.max.name) (by decide +kernel)) (hts (.static Lib.Math.max.name) (by decide +kernel)) (hts (.initialized "java/lang/Math") (by decide +kernel)) (hts (.code Lib.Math.max.name Lib.Math.max.code 2 (some .int)) (by decide +kernel)) (Nat.le_of_ble_eq_true rfl) (Nat.le_of_ble_eq_true rfl) (Nat.le_of_ble_eq_true rfl) (Nat.le_of_ble_eq_true rfl) dX6_periodByFactors_63 ?_
        refine lv_topi (fun x2_66 e_x2_66 => ?_)
        have h := bnd_h e_x2_66 h
        refine lv_istore_n (lv' := [(2, .int x2_66), (3, .int (1 : Int32)), (5, .int (1 : Int32)), (0, .ref a_q0), (1, .int y1_9), (4, .int y4_9)]) hx hb dX6_periodByFactors_66 rfl hl (by decide) rfl (fun ls hl => ?_)
        refine lv_iload hx hb dX6_periodByFactors_67 (lv_at hl 2 rfl) ?_
        refine lv_if_eq (tgt := 86) hx hb dX6_periodByFactors_69 (by decide) (fun c69 => absurd c69 (by decide)) (fun c69 => ?_)
        refine lv_iload_n hx hb dX6_periodByFactors_72 rfl (lv_at hl 4 rfl) ?_
        refine lv_aload_n hx hb dX6_periodByFactors_73 rfl (lv_at hl 3 rfl) ?_
        refine lv_iload hx hb dX6_periodByFactors_74 (lv_at hl 5 rfl) ?_
        obtain ⟨r76, hc76, h⟩ := obn_h h
        have hPc : va_P D vwCl [(a_q0, .inr (3, [.ref a_q0_held, .ref a_q0_before, .int c_q0_size])), (a_q0_held, .inl (cyJ, 12, .inr (.inl f_q0_held)))] s.heap := hP.sub [0, 1] rfl
        refine rd_callV (As := [.int y4_9]) (rest := [.int y1_9]) hcf (c_X3_at l D cyJ a_q0 a_q0_held a_q0_before c_q0_size f_q0_held y4_9 r76 hc76) (cwV 1 hts gX6_periodByFactors_X3_at rfl rfl rfl ydX3_at ⟨Nat.le_of_ble_eq_true rfl, Nat.le_of_ble_eq_true rfl⟩) hnw hPc hK0 (va_recv hK hP (ci := 3) (q0 := 0) rfl rfl) rfl hl.1 rfl (Nat.le_of_ble_eq_true rfl) dX6_periodByFactors_76 ⟨Nat.le_of_ble_eq_true rfl, Nat.le_of_ble_eq_true rfl⟩ ?_
        obtain ⟨r79, hc79, h⟩ := obn_h h
        refine pz_callS (As := [.long r76]) (rest := [.int y1_9]) hcf (c_X6_periodByMultiplying l r76 r79 hc79) (va_cwS 1 hts gX6_periodByFactors_X6_periodByMultiplying rfl rfl rfl ydX6_periodByMultiplying ⟨Nat.le_of_ble_eq_true rfl, Nat.le_of_ble_eq_true rfl⟩) hnw rfl hl.1 rfl (Nat.le_of_ble_eq_true rfl) dX6_periodByFactors_79 ⟨Nat.le_of_ble_eq_true rfl, Nat.le_of_ble_eq_true rfl⟩ ?_
        obtain ⟨r82, hc82, h⟩ := obn_h h
        refine pz_callS (As := [.int y1_9, .int r79]) (rest := []) hcf (c_X6_leastMultiple l y1_9 r79 r82 hc82) (va_cwS 2 hts gX6_periodByFactors_X6_leastMultiple rfl rfl rfl ydX6_leastMultiple ⟨Nat.le_of_ble_eq_true rfl, Nat.le_of_ble_eq_true rfl⟩) hnw rfl hl.1 rfl (Nat.le_of_ble_eq_true rfl) dX6_periodByFactors_82 ⟨Nat.le_of_ble_eq_true rfl, Nat.le_of_ble_eq_true rfl⟩ ?_
        refine lv_istore_n (lv' := [(1, .int r82), (2, .int x2_66), (3, .int (1 : Int32)), (5, .int (1 : Int32)), (0, .ref a_q0), (4, .int y4_9)]) hx hb dX6_periodByFactors_85 rfl hl (by decide) rfl (fun ls hl => ?_)
        obtain ⟨x4_86, e_x4_86⟩ : ∃ z : Int32, z = y4_9 + 1 := ⟨_, rfl⟩
        have h := bnd_h e_x4_86 h
        refine lv_iinc (v := x4_86) (lv' := [(4, .int x4_86), (1, .int r82), (2, .int x2_66), (3, .int (1 : Int32)), (5, .int (1 : Int32)), (0, .ref a_q0)]) hx hb dX6_periodByFactors_86 hl (k := 5) rfl (by rw [e_x4_86]; rfl) (by decide) rfl (fun ls hl => ?_)
        refine lv_goto (tgt := 9) hx hb dX6_periodByFactors_89 (by decide) ?_
        exact hih9 r82 x2_66 (1 : Int32) x4_86 h ls (lv_sub hl [5, 1, 2, 3, 0] rfl)

noncomputable abbrev rmX7_periodByFactors : Room := { frames := 5, cells := 0, slots := 0, locals := 122 }
theorem ydX7_periodByFactors : yX7_periodByFactors.cls = RX7 ∧ yX7_periodByFactors.cls ≠ "java/lang/invoke/MethodHandle" ∧ yX7_periodByFactors.cls ≠ "java/lang/invoke/VarHandle" ∧ (parseMethodDescriptor yX7_periodByFactors.desc).map (fun d => d.parameters.length) = some 1 := by decide +kernel
noncomputable def F_X7_periodByFactors (f_t_found_held : Nat → Int64) (p0 : Int64) : Option (Int32 × Int32 × (Nat → Int64)) :=
 obn2 (F_X1_findByTrying f_t_found_held p0) (fun c_t_found_size_9 f_t_found_held_9 =>
 obn (F_X6_periodByFactors c_t_found_size_9 f_t_found_held_9) (fun r16 =>
 some (r16, c_t_found_size_9, f_t_found_held_9)))
set_option maxHeartbeats 4000000 in
set_option maxRecDepth 100000 in
theorem c_X7_periodByFactors (l : Launch) (D : va_G) (cyJ : ClassId) (sz : Nat) (a_t : Nat) (a_t_forms : Nat) (a_t_roll : Nat) (a_t_row : Nat) (a_t_rows : Nat) (a_t_factors : Nat) (a_t_found : Nat) (a_t_foundOtherwise : Nat) (a_t_factors_parts : Nat) (a_t_found_held : Nat) (a_t_found_before : Nat) (c_t_acts : Int32) (c_t_refusals : Int32) (c_t_knocks : Int32) (c_t_found_size : Int32) (f_t_found_held : Nat → Int64) (p0 : Int64) (r0 : Int32) (o_c_t_found_size : Int32) (o_f_t_found_held : Nat → Int64) (hF : F_X7_periodByFactors f_t_found_held p0 = some (r0, o_c_t_found_size, o_f_t_found_held)) : Met l yX7_periodByFactors wsX7_periodByFactors rmX7_periodByFactors (va_Pc [.ref a_t, .long p0] (wPD D [(cyJ, .long)] [(a_t, .inr (6, [.ref a_t_forms, .ref a_t_roll, .ref a_t_row, .ref a_t_rows, .ref a_t_factors, .ref a_t_found, .ref a_t_foundOtherwise, .int c_t_acts, .int c_t_refusals, .int c_t_knocks])), (a_t_factors, .inr (2, [.ref a_t_factors_parts])), (a_t_found, .inr (3, [.ref a_t_found_held, .ref a_t_found_before, .int c_t_found_size])), (a_t_found_held, .inl (cyJ, 12, .inr (.inl f_t_found_held)))] sz)) (va_Qi (fun (r : Int32) (_ : Unit) => r = r0) (fun _ t => wQA D [(a_t, .inr (6, [.ref a_t_forms, .ref a_t_roll, .ref a_t_row, .ref a_t_rows, .ref a_t_factors, .ref a_t_found, .ref a_t_foundOtherwise, .int c_t_acts, .int c_t_refusals, .int c_t_knocks])), (a_t_factors, .inr (2, [.ref a_t_factors_parts])), (a_t_found, .inr (3, [.ref a_t_found_held, .ref a_t_found_before, .int o_c_t_found_size])), (a_t_found_held, .inl (cyJ, 12, .inr (.inl o_f_t_found_held)))] (va_A [(a_t, .inr (6, [.ref a_t_forms, .ref a_t_roll, .ref a_t_row, .ref a_t_rows, .ref a_t_factors, .ref a_t_found, .ref a_t_foundOtherwise, .int c_t_acts, .int c_t_refusals, .int c_t_knocks])), (a_t_factors, .inr (2, [.ref a_t_factors_parts])), (a_t_found, .inr (3, [.ref a_t_found_held, .ref a_t_found_before, .int c_t_found_size])), (a_t_found_held, .inl (cyJ, 12, .inr (.inl f_t_found_held)))] sz) t) (va_A [(a_t, .inr (6, [.ref a_t_forms, .ref a_t_roll, .ref a_t_row, .ref a_t_rows, .ref a_t_factors, .ref a_t_found, .ref a_t_foundOtherwise, .int c_t_acts, .int c_t_refusals, .int c_t_knocks])), (a_t_factors, .inr (2, [.ref a_t_factors_parts])), (a_t_found, .inr (3, [.ref a_t_found_held, .ref a_t_found_before, .int c_t_found_size])), (a_t_found_held, .inl (cyJ, 12, .inr (.inl f_t_found_held)))] sz)) 0 0 (va_A [(a_t, .inr (6, [.ref a_t_forms, .ref a_t_roll, .ref a_t_row, .ref a_t_rows, .ref a_t_factors, .ref a_t_found, .ref a_t_foundOtherwise, .int c_t_acts, .int c_t_refusals, .int c_t_knocks])), (a_t_factors, .inr (2, [.ref a_t_factors_parts])), (a_t_found, .inr (3, [.ref a_t_found_held, .ref a_t_found_before, .int c_t_found_size])), (a_t_found_held, .inl (cyJ, 12, .inr (.inl f_t_found_held)))] sz) := by
  refine Met.ofW (cc := cX7_periodByFactors) (maxL := 3) (ret := (some .int)) (by decide) rfl ?_
  intro p e s m args below meth c s₁ B hml hv
  obtain ⟨rfl, hsz, hP, hK, hD0, hnw⟩ := hv
  have hx := B.exec
  have hb := B.bytes
  have hr := B.returns
  have hts := atoms_spec (ws := wsX7_periodByFactors) B.pre
  have hown : s.vm.findClass RX7 = some m.cls := findClass_of_methodNamed B.named
  have hlocks := B.notSynchronized
  have hcf : CallFix _ _ _ _ _ _ _ _ _ := ⟨hx, hb, hml, hown, hts⟩
  have hinX7 : ∀ w ∈ u_ws RX7 TX7 10, w ∈ wsX7_periodByFactors := by decide +kernel
  have hfl37 := hts (.fieldLink RX7 37 "Formwheel" "factors" "LFormwheel$Factors;") (by decide +kernel)
  have hfl41 := hts (.fieldLink RX7 41 "Formwheel" "found" "LFormwheel$Roll;") (by decide +kernel)
  subst hsz
  have hD := hD0.self (sz := s.heap.size)
  generalize hAe : va_A [(a_t, .inr (6, [.ref a_t_forms, .ref a_t_roll, .ref a_t_row, .ref a_t_rows, .ref a_t_factors, .ref a_t_found, .ref a_t_foundOtherwise, .int c_t_acts, .int c_t_refusals, .int c_t_knocks])), (a_t_factors, .inr (2, [.ref a_t_factors_parts])), (a_t_found, .inr (3, [.ref a_t_found_held, .ref a_t_found_before, .int c_t_found_size])), (a_t_found_held, .inl (cyJ, 12, .inr (.inl f_t_found_held)))] s.heap.size = A at hD ⊢
  have hA : ∀ q : Nat, s.heap.size ≤ q → A q := fun q h => by rw [← hAe]; exact Or.inr h
  have hS : va_S A s.heap s.heap [] := va_S.rf
  have hP : va_P D vwCl [(a_t, .inr (6, [.ref a_t_forms, .ref a_t_roll, .ref a_t_row, .ref a_t_rows, .ref a_t_factors, .ref a_t_found, .ref a_t_foundOtherwise, .int c_t_acts, .int c_t_refusals, .int c_t_knocks])), (a_t_factors, .inr (2, [.ref a_t_factors_parts])), (a_t_found, .inr (3, [.ref a_t_found_held, .ref a_t_found_before, .int c_t_found_size])), (a_t_found_held, .inl (cyJ, 12, .inr (.inl f_t_found_held)))] s.heap := hP
  have hK0 := hK
  have hl := lv_entry ([.ref a_t, .long p0]) (n := 3) (Nat.le_of_ble_eq_true rfl)
  rw [lg_entry_eq]
  generalize (lg_sl ([.ref a_t, .long p0]) ++ List.replicate (3 - (lg_sl ([.ref a_t, .long p0])).length) Slot.unset).toArray = ls at hl ⊢
  have hl : lv_has ls 3 [(0, .ref a_t), (1, .long p0)] := hl
  have h := hF
  clear hF
  unfold F_X7_periodByFactors at h
  refine lv_aload_n hx hb dX7_periodByFactors_0 rfl (lv_at hl 0 rfl) ?_
  refine va_get (D := D) (ci := 6) (v := .ref a_t_factors) (C := RX7) (T := TX7) (N := 10) hx hb hts hinX7 hown hK hP 0 rfl rfl 4 (by decide) hfl37 (fun _ h9 => h9) rfl dX7_periodByFactors_1 ?_
  refine lv_lload_n hx hb dX7_periodByFactors_4 rfl (lv_at hl 1 rfl) ?_
  refine lv_aload_n hx hb dX7_periodByFactors_5 rfl (lv_at hl 0 rfl) ?_
  refine va_get (D := D) (ci := 6) (v := .ref a_t_found) (C := RX7) (T := TX7) (N := 10) hx hb hts hinX7 hown hK hP 0 rfl rfl 5 (by decide) hfl41 (fun _ h9 => h9) rfl dX7_periodByFactors_6 ?_
  obtain ⟨c_t_found_size_9, f_t_found_held_9, hc9, h⟩ := obn2_h h
  have hPc := hP.sub (ws' := [(a_t_found, .inr (3, [.ref a_t_found_held, .ref a_t_found_before, .int c_t_found_size])), (a_t_found_held, .inl (cyJ, 12, .inr (.inl f_t_found_held)))]) [2, 3] rfl
  have hDc := hD.sub (ws' := [(a_t_found, .inr (3, [.ref a_t_found_held, .ref a_t_found_before, .int c_t_found_size])), (a_t_found_held, .inl (cyJ, 12, .inr (.inl f_t_found_held)))]) [2, 3] (by decide) rfl
  refine hp_v (w1 := [(a_t_found, .inr (3, [.ref a_t_found_held, .ref a_t_found_before, .int c_t_found_size_9])), (a_t_found_held, .inl (cyJ, 12, .inr (.inl f_t_found_held_9)))]) (wr := [(a_t, .inr (6, [.ref a_t_forms, .ref a_t_roll, .ref a_t_row, .ref a_t_rows, .ref a_t_factors, .ref a_t_found, .ref a_t_foundOtherwise, .int c_t_acts, .int c_t_refusals, .int c_t_knocks])), (a_t_factors, .inr (2, [.ref a_t_factors_parts]))]) (va_runV (As := [.long p0, .ref a_t_found]) (rest := []) hcf (c_X1_findByTrying l D cyJ s.heap.size a_t_factors a_t_found a_t_found_held a_t_found_before c_t_found_size f_t_found_held p0 c_t_found_size_9 f_t_found_held_9 hc9) (cwV 2 hts gX7_periodByFactors_X1_findByTrying rfl rfl rfl ydX1_findByTrying ⟨Nat.le_of_ble_eq_true rfl, Nat.le_of_ble_eq_true rfl⟩) ⟨bl_PD, va_recv hK hP (ci := 2) (q0 := 1) rfl rfl, pr_PD hPc hK0 hDc hnw⟩ rfl rfl hl.1 rfl (lv_room (Nat.le_of_ble_eq_true rfl)) dX7_periodByFactors_9 ⟨Nat.le_of_ble_eq_true rfl, Nat.le_of_ble_eq_true rfl⟩) hP hD hS hA [2, 3] [0, 1] rfl rfl (by decide) (by decide) (fun H locs hP hD hS => ?_)
  have hP : va_P D vwCl [(a_t, .inr (6, [.ref a_t_forms, .ref a_t_roll, .ref a_t_row, .ref a_t_rows, .ref a_t_factors, .ref a_t_found, .ref a_t_foundOtherwise, .int c_t_acts, .int c_t_refusals, .int c_t_knocks])), (a_t_factors, .inr (2, [.ref a_t_factors_parts])), (a_t_found, .inr (3, [.ref a_t_found_held, .ref a_t_found_before, .int c_t_found_size_9])), (a_t_found_held, .inl (cyJ, 12, .inr (.inl f_t_found_held_9)))] H := hP
  have hD : va_D A [(a_t, .inr (6, [.ref a_t_forms, .ref a_t_roll, .ref a_t_row, .ref a_t_rows, .ref a_t_factors, .ref a_t_found, .ref a_t_foundOtherwise, .int c_t_acts, .int c_t_refusals, .int c_t_knocks])), (a_t_factors, .inr (2, [.ref a_t_factors_parts])), (a_t_found, .inr (3, [.ref a_t_found_held, .ref a_t_found_before, .int c_t_found_size_9])), (a_t_found_held, .inl (cyJ, 12, .inr (.inl f_t_found_held_9)))] := hD
  refine lv_aload_n hx hb dX7_periodByFactors_12 rfl (lv_at hl 0 rfl) ?_
  refine va_get (D := D) (ci := 6) (v := .ref a_t_found) (C := RX7) (T := TX7) (N := 10) hx hb hts hinX7 hown hK hP 0 rfl rfl 5 (by decide) hfl41 (fun _ h9 => h9) rfl dX7_periodByFactors_13 ?_
  obtain ⟨r16, hc16, h⟩ := obn_h h
  have hPc : va_P D vwCl [(a_t_found, .inr (3, [.ref a_t_found_held, .ref a_t_found_before, .int c_t_found_size_9])), (a_t_found_held, .inl (cyJ, 12, .inr (.inl f_t_found_held_9)))] H := hP.sub [2, 3] rfl
  refine rd_callS (As := [.ref a_t_found]) (rest := []) hcf (c_X6_periodByFactors l D cyJ a_t_found a_t_found_held a_t_found_before c_t_found_size_9 f_t_found_held_9 r16 hc16) (va_cwS 1 hts gX7_periodByFactors_X6_periodByFactors rfl rfl rfl ydX6_periodByFactors ⟨Nat.le_of_ble_eq_true rfl, Nat.le_of_ble_eq_true rfl⟩) hnw hPc hK0 rfl hl.1 rfl (Nat.le_of_ble_eq_true rfl) dX7_periodByFactors_16 ⟨Nat.le_of_ble_eq_true rfl, Nat.le_of_ble_eq_true rfl⟩ ?_
  obtain ⟨e0, e1, e2⟩ := tup3 h
  subst e0
  subst e1
  subst e2
  have hP9 : va_P D vwCl [(a_t, .inr (6, [.ref a_t_forms, .ref a_t_roll, .ref a_t_row, .ref a_t_rows, .ref a_t_factors, .ref a_t_found, .ref a_t_foundOtherwise, .int c_t_acts, .int c_t_refusals, .int c_t_knocks])), (a_t_factors, .inr (2, [.ref a_t_factors_parts])), (a_t_found, .inr (3, [.ref a_t_found_held, .ref a_t_found_before, .int c_t_found_size_9])), (a_t_found_held, .inl (cyJ, 12, .inr (.inl f_t_found_held_9)))] H := hP.sub [0, 1, 2, 3] rfl
  have hD9 : va_D A [(a_t, .inr (6, [.ref a_t_forms, .ref a_t_roll, .ref a_t_row, .ref a_t_rows, .ref a_t_factors, .ref a_t_found, .ref a_t_foundOtherwise, .int c_t_acts, .int c_t_refusals, .int c_t_knocks])), (a_t_factors, .inr (2, [.ref a_t_factors_parts])), (a_t_found, .inr (3, [.ref a_t_found_held, .ref a_t_found_before, .int c_t_found_size_9])), (a_t_found_held, .inl (cyJ, 12, .inr (.inl f_t_found_held_9)))] := hD.sub [0, 1, 2, 3] (by decide) rfl
  exact W.iret hx hb hr (fun t ht hW => ⟨⟨_, (), rfl, rfl, wQA_of ht hP9 hD9⟩, hS.F ht⟩) hS.2.2 dX7_periodByFactors_19

noncomputable abbrev rmX5_stepsTillSame : Room := { frames := 3, cells := 0, slots := 0, locals := 69 }
theorem ydX5_stepsTillSame : yX5_stepsTillSame.cls ≠ "java/lang/invoke/MethodHandle" ∧ yX5_stepsTillSame.cls ≠ "java/lang/invoke/VarHandle" ∧ (parseMethodDescriptor yX5_stepsTillSame.desc).map (fun d => d.parameters.length) = some 2 := by decide +kernel
noncomputable def S_X5_stepsTillSame_6 (z0_6 : Int64) (z2_6 : Int64) (k29 : Int32 → Option (Int32)) (k38 : Unit → Option (Int32)) (ih6 : Int64 → Int32 → Option (Int32)) (y4_6 : Int64) (y6_6 : Int32) : Option (Int32) :=
 (if (1000 : Int32) ≤ y6_6 then
 k38 ()
else
 obn (F_X5_stepped y4_6 z2_6) (fun r17 =>
 (if r17 = z0_6 then
 k29 y6_6
else
 bnd (y6_6 + 1) (fun x6_32 =>
 ih6 r17 x6_32))))
noncomputable def F_X5_stepsTillSame (p0 : Int64) (p1 : Int64) : Option (Int32) :=
 LQ2 (S_X5_stepsTillSame_6 p0 p1 (fun y6_6_29 =>
 some y6_6_29) (fun _ =>
 some (-1 : Int32))) 20000 p0 (1 : Int32)
set_option maxHeartbeats 4000000 in
set_option maxRecDepth 100000 in
theorem c_X5_stepsTillSame (l : Launch) (p0 : Int64) (p1 : Int64) (r0 : Int32) (hF : F_X5_stepsTillSame p0 p1 = some r0) : Met l yX5_stepsTillSame wsX5_stepsTillSame rmX5_stepsTillSame (va_Pc [.long p0, .long p1] NW) (k2_QcV (.int r0)) 0 0 (fun _ => False) := by
  refine Met.ofW (cc := cX5_stepsTillSame) (maxL := 7) (ret := (some .int)) (by decide) rfl ?_
  intro p e s m args below meth c s₁ B hml hv
  obtain ⟨rfl, hnw⟩ := hv
  have hx := B.exec
  have hb := B.bytes
  have hr := B.returns
  have hts := atoms_spec (ws := wsX5_stepsTillSame) B.pre
  have hown : s.vm.findClass RX5 = some m.cls := findClass_of_methodNamed B.named
  have hlocks := B.notSynchronized
  have hcf : CallFix _ _ _ _ _ _ _ _ _ := ⟨hx, hb, hml, hown, hts⟩
  have hl := lv_entry ([.long p0, .long p1]) (n := 7) (Nat.le_of_ble_eq_true rfl)
  rw [lg_entry_eq]
  generalize (lg_sl ([.long p0, .long p1]) ++ List.replicate (7 - (lg_sl ([.long p0, .long p1])).length) Slot.unset).toArray = ls at hl ⊢
  have hl : lv_has ls 7 [(0, .long p0), (2, .long p1)] := hl
  have h := hF
  clear hF
  unfold F_X5_stepsTillSame at h
  refine lv_lload_n hx hb dX5_stepsTillSame_0 rfl (lv_at hl 0 rfl) ?_
  refine lv_lstore (lv' := [(4, .long p0), (0, .long p0), (2, .long p1)]) hx hb dX5_stepsTillSame_1 hl (by decide) rfl (fun ls hl => ?_)
  refine lv_iconst (v := 1) hx hb dX5_stepsTillSame_3 (by decide) ?_
  refine lv_istore (lv' := [(6, .int (1 : Int32)), (4, .long p0), (0, .long p0), (2, .long p1)]) hx hb dX5_stepsTillSame_4 hl (by decide) rfl (fun ls hl => ?_)
  refine LQ2_k2 (M := fun (y4_6 : Int64) (y6_6 : Int32) => ∀ (ls : Array Slot), lv_has ls 7 [(0, .long p0), (2, .long p1), (4, .long y4_6), (6, .int y6_6)] → W p l e rmX5_stepsTillSame s m ([.long p0, .long p1] : List Value).toArray below meth c s.heap [] 0 0 (MQ below (k2_QcV (.int r0)) ([.long p0, .long p1] : List Value).toArray s 0 0 (fun _ => False)) (F0 m 6 ls [])) ?_ _ _ _ h ls (lv_sub hl [2, 3, 1, 0] rfl)
  intro k29 hk29 k38 hk38 ih6 hih6 y4_6 y6_6 h ls hl
  unfold S_X5_stepsTillSame_6 at h
  refine lv_iload hx hb dX5_stepsTillSame_6 (lv_at hl 3 rfl) ?_
  refine lv_sipush (v := 1000) hx hb dX5_stepsTillSame_8 (by decide) ?_
  refine lv_icmp_ge (tgt := 38) hx hb dX5_stepsTillSame_11 (by decide) (fun c11 => ?_) (fun c11 => ?_)
  · have h := it_ c11 h
    rw [hk38] at h
    refine lv_iconst (v := -1) hx hb dX5_stepsTillSame_38 (by decide) ?_
    have e1 := Option.some.inj h
    subst e1
    exact W.iret hx hb hr (fun t ht _ => ⟨rfl, ht⟩) no_q dX5_stepsTillSame_39
  · have h := if_ c11 h
    refine lv_lload hx hb dX5_stepsTillSame_14 (lv_at hl 2 rfl) ?_
    refine lv_lload_n hx hb dX5_stepsTillSame_16 rfl (lv_at hl 1 rfl) ?_
    obtain ⟨r17, hc17, h⟩ := obn_h h
    refine pz_callS (As := [.long y4_6, .long p1]) (rest := []) hcf (c_X5_stepped l y4_6 p1 r17 hc17) (va_cwS 2 hts gX5_stepsTillSame_X5_stepped rfl rfl rfl ydX5_stepped ⟨Nat.le_of_ble_eq_true rfl, Nat.le_of_ble_eq_true rfl⟩) hnw rfl hl.1 rfl (Nat.le_of_ble_eq_true rfl) dX5_stepsTillSame_17 ⟨Nat.le_of_ble_eq_true rfl, Nat.le_of_ble_eq_true rfl⟩ ?_
    refine lv_lstore (lv' := [(4, .long r17), (0, .long p0), (2, .long p1), (6, .int y6_6)]) hx hb dX5_stepsTillSame_20 hl (by decide) rfl (fun ls hl => ?_)
    refine lv_lload hx hb dX5_stepsTillSame_22 (lv_at hl 0 rfl) ?_
    refine lv_lload_n hx hb dX5_stepsTillSame_24 rfl (lv_at hl 1 rfl) ?_
    refine W.lcmp hx hb dX5_stepsTillSame_25 ?_
    refine lv_if_ne (tgt := 32) hx hb dX5_stepsTillSame_26 (by decide) (fun c26 => ?_) (fun c26 => ?_)
    · have c26 := fun z => c26 ((lg_cmp_eq _ _).mpr z)
      have h := if_ c26 h
      obtain ⟨x6_32, e_x6_32⟩ : ∃ z : Int32, z = y6_6 + 1 := ⟨_, rfl⟩
      have h := bnd_h e_x6_32 h
      refine lv_iinc (v := x6_32) (lv' := [(6, .int x6_32), (4, .long r17), (0, .long p0), (2, .long p1)]) hx hb dX5_stepsTillSame_32 hl (k := 3) rfl (by rw [e_x6_32]; rfl) (by decide) rfl (fun ls hl => ?_)
      refine lv_goto (tgt := 6) hx hb dX5_stepsTillSame_35 (by decide) ?_
      exact hih6 r17 x6_32 h ls (lv_sub hl [2, 3, 1, 0] rfl)
    · have c26 := (lg_cmp_eq _ _).mp c26
      have h := it_ c26 h
      rw [hk29] at h
      refine lv_iload hx hb dX5_stepsTillSame_29 (lv_at hl 3 rfl) ?_
      have e1 := Option.some.inj h
      subst e1
      exact W.iret hx hb hr (fun t ht _ => ⟨rfl, ht⟩) no_q dX5_stepsTillSame_31

noncomputable abbrev rmX6_periodBySteps : Room := { frames := 4, cells := 0, slots := 0, locals := 95 }
theorem ydX6_periodBySteps : yX6_periodBySteps.cls ≠ "java/lang/invoke/MethodHandle" ∧ yX6_periodBySteps.cls ≠ "java/lang/invoke/VarHandle" ∧ (parseMethodDescriptor yX6_periodBySteps.desc).map (fun d => d.parameters.length) = some 1 := by decide +kernel
noncomputable def F_X6_periodBySteps (p0 : Int64) : Option (Int32) :=
 obn (F_X5_cellsBegun p0) (fun r1 =>
 obn (F_X5_stepsTillSame r1 p0) (fun r5 =>
 some r5))
set_option maxHeartbeats 4000000 in
set_option maxRecDepth 100000 in
theorem c_X6_periodBySteps (l : Launch) (p0 : Int64) (r0 : Int32) (hF : F_X6_periodBySteps p0 = some r0) : Met l yX6_periodBySteps wsX6_periodBySteps rmX6_periodBySteps (va_Pc [.long p0] NW) (k2_QcV (.int r0)) 0 0 (fun _ => False) := by
  refine Met.ofW (cc := cX6_periodBySteps) (maxL := 2) (ret := (some .int)) (by decide) rfl ?_
  intro p e s m args below meth c s₁ B hml hv
  obtain ⟨rfl, hnw⟩ := hv
  have hx := B.exec
  have hb := B.bytes
  have hr := B.returns
  have hts := atoms_spec (ws := wsX6_periodBySteps) B.pre
  have hown : s.vm.findClass RX6 = some m.cls := findClass_of_methodNamed B.named
  have hlocks := B.notSynchronized
  have hcf : CallFix _ _ _ _ _ _ _ _ _ := ⟨hx, hb, hml, hown, hts⟩
  have hl := lv_entry ([.long p0]) (n := 2) (Nat.le_of_ble_eq_true rfl)
  rw [lg_entry_eq]
  generalize (lg_sl ([.long p0]) ++ List.replicate (2 - (lg_sl ([.long p0])).length) Slot.unset).toArray = ls at hl ⊢
  have hl : lv_has ls 2 [(0, .long p0)] := hl
  have h := hF
  clear hF
  unfold F_X6_periodBySteps at h
  refine lv_lload_n hx hb dX6_periodBySteps_0 rfl (lv_at hl 0 rfl) ?_
  obtain ⟨r1, hc1, h⟩ := obn_h h
  refine pz_callS (As := [.long p0]) (rest := []) hcf (c_X5_cellsBegun l p0 r1 hc1) (va_cwS 1 hts gX6_periodBySteps_X5_cellsBegun rfl rfl rfl ydX5_cellsBegun ⟨Nat.le_of_ble_eq_true rfl, Nat.le_of_ble_eq_true rfl⟩) hnw rfl hl.1 rfl (Nat.le_of_ble_eq_true rfl) dX6_periodBySteps_1 ⟨Nat.le_of_ble_eq_true rfl, Nat.le_of_ble_eq_true rfl⟩ ?_
  refine lv_lload_n hx hb dX6_periodBySteps_4 rfl (lv_at hl 0 rfl) ?_
  obtain ⟨r5, hc5, h⟩ := obn_h h
  refine pz_callS (As := [.long r1, .long p0]) (rest := []) hcf (c_X5_stepsTillSame l r1 p0 r5 hc5) (va_cwS 2 hts gX6_periodBySteps_X5_stepsTillSame rfl rfl rfl ydX5_stepsTillSame ⟨Nat.le_of_ble_eq_true rfl, Nat.le_of_ble_eq_true rfl⟩) hnw rfl hl.1 rfl (Nat.le_of_ble_eq_true rfl) dX6_periodBySteps_5 ⟨Nat.le_of_ble_eq_true rfl, Nat.le_of_ble_eq_true rfl⟩ ?_
  have e1 := Option.some.inj h
  subst e1
  exact W.iret hx hb hr (fun t ht _ => ⟨rfl, ht⟩) no_q dX6_periodBySteps_8

noncomputable abbrev rmX7_period : Room := { frames := 9, cells := 2, slots := 12, locals := 144 }
theorem ydX7_period : yX7_period.cls = RX7 ∧ yX7_period.cls ≠ "java/lang/invoke/MethodHandle" ∧ yX7_period.cls ≠ "java/lang/invoke/VarHandle" ∧ (parseMethodDescriptor yX7_period.desc).map (fun d => d.parameters.length) = some 2 := by decide +kernel
noncomputable def F_X7_period (f_t_forms : Nat → Int64) (c_t_found_size : Int32) (f_t_found_held : Nat → Int64) (p0 : Int32) (p1 : Int32) : Option (Nat × Int32 × Int32 × (Nat → Int64)) :=
 obn (F_X7_testForm p0) (fun xc1 =>
 if xc1 = 0 then
 obn (F_X7_testRange p1 (0 : Int32) (2 : Int32)) (fun xc7 =>
 if xc7 = 0 then
 chk (¬ (p0 < 0 ∨ 6 ≤ p0.toNatClampNeg)) (
 obn (F_X6_isWheel (f_t_forms p0.toNatClampNeg)) (fun r16 =>
 (if r16 = 0 then
 some (0, (-9 : Int32), c_t_found_size, f_t_found_held)
else
 (if p1 = 0 then
 chk (¬ (p0 < 0 ∨ 6 ≤ p0.toNatClampNeg)) (
 obn (F_X6_periodByMultiplying (f_t_forms p0.toNatClampNeg)) (fun r35 =>
 some (0, r35, c_t_found_size, f_t_found_held)))
else
 (if p1 = (1 : Int32) then
 chk (¬ (p0 < 0 ∨ 6 ≤ p0.toNatClampNeg)) (
 obn (F_X6_periodBySteps (f_t_forms p0.toNatClampNeg)) (fun r50 =>
 some (0, r50, c_t_found_size, f_t_found_held)))
else
 chk (¬ (p0 < 0 ∨ 6 ≤ p0.toNatClampNeg)) (
 obn3 (F_X7_periodByFactors f_t_found_held (f_t_forms p0.toNatClampNeg)) (fun r63 c_t_found_size_63 f_t_found_held_63 =>
 some (0, r63, c_t_found_size_63, f_t_found_held_63))))))))
else
 some (xc7, 0, c_t_found_size, f_t_found_held))
else
 some (xc1, 0, c_t_found_size, f_t_found_held))
set_option maxHeartbeats 4000000 in
set_option maxRecDepth 100000 in
theorem c_X7_period (l : Launch) (hfl : l.stackTraces = false) (D : va_G) (cyJ : ClassId) (sz : Nat) (a_t : Nat) (a_t_forms : Nat) (a_t_roll : Nat) (a_t_row : Nat) (a_t_rows : Nat) (a_t_factors : Nat) (a_t_found : Nat) (a_t_foundOtherwise : Nat) (a_t_factors_parts : Nat) (a_t_found_held : Nat) (a_t_found_before : Nat) (c_t_acts : Int32) (c_t_refusals : Int32) (c_t_knocks : Int32) (f_t_forms : Nat → Int64) (c_t_found_size : Int32) (f_t_found_held : Nat → Int64) (p0 : Int32) (p1 : Int32) (xc : Nat) (r0 : Int32) (o_c_t_found_size : Int32) (o_f_t_found_held : Nat → Int64) (hF : F_X7_period f_t_forms c_t_found_size f_t_found_held p0 p1 = some (xc, r0, o_c_t_found_size, o_f_t_found_held)) : vx_Met l yX7_period wsX7_period rmX7_period (va_Pc [.ref a_t, .int p0, .int p1] (wPX D [(cyJ, .long)] [(a_t, .inr (6, [.ref a_t_forms, .ref a_t_roll, .ref a_t_row, .ref a_t_rows, .ref a_t_factors, .ref a_t_found, .ref a_t_foundOtherwise, .int c_t_acts, .int c_t_refusals, .int c_t_knocks])), (a_t_forms, .inl (cyJ, 6, .inr (.inl f_t_forms))), (a_t_factors, .inr (2, [.ref a_t_factors_parts])), (a_t_found, .inr (3, [.ref a_t_found_held, .ref a_t_found_before, .int c_t_found_size])), (a_t_found_held, .inl (cyJ, 12, .inr (.inl f_t_found_held)))] sz)) (va_Qi (fun (r : Int32) (_ : Unit) => xc = 0 ∧ r = r0) (fun _ t => wQA D [(a_t, .inr (6, [.ref a_t_forms, .ref a_t_roll, .ref a_t_row, .ref a_t_rows, .ref a_t_factors, .ref a_t_found, .ref a_t_foundOtherwise, .int c_t_acts, .int c_t_refusals, .int c_t_knocks])), (a_t_forms, .inl (cyJ, 6, .inr (.inl f_t_forms))), (a_t_factors, .inr (2, [.ref a_t_factors_parts])), (a_t_found, .inr (3, [.ref a_t_found_held, .ref a_t_found_before, .int o_c_t_found_size])), (a_t_found_held, .inl (cyJ, 12, .inr (.inl o_f_t_found_held)))] (va_A [(a_t, .inr (6, [.ref a_t_forms, .ref a_t_roll, .ref a_t_row, .ref a_t_rows, .ref a_t_factors, .ref a_t_found, .ref a_t_foundOtherwise, .int c_t_acts, .int c_t_refusals, .int c_t_knocks])), (a_t_forms, .inl (cyJ, 6, .inr (.inl f_t_forms))), (a_t_factors, .inr (2, [.ref a_t_factors_parts])), (a_t_found, .inr (3, [.ref a_t_found_held, .ref a_t_found_before, .int c_t_found_size])), (a_t_found_held, .inl (cyJ, 12, .inr (.inl f_t_found_held)))] sz) t) (va_A [(a_t, .inr (6, [.ref a_t_forms, .ref a_t_roll, .ref a_t_row, .ref a_t_rows, .ref a_t_factors, .ref a_t_found, .ref a_t_foundOtherwise, .int c_t_acts, .int c_t_refusals, .int c_t_knocks])), (a_t_forms, .inl (cyJ, 6, .inr (.inl f_t_forms))), (a_t_factors, .inr (2, [.ref a_t_factors_parts])), (a_t_found, .inr (3, [.ref a_t_found_held, .ref a_t_found_before, .int c_t_found_size])), (a_t_found_held, .inl (cyJ, 12, .inr (.inl f_t_found_held)))] sz)) (vx_X (fun (_ : Unit) => ¬ xc = 0) (fun E _ t => E = xcls xc ∧ wQA D [(a_t, .inr (6, [.ref a_t_forms, .ref a_t_roll, .ref a_t_row, .ref a_t_rows, .ref a_t_factors, .ref a_t_found, .ref a_t_foundOtherwise, .int c_t_acts, .int c_t_refusals, .int c_t_knocks])), (a_t_forms, .inl (cyJ, 6, .inr (.inl f_t_forms))), (a_t_factors, .inr (2, [.ref a_t_factors_parts])), (a_t_found, .inr (3, [.ref a_t_found_held, .ref a_t_found_before, .int o_c_t_found_size])), (a_t_found_held, .inl (cyJ, 12, .inr (.inl o_f_t_found_held)))] (va_A [(a_t, .inr (6, [.ref a_t_forms, .ref a_t_roll, .ref a_t_row, .ref a_t_rows, .ref a_t_factors, .ref a_t_found, .ref a_t_foundOtherwise, .int c_t_acts, .int c_t_refusals, .int c_t_knocks])), (a_t_forms, .inl (cyJ, 6, .inr (.inl f_t_forms))), (a_t_factors, .inr (2, [.ref a_t_factors_parts])), (a_t_found, .inr (3, [.ref a_t_found_held, .ref a_t_found_before, .int c_t_found_size])), (a_t_found_held, .inl (cyJ, 12, .inr (.inl f_t_found_held)))] sz) t) (va_A [(a_t, .inr (6, [.ref a_t_forms, .ref a_t_roll, .ref a_t_row, .ref a_t_rows, .ref a_t_factors, .ref a_t_found, .ref a_t_foundOtherwise, .int c_t_acts, .int c_t_refusals, .int c_t_knocks])), (a_t_forms, .inl (cyJ, 6, .inr (.inl f_t_forms))), (a_t_factors, .inr (2, [.ref a_t_factors_parts])), (a_t_found, .inr (3, [.ref a_t_found_held, .ref a_t_found_before, .int c_t_found_size])), (a_t_found_held, .inl (cyJ, 12, .inr (.inl f_t_found_held)))] sz)) 2 12 (va_A [(a_t, .inr (6, [.ref a_t_forms, .ref a_t_roll, .ref a_t_row, .ref a_t_rows, .ref a_t_factors, .ref a_t_found, .ref a_t_foundOtherwise, .int c_t_acts, .int c_t_refusals, .int c_t_knocks])), (a_t_forms, .inl (cyJ, 6, .inr (.inl f_t_forms))), (a_t_factors, .inr (2, [.ref a_t_factors_parts])), (a_t_found, .inr (3, [.ref a_t_found_held, .ref a_t_found_before, .int c_t_found_size])), (a_t_found_held, .inl (cyJ, 12, .inr (.inl f_t_found_held)))] sz) := by
  refine vx_ofW (cc := cX7_period) (maxL := 3) (ret := (some .int)) (by decide) rfl ?_
  intro p e s m args below meth c s₁ B hml hxt hv
  obtain ⟨rfl, ⟨⟨hsz, hP, hK, hD0, hnw⟩, hE⟩⟩ := hv
  have hx := B.exec
  have hb := B.bytes
  have hr := B.returns
  have hts := atoms_spec (ws := wsX7_period) B.pre
  have hown : s.vm.findClass RX7 = some m.cls := findClass_of_methodNamed B.named
  have hlocks := B.notSynchronized
  have hcf : CallFix _ _ _ _ _ _ _ _ _ := ⟨hx, hb, hml, hown, hts⟩
  have hinX7 : ∀ w ∈ u_ws RX7 TX7 10, w ∈ wsX7_period := by decide +kernel
  have hfl9 := hts (.fieldLink RX7 9 "Formwheel" "forms" "[J") (by decide +kernel)
  subst hsz
  have hD := hD0.self (sz := s.heap.size)
  generalize hAe : va_A [(a_t, .inr (6, [.ref a_t_forms, .ref a_t_roll, .ref a_t_row, .ref a_t_rows, .ref a_t_factors, .ref a_t_found, .ref a_t_foundOtherwise, .int c_t_acts, .int c_t_refusals, .int c_t_knocks])), (a_t_forms, .inl (cyJ, 6, .inr (.inl f_t_forms))), (a_t_factors, .inr (2, [.ref a_t_factors_parts])), (a_t_found, .inr (3, [.ref a_t_found_held, .ref a_t_found_before, .int c_t_found_size])), (a_t_found_held, .inl (cyJ, 12, .inr (.inl f_t_found_held)))] s.heap.size = A at hD hE ⊢
  have hA : ∀ q : Nat, s.heap.size ≤ q → A q := fun q h => by rw [← hAe]; exact Or.inr h
  have hS : va_S A s.heap s.heap [] := va_S.rf
  have hP : va_P D vwCl [(a_t, .inr (6, [.ref a_t_forms, .ref a_t_roll, .ref a_t_row, .ref a_t_rows, .ref a_t_factors, .ref a_t_found, .ref a_t_foundOtherwise, .int c_t_acts, .int c_t_refusals, .int c_t_knocks])), (a_t_forms, .inl (cyJ, 6, .inr (.inl f_t_forms))), (a_t_factors, .inr (2, [.ref a_t_factors_parts])), (a_t_found, .inr (3, [.ref a_t_found_held, .ref a_t_found_before, .int c_t_found_size])), (a_t_found_held, .inl (cyJ, 12, .inr (.inl f_t_found_held)))] s.heap := hP
  have hK0 := hK
  have hl := lv_entry ([.ref a_t, .int p0, .int p1]) (n := 3) (Nat.le_of_ble_eq_true rfl)
  rw [lg_entry_eq]
  generalize (lg_sl ([.ref a_t, .int p0, .int p1]) ++ List.replicate (3 - (lg_sl ([.ref a_t, .int p0, .int p1])).length) Slot.unset).toArray = ls at hl ⊢
  have hl : lv_has ls 3 [(0, .ref a_t), (1, .int p0), (2, .int p1)] := hl
  have h := hF
  clear hF
  unfold F_X7_period at h
  refine lv_iload_n hx hb dX7_period_0 rfl (lv_at hl 1 rfl) ?_
  obtain ⟨xc1, hc1, h⟩ := obn_h h
  have hPc := hP.sub (ws' := []) [] rfl
  have hDc := hD.sub (ws' := []) [] (by decide) rfl
  refine hx_v (w1 := []) (wr := [(a_t, .inr (6, [.ref a_t_forms, .ref a_t_roll, .ref a_t_row, .ref a_t_rows, .ref a_t_factors, .ref a_t_found, .ref a_t_foundOtherwise, .int c_t_acts, .int c_t_refusals, .int c_t_knocks])), (a_t_forms, .inl (cyJ, 6, .inr (.inl f_t_forms))), (a_t_factors, .inr (2, [.ref a_t_factors_parts])), (a_t_found, .inr (3, [.ref a_t_found_held, .ref a_t_found_before, .int c_t_found_size])), (a_t_found_held, .inl (cyJ, 12, .inr (.inl f_t_found_held)))]) (vx_runS (As := [.int p0]) (rest := []) hcf (c_X7_testForm l hfl D cyJ s.heap.size p0 xc1 hc1) (va_cwS 1 hts gX7_period_X7_testForm rfl rfl rfl ydX7_testForm ⟨Nat.le_of_ble_eq_true rfl, Nat.le_of_ble_eq_true rfl⟩) ⟨bl_PX, pr_PX hPc hK0 hDc hnw hE hS (va_free hD hS hA [] rfl)⟩ rfl rfl hl.1 rfl (lv_room (Nat.le_of_ble_eq_true rfl)) dX7_period_1 ⟨Nat.le_of_ble_eq_true rfl, Nat.le_of_ble_eq_true rfl⟩) hP hD hS hA [] [0, 1, 2, 3, 4] rfl rfl (by decide) (by decide) (fun E9 ce9 q9 H locs hx9 hE9 hP hD hS hce9 hcv9 hcl9 => ?_) (fun hx9 H locs hP hD hS => ?_)
  · have h := if_ hx9 h
    have hP : va_P D vwCl [(a_t, .inr (6, [.ref a_t_forms, .ref a_t_roll, .ref a_t_row, .ref a_t_rows, .ref a_t_factors, .ref a_t_found, .ref a_t_foundOtherwise, .int c_t_acts, .int c_t_refusals, .int c_t_knocks])), (a_t_forms, .inl (cyJ, 6, .inr (.inl f_t_forms))), (a_t_factors, .inr (2, [.ref a_t_factors_parts])), (a_t_found, .inr (3, [.ref a_t_found_held, .ref a_t_found_before, .int c_t_found_size])), (a_t_found_held, .inl (cyJ, 12, .inr (.inl f_t_found_held)))] H := hP
    have hD : va_D A [(a_t, .inr (6, [.ref a_t_forms, .ref a_t_roll, .ref a_t_row, .ref a_t_rows, .ref a_t_factors, .ref a_t_found, .ref a_t_foundOtherwise, .int c_t_acts, .int c_t_refusals, .int c_t_knocks])), (a_t_forms, .inl (cyJ, 6, .inr (.inl f_t_forms))), (a_t_factors, .inr (2, [.ref a_t_factors_parts])), (a_t_found, .inr (3, [.ref a_t_found_held, .ref a_t_found_before, .int c_t_found_size])), (a_t_found_held, .inl (cyJ, 12, .inr (.inl f_t_found_held)))] := hD
    obtain ⟨e0, e1, e2, e3⟩ := tup4 h
    subst e0
    subst e1
    subst e2
    subst e3
    have hP9 : va_P D vwCl [(a_t, .inr (6, [.ref a_t_forms, .ref a_t_roll, .ref a_t_row, .ref a_t_rows, .ref a_t_factors, .ref a_t_found, .ref a_t_foundOtherwise, .int c_t_acts, .int c_t_refusals, .int c_t_knocks])), (a_t_forms, .inl (cyJ, 6, .inr (.inl f_t_forms))), (a_t_factors, .inr (2, [.ref a_t_factors_parts])), (a_t_found, .inr (3, [.ref a_t_found_held, .ref a_t_found_before, .int c_t_found_size])), (a_t_found_held, .inl (cyJ, 12, .inr (.inl f_t_found_held)))] H := hP.sub [0, 1, 2, 3, 4] rfl
    have hD9 : va_D A [(a_t, .inr (6, [.ref a_t_forms, .ref a_t_roll, .ref a_t_row, .ref a_t_rows, .ref a_t_factors, .ref a_t_found, .ref a_t_foundOtherwise, .int c_t_acts, .int c_t_refusals, .int c_t_knocks])), (a_t_forms, .inl (cyJ, 6, .inr (.inl f_t_forms))), (a_t_factors, .inr (2, [.ref a_t_factors_parts])), (a_t_found, .inr (3, [.ref a_t_found_held, .ref a_t_found_before, .int c_t_found_size])), (a_t_found_held, .inl (cyJ, 12, .inr (.inl f_t_found_held)))] := hD.sub [0, 1, 2, 3, 4] (by decide) rfl
    exact vx_out (fun x hx => (hxt x hx).elim) hlocks hce9 hcv9 hcl9 (fun t ht hW => ⟨(), hx9, ⟨hE9, wQA_of ht hP9 hD9⟩, hS.F ht⟩) hS.2.2 (Nat.le_of_ble_eq_true rfl) (Nat.le_of_ble_eq_true rfl)
  · have h := it_ hx9 h
    have hP : va_P D vwCl [(a_t, .inr (6, [.ref a_t_forms, .ref a_t_roll, .ref a_t_row, .ref a_t_rows, .ref a_t_factors, .ref a_t_found, .ref a_t_foundOtherwise, .int c_t_acts, .int c_t_refusals, .int c_t_knocks])), (a_t_forms, .inl (cyJ, 6, .inr (.inl f_t_forms))), (a_t_factors, .inr (2, [.ref a_t_factors_parts])), (a_t_found, .inr (3, [.ref a_t_found_held, .ref a_t_found_before, .int c_t_found_size])), (a_t_found_held, .inl (cyJ, 12, .inr (.inl f_t_found_held)))] H := hP
    have hD : va_D A [(a_t, .inr (6, [.ref a_t_forms, .ref a_t_roll, .ref a_t_row, .ref a_t_rows, .ref a_t_factors, .ref a_t_found, .ref a_t_foundOtherwise, .int c_t_acts, .int c_t_refusals, .int c_t_knocks])), (a_t_forms, .inl (cyJ, 6, .inr (.inl f_t_forms))), (a_t_factors, .inr (2, [.ref a_t_factors_parts])), (a_t_found, .inr (3, [.ref a_t_found_held, .ref a_t_found_before, .int c_t_found_size])), (a_t_found_held, .inl (cyJ, 12, .inr (.inl f_t_found_held)))] := hD
    refine lv_iload_n hx hb dX7_period_4 rfl (lv_at hl 2 rfl) ?_
    refine lv_iconst (v := 0) hx hb dX7_period_5 (by decide) ?_
    refine lv_iconst (v := 2) hx hb dX7_period_6 (by decide) ?_
    obtain ⟨xc7, hc7, h⟩ := obn_h h
    have hPc := hP.sub (ws' := []) [] rfl
    have hDc := hD.sub (ws' := []) [] (by decide) rfl
    refine hx_v (w1 := []) (wr := [(a_t, .inr (6, [.ref a_t_forms, .ref a_t_roll, .ref a_t_row, .ref a_t_rows, .ref a_t_factors, .ref a_t_found, .ref a_t_foundOtherwise, .int c_t_acts, .int c_t_refusals, .int c_t_knocks])), (a_t_forms, .inl (cyJ, 6, .inr (.inl f_t_forms))), (a_t_factors, .inr (2, [.ref a_t_factors_parts])), (a_t_found, .inr (3, [.ref a_t_found_held, .ref a_t_found_before, .int c_t_found_size])), (a_t_found_held, .inl (cyJ, 12, .inr (.inl f_t_found_held)))]) (vx_runS (As := [.int p1, .int (0 : Int32), .int (2 : Int32)]) (rest := []) hcf (c_X7_testRange l hfl D cyJ H.size p1 (0 : Int32) (2 : Int32) xc7 hc7) (va_cwS 3 hts gX7_period_X7_testRange rfl rfl rfl ydX7_testRange ⟨Nat.le_of_ble_eq_true rfl, Nat.le_of_ble_eq_true rfl⟩) ⟨bl_PX, pr_PX hPc hK0 hDc hnw hE hS (va_free hD hS hA [] rfl)⟩ rfl rfl hl.1 rfl (lv_room (Nat.le_of_ble_eq_true rfl)) dX7_period_7 ⟨Nat.le_of_ble_eq_true rfl, Nat.le_of_ble_eq_true rfl⟩) hP hD hS hA [] [0, 1, 2, 3, 4] rfl rfl (by decide) (by decide) (fun E9 ce9 q9 H locs hx9 hE9 hP hD hS hce9 hcv9 hcl9 => ?_) (fun hx9 H locs hP hD hS => ?_)
    · have h := if_ hx9 h
      have hP : va_P D vwCl [(a_t, .inr (6, [.ref a_t_forms, .ref a_t_roll, .ref a_t_row, .ref a_t_rows, .ref a_t_factors, .ref a_t_found, .ref a_t_foundOtherwise, .int c_t_acts, .int c_t_refusals, .int c_t_knocks])), (a_t_forms, .inl (cyJ, 6, .inr (.inl f_t_forms))), (a_t_factors, .inr (2, [.ref a_t_factors_parts])), (a_t_found, .inr (3, [.ref a_t_found_held, .ref a_t_found_before, .int c_t_found_size])), (a_t_found_held, .inl (cyJ, 12, .inr (.inl f_t_found_held)))] H := hP
      have hD : va_D A [(a_t, .inr (6, [.ref a_t_forms, .ref a_t_roll, .ref a_t_row, .ref a_t_rows, .ref a_t_factors, .ref a_t_found, .ref a_t_foundOtherwise, .int c_t_acts, .int c_t_refusals, .int c_t_knocks])), (a_t_forms, .inl (cyJ, 6, .inr (.inl f_t_forms))), (a_t_factors, .inr (2, [.ref a_t_factors_parts])), (a_t_found, .inr (3, [.ref a_t_found_held, .ref a_t_found_before, .int c_t_found_size])), (a_t_found_held, .inl (cyJ, 12, .inr (.inl f_t_found_held)))] := hD
      obtain ⟨e0, e1, e2, e3⟩ := tup4 h
      subst e0
      subst e1
      subst e2
      subst e3
      have hP9 : va_P D vwCl [(a_t, .inr (6, [.ref a_t_forms, .ref a_t_roll, .ref a_t_row, .ref a_t_rows, .ref a_t_factors, .ref a_t_found, .ref a_t_foundOtherwise, .int c_t_acts, .int c_t_refusals, .int c_t_knocks])), (a_t_forms, .inl (cyJ, 6, .inr (.inl f_t_forms))), (a_t_factors, .inr (2, [.ref a_t_factors_parts])), (a_t_found, .inr (3, [.ref a_t_found_held, .ref a_t_found_before, .int c_t_found_size])), (a_t_found_held, .inl (cyJ, 12, .inr (.inl f_t_found_held)))] H := hP.sub [0, 1, 2, 3, 4] rfl
      have hD9 : va_D A [(a_t, .inr (6, [.ref a_t_forms, .ref a_t_roll, .ref a_t_row, .ref a_t_rows, .ref a_t_factors, .ref a_t_found, .ref a_t_foundOtherwise, .int c_t_acts, .int c_t_refusals, .int c_t_knocks])), (a_t_forms, .inl (cyJ, 6, .inr (.inl f_t_forms))), (a_t_factors, .inr (2, [.ref a_t_factors_parts])), (a_t_found, .inr (3, [.ref a_t_found_held, .ref a_t_found_before, .int c_t_found_size])), (a_t_found_held, .inl (cyJ, 12, .inr (.inl f_t_found_held)))] := hD.sub [0, 1, 2, 3, 4] (by decide) rfl
      exact vx_out (fun x hx => (hxt x hx).elim) hlocks hce9 hcv9 hcl9 (fun t ht hW => ⟨(), hx9, ⟨hE9, wQA_of ht hP9 hD9⟩, hS.F ht⟩) hS.2.2 (Nat.le_of_ble_eq_true rfl) (Nat.le_of_ble_eq_true rfl)
    · have h := it_ hx9 h
      have hP : va_P D vwCl [(a_t, .inr (6, [.ref a_t_forms, .ref a_t_roll, .ref a_t_row, .ref a_t_rows, .ref a_t_factors, .ref a_t_found, .ref a_t_foundOtherwise, .int c_t_acts, .int c_t_refusals, .int c_t_knocks])), (a_t_forms, .inl (cyJ, 6, .inr (.inl f_t_forms))), (a_t_factors, .inr (2, [.ref a_t_factors_parts])), (a_t_found, .inr (3, [.ref a_t_found_held, .ref a_t_found_before, .int c_t_found_size])), (a_t_found_held, .inl (cyJ, 12, .inr (.inl f_t_found_held)))] H := hP
      have hD : va_D A [(a_t, .inr (6, [.ref a_t_forms, .ref a_t_roll, .ref a_t_row, .ref a_t_rows, .ref a_t_factors, .ref a_t_found, .ref a_t_foundOtherwise, .int c_t_acts, .int c_t_refusals, .int c_t_knocks])), (a_t_forms, .inl (cyJ, 6, .inr (.inl f_t_forms))), (a_t_factors, .inr (2, [.ref a_t_factors_parts])), (a_t_found, .inr (3, [.ref a_t_found_held, .ref a_t_found_before, .int c_t_found_size])), (a_t_found_held, .inl (cyJ, 12, .inr (.inl f_t_found_held)))] := hD
      refine lv_aload_n hx hb dX7_period_10 rfl (lv_at hl 0 rfl) ?_
      refine va_get (D := D) (ci := 6) (v := .ref a_t_forms) (C := RX7) (T := TX7) (N := 10) hx hb hts hinX7 hown hK hP 0 rfl rfl 0 (by decide) hfl9 (fun _ h9 => h9) rfl dX7_period_11 ?_
      refine lv_iload_n hx hb dX7_period_14 rfl (lv_at hl 1 rfl) ?_
      obtain ⟨hq15, h⟩ := chk_h h
      refine va_lald hx hb hK hP 1 0 rfl rfl hq15 dX7_period_15 ?_
      obtain ⟨r16, hc16, h⟩ := obn_h h
      refine pz_callS (As := [.long (f_t_forms p0.toNatClampNeg)]) (rest := []) hcf (c_X6_isWheel l (f_t_forms p0.toNatClampNeg) r16 hc16) (va_cwS 1 hts gX7_period_X6_isWheel rfl rfl rfl ydX6_isWheel ⟨Nat.le_of_ble_eq_true rfl, Nat.le_of_ble_eq_true rfl⟩) hnw rfl hl.1 rfl (Nat.le_of_ble_eq_true rfl) dX7_period_16 ⟨Nat.le_of_ble_eq_true rfl, Nat.le_of_ble_eq_true rfl⟩ ?_
      refine lv_if_ne (tgt := 25) hx hb dX7_period_19 (by decide) (fun c19 => ?_) (fun c19 => ?_)
      · have h := if_ c19 h
        refine lv_iload_n hx hb dX7_period_25 rfl (lv_at hl 2 rfl) ?_
        refine lv_if_ne (tgt := 39) hx hb dX7_period_26 (by decide) (fun c26 => ?_) (fun c26 => ?_)
        · have h := if_ c26 h
          refine lv_iload_n hx hb dX7_period_39 rfl (lv_at hl 2 rfl) ?_
          refine lv_iconst (v := 1) hx hb dX7_period_40 (by decide) ?_
          refine lv_icmp_ne (tgt := 56) hx hb dX7_period_41 (by decide) (fun c41 => ?_) (fun c41 => ?_)
          · have h := if_ c41 h
            refine lv_aload_n hx hb dX7_period_56 rfl (lv_at hl 0 rfl) ?_
            refine lv_aload_n hx hb dX7_period_57 rfl (lv_at hl 0 rfl) ?_
            refine va_get (D := D) (ci := 6) (v := .ref a_t_forms) (C := RX7) (T := TX7) (N := 10) hx hb hts hinX7 hown hK hP 0 rfl rfl 0 (by decide) hfl9 (fun _ h9 => h9) rfl dX7_period_58 ?_
            refine lv_iload_n hx hb dX7_period_61 rfl (lv_at hl 1 rfl) ?_
            obtain ⟨hq62, h⟩ := chk_h h
            refine va_lald hx hb hK hP 1 0 rfl rfl hq62 dX7_period_62 ?_
            obtain ⟨r63, c_t_found_size_63, f_t_found_held_63, hc63, h⟩ := obn3_h h
            have hPc := hP.sub (ws' := [(a_t, .inr (6, [.ref a_t_forms, .ref a_t_roll, .ref a_t_row, .ref a_t_rows, .ref a_t_factors, .ref a_t_found, .ref a_t_foundOtherwise, .int c_t_acts, .int c_t_refusals, .int c_t_knocks])), (a_t_factors, .inr (2, [.ref a_t_factors_parts])), (a_t_found, .inr (3, [.ref a_t_found_held, .ref a_t_found_before, .int c_t_found_size])), (a_t_found_held, .inl (cyJ, 12, .inr (.inl f_t_found_held)))]) [0, 2, 3, 4] rfl
            have hDc := hD.sub (ws' := [(a_t, .inr (6, [.ref a_t_forms, .ref a_t_roll, .ref a_t_row, .ref a_t_rows, .ref a_t_factors, .ref a_t_found, .ref a_t_foundOtherwise, .int c_t_acts, .int c_t_refusals, .int c_t_knocks])), (a_t_factors, .inr (2, [.ref a_t_factors_parts])), (a_t_found, .inr (3, [.ref a_t_found_held, .ref a_t_found_before, .int c_t_found_size])), (a_t_found_held, .inl (cyJ, 12, .inr (.inl f_t_found_held)))]) [0, 2, 3, 4] (by decide) rfl
            refine hp_i (w1 := [(a_t, .inr (6, [.ref a_t_forms, .ref a_t_roll, .ref a_t_row, .ref a_t_rows, .ref a_t_factors, .ref a_t_found, .ref a_t_foundOtherwise, .int c_t_acts, .int c_t_refusals, .int c_t_knocks])), (a_t_factors, .inr (2, [.ref a_t_factors_parts])), (a_t_found, .inr (3, [.ref a_t_found_held, .ref a_t_found_before, .int c_t_found_size_63])), (a_t_found_held, .inl (cyJ, 12, .inr (.inl f_t_found_held_63)))]) (wr := [(a_t_forms, .inl (cyJ, 6, .inr (.inl f_t_forms)))]) (va_runV (As := [.long (f_t_forms p0.toNatClampNeg)]) (rest := []) hcf (c_X7_periodByFactors l D cyJ H.size a_t a_t_forms a_t_roll a_t_row a_t_rows a_t_factors a_t_found a_t_foundOtherwise a_t_factors_parts a_t_found_held a_t_found_before c_t_acts c_t_refusals c_t_knocks c_t_found_size f_t_found_held (f_t_forms p0.toNatClampNeg) r63 c_t_found_size_63 f_t_found_held_63 hc63) (cwV 1 hts gX7_period_X7_periodByFactors rfl rfl rfl ydX7_periodByFactors ⟨Nat.le_of_ble_eq_true rfl, Nat.le_of_ble_eq_true rfl⟩) ⟨bl_PD, va_recv hK hP (ci := 6) (q0 := 0) rfl rfl, pr_PD hPc hK0 hDc hnw⟩ rfl rfl hl.1 rfl (lv_room (Nat.le_of_ble_eq_true rfl)) dX7_period_63 ⟨Nat.le_of_ble_eq_true rfl, Nat.le_of_ble_eq_true rfl⟩) hP hD hS hA [0, 2, 3, 4] [1] rfl rfl (by decide) (by decide) (fun H locs hP hD hS => ?_)
            have hP : va_P D vwCl [(a_t_forms, .inl (cyJ, 6, .inr (.inl f_t_forms))), (a_t, .inr (6, [.ref a_t_forms, .ref a_t_roll, .ref a_t_row, .ref a_t_rows, .ref a_t_factors, .ref a_t_found, .ref a_t_foundOtherwise, .int c_t_acts, .int c_t_refusals, .int c_t_knocks])), (a_t_factors, .inr (2, [.ref a_t_factors_parts])), (a_t_found, .inr (3, [.ref a_t_found_held, .ref a_t_found_before, .int c_t_found_size_63])), (a_t_found_held, .inl (cyJ, 12, .inr (.inl f_t_found_held_63)))] H := hP
            have hD : va_D A [(a_t_forms, .inl (cyJ, 6, .inr (.inl f_t_forms))), (a_t, .inr (6, [.ref a_t_forms, .ref a_t_roll, .ref a_t_row, .ref a_t_rows, .ref a_t_factors, .ref a_t_found, .ref a_t_foundOtherwise, .int c_t_acts, .int c_t_refusals, .int c_t_knocks])), (a_t_factors, .inr (2, [.ref a_t_factors_parts])), (a_t_found, .inr (3, [.ref a_t_found_held, .ref a_t_found_before, .int c_t_found_size_63])), (a_t_found_held, .inl (cyJ, 12, .inr (.inl f_t_found_held_63)))] := hD
            obtain ⟨e0, e1, e2, e3⟩ := tup4 h
            subst e0
            subst e1
            subst e2
            subst e3
            have hP9 : va_P D vwCl [(a_t, .inr (6, [.ref a_t_forms, .ref a_t_roll, .ref a_t_row, .ref a_t_rows, .ref a_t_factors, .ref a_t_found, .ref a_t_foundOtherwise, .int c_t_acts, .int c_t_refusals, .int c_t_knocks])), (a_t_forms, .inl (cyJ, 6, .inr (.inl f_t_forms))), (a_t_factors, .inr (2, [.ref a_t_factors_parts])), (a_t_found, .inr (3, [.ref a_t_found_held, .ref a_t_found_before, .int c_t_found_size_63])), (a_t_found_held, .inl (cyJ, 12, .inr (.inl f_t_found_held_63)))] H := hP.sub [1, 0, 2, 3, 4] rfl
            have hD9 : va_D A [(a_t, .inr (6, [.ref a_t_forms, .ref a_t_roll, .ref a_t_row, .ref a_t_rows, .ref a_t_factors, .ref a_t_found, .ref a_t_foundOtherwise, .int c_t_acts, .int c_t_refusals, .int c_t_knocks])), (a_t_forms, .inl (cyJ, 6, .inr (.inl f_t_forms))), (a_t_factors, .inr (2, [.ref a_t_factors_parts])), (a_t_found, .inr (3, [.ref a_t_found_held, .ref a_t_found_before, .int c_t_found_size_63])), (a_t_found_held, .inl (cyJ, 12, .inr (.inl f_t_found_held_63)))] := hD.sub [1, 0, 2, 3, 4] (by decide) rfl
            refine vx_ret ?_
            exact W.iret hx hb hr (fun t ht hW => ⟨⟨_, (), rfl, ⟨rfl, rfl⟩, wQA_of ht hP9 hD9⟩, hS.F ht⟩) hS.2.2 dX7_period_66
          · have h := it_ c41 h
            refine lv_aload_n hx hb dX7_period_44 rfl (lv_at hl 0 rfl) ?_
            refine va_get (D := D) (ci := 6) (v := .ref a_t_forms) (C := RX7) (T := TX7) (N := 10) hx hb hts hinX7 hown hK hP 0 rfl rfl 0 (by decide) hfl9 (fun _ h9 => h9) rfl dX7_period_45 ?_
            refine lv_iload_n hx hb dX7_period_48 rfl (lv_at hl 1 rfl) ?_
            obtain ⟨hq49, h⟩ := chk_h h
            refine va_lald hx hb hK hP 1 0 rfl rfl hq49 dX7_period_49 ?_
            obtain ⟨r50, hc50, h⟩ := obn_h h
            refine pz_callS (As := [.long (f_t_forms p0.toNatClampNeg)]) (rest := []) hcf (c_X6_periodBySteps l (f_t_forms p0.toNatClampNeg) r50 hc50) (va_cwS 1 hts gX7_period_X6_periodBySteps rfl rfl rfl ydX6_periodBySteps ⟨Nat.le_of_ble_eq_true rfl, Nat.le_of_ble_eq_true rfl⟩) hnw rfl hl.1 rfl (Nat.le_of_ble_eq_true rfl) dX7_period_50 ⟨Nat.le_of_ble_eq_true rfl, Nat.le_of_ble_eq_true rfl⟩ ?_
            refine lv_goto (tgt := 66) hx hb dX7_period_53 (by decide) ?_
            obtain ⟨e0, e1, e2, e3⟩ := tup4 h
            subst e0
            subst e1
            subst e2
            subst e3
            have hP9 : va_P D vwCl [(a_t, .inr (6, [.ref a_t_forms, .ref a_t_roll, .ref a_t_row, .ref a_t_rows, .ref a_t_factors, .ref a_t_found, .ref a_t_foundOtherwise, .int c_t_acts, .int c_t_refusals, .int c_t_knocks])), (a_t_forms, .inl (cyJ, 6, .inr (.inl f_t_forms))), (a_t_factors, .inr (2, [.ref a_t_factors_parts])), (a_t_found, .inr (3, [.ref a_t_found_held, .ref a_t_found_before, .int c_t_found_size])), (a_t_found_held, .inl (cyJ, 12, .inr (.inl f_t_found_held)))] H := hP.sub [0, 1, 2, 3, 4] rfl
            have hD9 : va_D A [(a_t, .inr (6, [.ref a_t_forms, .ref a_t_roll, .ref a_t_row, .ref a_t_rows, .ref a_t_factors, .ref a_t_found, .ref a_t_foundOtherwise, .int c_t_acts, .int c_t_refusals, .int c_t_knocks])), (a_t_forms, .inl (cyJ, 6, .inr (.inl f_t_forms))), (a_t_factors, .inr (2, [.ref a_t_factors_parts])), (a_t_found, .inr (3, [.ref a_t_found_held, .ref a_t_found_before, .int c_t_found_size])), (a_t_found_held, .inl (cyJ, 12, .inr (.inl f_t_found_held)))] := hD.sub [0, 1, 2, 3, 4] (by decide) rfl
            refine vx_ret ?_
            exact W.iret hx hb hr (fun t ht hW => ⟨⟨_, (), rfl, ⟨rfl, rfl⟩, wQA_of ht hP9 hD9⟩, hS.F ht⟩) hS.2.2 dX7_period_66
        · have h := it_ c26 h
          refine lv_aload_n hx hb dX7_period_29 rfl (lv_at hl 0 rfl) ?_
          refine va_get (D := D) (ci := 6) (v := .ref a_t_forms) (C := RX7) (T := TX7) (N := 10) hx hb hts hinX7 hown hK hP 0 rfl rfl 0 (by decide) hfl9 (fun _ h9 => h9) rfl dX7_period_30 ?_
          refine lv_iload_n hx hb dX7_period_33 rfl (lv_at hl 1 rfl) ?_
          obtain ⟨hq34, h⟩ := chk_h h
          refine va_lald hx hb hK hP 1 0 rfl rfl hq34 dX7_period_34 ?_
          obtain ⟨r35, hc35, h⟩ := obn_h h
          refine pz_callS (As := [.long (f_t_forms p0.toNatClampNeg)]) (rest := []) hcf (c_X6_periodByMultiplying l (f_t_forms p0.toNatClampNeg) r35 hc35) (va_cwS 1 hts gX7_period_X6_periodByMultiplying rfl rfl rfl ydX6_periodByMultiplying ⟨Nat.le_of_ble_eq_true rfl, Nat.le_of_ble_eq_true rfl⟩) hnw rfl hl.1 rfl (Nat.le_of_ble_eq_true rfl) dX7_period_35 ⟨Nat.le_of_ble_eq_true rfl, Nat.le_of_ble_eq_true rfl⟩ ?_
          obtain ⟨e0, e1, e2, e3⟩ := tup4 h
          subst e0
          subst e1
          subst e2
          subst e3
          have hP9 : va_P D vwCl [(a_t, .inr (6, [.ref a_t_forms, .ref a_t_roll, .ref a_t_row, .ref a_t_rows, .ref a_t_factors, .ref a_t_found, .ref a_t_foundOtherwise, .int c_t_acts, .int c_t_refusals, .int c_t_knocks])), (a_t_forms, .inl (cyJ, 6, .inr (.inl f_t_forms))), (a_t_factors, .inr (2, [.ref a_t_factors_parts])), (a_t_found, .inr (3, [.ref a_t_found_held, .ref a_t_found_before, .int c_t_found_size])), (a_t_found_held, .inl (cyJ, 12, .inr (.inl f_t_found_held)))] H := hP.sub [0, 1, 2, 3, 4] rfl
          have hD9 : va_D A [(a_t, .inr (6, [.ref a_t_forms, .ref a_t_roll, .ref a_t_row, .ref a_t_rows, .ref a_t_factors, .ref a_t_found, .ref a_t_foundOtherwise, .int c_t_acts, .int c_t_refusals, .int c_t_knocks])), (a_t_forms, .inl (cyJ, 6, .inr (.inl f_t_forms))), (a_t_factors, .inr (2, [.ref a_t_factors_parts])), (a_t_found, .inr (3, [.ref a_t_found_held, .ref a_t_found_before, .int c_t_found_size])), (a_t_found_held, .inl (cyJ, 12, .inr (.inl f_t_found_held)))] := hD.sub [0, 1, 2, 3, 4] (by decide) rfl
          refine vx_ret ?_
          exact W.iret hx hb hr (fun t ht hW => ⟨⟨_, (), rfl, ⟨rfl, rfl⟩, wQA_of ht hP9 hD9⟩, hS.F ht⟩) hS.2.2 dX7_period_38
      · have h := it_ c19 h
        refine lv_bipush (v := -9) hx hb dX7_period_22 (by decide) ?_
        obtain ⟨e0, e1, e2, e3⟩ := tup4 h
        subst e0
        subst e1
        subst e2
        subst e3
        have hP9 : va_P D vwCl [(a_t, .inr (6, [.ref a_t_forms, .ref a_t_roll, .ref a_t_row, .ref a_t_rows, .ref a_t_factors, .ref a_t_found, .ref a_t_foundOtherwise, .int c_t_acts, .int c_t_refusals, .int c_t_knocks])), (a_t_forms, .inl (cyJ, 6, .inr (.inl f_t_forms))), (a_t_factors, .inr (2, [.ref a_t_factors_parts])), (a_t_found, .inr (3, [.ref a_t_found_held, .ref a_t_found_before, .int c_t_found_size])), (a_t_found_held, .inl (cyJ, 12, .inr (.inl f_t_found_held)))] H := hP.sub [0, 1, 2, 3, 4] rfl
        have hD9 : va_D A [(a_t, .inr (6, [.ref a_t_forms, .ref a_t_roll, .ref a_t_row, .ref a_t_rows, .ref a_t_factors, .ref a_t_found, .ref a_t_foundOtherwise, .int c_t_acts, .int c_t_refusals, .int c_t_knocks])), (a_t_forms, .inl (cyJ, 6, .inr (.inl f_t_forms))), (a_t_factors, .inr (2, [.ref a_t_factors_parts])), (a_t_found, .inr (3, [.ref a_t_found_held, .ref a_t_found_before, .int c_t_found_size])), (a_t_found_held, .inl (cyJ, 12, .inr (.inl f_t_found_held)))] := hD.sub [0, 1, 2, 3, 4] (by decide) rfl
        refine vx_ret ?_
        exact W.iret hx hb hr (fun t ht hW => ⟨⟨_, (), rfl, ⟨rfl, rfl⟩, wQA_of ht hP9 hD9⟩, hS.F ht⟩) hS.2.2 dX7_period_24

noncomputable abbrev rmX7_rollText : Room := { frames := 9, cells := 137, slots := 40214, locals := 214 }
theorem ydX7_rollText : yX7_rollText.cls = RX7 ∧ yX7_rollText.cls ≠ "java/lang/invoke/MethodHandle" ∧ yX7_rollText.cls ≠ "java/lang/invoke/VarHandle" ∧ (parseMethodDescriptor yX7_rollText.desc).map (fun d => d.parameters.length) = some 1 := by decide +kernel
noncomputable def F_X7_rollText (c_t_roll_size : Int32) (f_t_roll_held : Nat → Int64) (p0 : Int32) : Option (Nat) :=
 obn (F_X7_testRolled c_t_roll_size p0) (fun xc2 =>
 if xc2 = 0 then
 obn (F_X3_at c_t_roll_size f_t_roll_held p0) (fun r10 =>
 obn (F_X0_textOf r10) (fun u13 =>
 some 0))
else
 some xc2)
set_option maxHeartbeats 4000000 in
set_option maxRecDepth 100000 in
theorem c_X7_rollText (l : Launch) (hfl : l.stackTraces = false) (D : va_G) (cyJ cyB : ClassId) (adK adV : Nat → Nat) (sz : Nat) (a_t : Nat) (a_t_forms : Nat) (a_t_roll : Nat) (a_t_row : Nat) (a_t_rows : Nat) (a_t_factors : Nat) (a_t_found : Nat) (a_t_foundOtherwise : Nat) (a_t_roll_held : Nat) (a_t_roll_before : Nat) (c_t_acts : Int32) (c_t_refusals : Int32) (c_t_knocks : Int32) (c_t_roll_size : Int32) (f_t_roll_held : Nat → Int64) (p0 : Int32) (xc : Nat) (hF : F_X7_rollText c_t_roll_size f_t_roll_held p0 = some xc) : vx_Met l yX7_rollText wsX7_rollText rmX7_rollText (va_Pc [.ref a_t, .int p0] (wPXT D [(cyJ, .long), (cyB, .byte)] [(a_t, .inr (6, [.ref a_t_forms, .ref a_t_roll, .ref a_t_row, .ref a_t_rows, .ref a_t_factors, .ref a_t_found, .ref a_t_foundOtherwise, .int c_t_acts, .int c_t_refusals, .int c_t_knocks])), (a_t_roll, .inr (3, [.ref a_t_roll_held, .ref a_t_roll_before, .int c_t_roll_size])), (a_t_roll_held, .inl (cyJ, 12, .inr (.inl f_t_roll_held)))] adK adV sz)) (va_Qr (fun (_ : Unit) => xc = 0) (fun u r t => wQA D [(a_t, .inr (6, [.ref a_t_forms, .ref a_t_roll, .ref a_t_row, .ref a_t_rows, .ref a_t_factors, .ref a_t_found, .ref a_t_foundOtherwise, .int c_t_acts, .int c_t_refusals, .int c_t_knocks])), (a_t_roll, .inr (3, [.ref a_t_roll_held, .ref a_t_roll_before, .int c_t_roll_size])), (a_t_roll_held, .inl (cyJ, 12, .inr (.inl f_t_roll_held)))] (va_A [(a_t, .inr (6, [.ref a_t_forms, .ref a_t_roll, .ref a_t_row, .ref a_t_rows, .ref a_t_factors, .ref a_t_found, .ref a_t_foundOtherwise, .int c_t_acts, .int c_t_refusals, .int c_t_knocks])), (a_t_roll, .inr (3, [.ref a_t_roll_held, .ref a_t_roll_before, .int c_t_roll_size])), (a_t_roll_held, .inl (cyJ, 12, .inr (.inl f_t_roll_held)))] sz) t) (va_A [(a_t, .inr (6, [.ref a_t_forms, .ref a_t_roll, .ref a_t_row, .ref a_t_rows, .ref a_t_factors, .ref a_t_found, .ref a_t_foundOtherwise, .int c_t_acts, .int c_t_refusals, .int c_t_knocks])), (a_t_roll, .inr (3, [.ref a_t_roll_held, .ref a_t_roll_before, .int c_t_roll_size])), (a_t_roll_held, .inl (cyJ, 12, .inr (.inl f_t_roll_held)))] sz)) (vx_X (fun (_ : Unit) => ¬ xc = 0) (fun E _ t => E = xcls xc ∧ wQA D [(a_t, .inr (6, [.ref a_t_forms, .ref a_t_roll, .ref a_t_row, .ref a_t_rows, .ref a_t_factors, .ref a_t_found, .ref a_t_foundOtherwise, .int c_t_acts, .int c_t_refusals, .int c_t_knocks])), (a_t_roll, .inr (3, [.ref a_t_roll_held, .ref a_t_roll_before, .int c_t_roll_size])), (a_t_roll_held, .inl (cyJ, 12, .inr (.inl f_t_roll_held)))] (va_A [(a_t, .inr (6, [.ref a_t_forms, .ref a_t_roll, .ref a_t_row, .ref a_t_rows, .ref a_t_factors, .ref a_t_found, .ref a_t_foundOtherwise, .int c_t_acts, .int c_t_refusals, .int c_t_knocks])), (a_t_roll, .inr (3, [.ref a_t_roll_held, .ref a_t_roll_before, .int c_t_roll_size])), (a_t_roll_held, .inl (cyJ, 12, .inr (.inl f_t_roll_held)))] sz) t) (va_A [(a_t, .inr (6, [.ref a_t_forms, .ref a_t_roll, .ref a_t_row, .ref a_t_rows, .ref a_t_factors, .ref a_t_found, .ref a_t_foundOtherwise, .int c_t_acts, .int c_t_refusals, .int c_t_knocks])), (a_t_roll, .inr (3, [.ref a_t_roll_held, .ref a_t_roll_before, .int c_t_roll_size])), (a_t_roll_held, .inl (cyJ, 12, .inr (.inl f_t_roll_held)))] sz)) 137 40214 (va_A [(a_t, .inr (6, [.ref a_t_forms, .ref a_t_roll, .ref a_t_row, .ref a_t_rows, .ref a_t_factors, .ref a_t_found, .ref a_t_foundOtherwise, .int c_t_acts, .int c_t_refusals, .int c_t_knocks])), (a_t_roll, .inr (3, [.ref a_t_roll_held, .ref a_t_roll_before, .int c_t_roll_size])), (a_t_roll_held, .inl (cyJ, 12, .inr (.inl f_t_roll_held)))] sz) := by
  refine vx_ofW (cc := cX7_rollText) (maxL := 2) (ret := (some (.object "java/lang/String"))) (by decide) rfl ?_
  intro p e s m args below meth c s₁ B hml hxt hv
  obtain ⟨rfl, ⟨⟨⟨hsz, hP, hK, hD0, hnw⟩, hE⟩, hT⟩⟩ := hv
  have hx := B.exec
  have hb := B.bytes
  have hr := B.returns
  have hts := atoms_spec (ws := wsX7_rollText) B.pre
  have hown : s.vm.findClass RX7 = some m.cls := findClass_of_methodNamed B.named
  have hlocks := B.notSynchronized
  have hcf : CallFix _ _ _ _ _ _ _ _ _ := ⟨hx, hb, hml, hown, hts⟩
  have hinX7 : ∀ w ∈ u_ws RX7 TX7 10, w ∈ wsX7_rollText := by decide +kernel
  have hfl16 := hts (.fieldLink RX7 16 "Formwheel" "roll" "LFormwheel$Roll;") (by decide +kernel)
  subst hsz
  have hD := hD0.self (sz := s.heap.size)
  generalize hAe : va_A [(a_t, .inr (6, [.ref a_t_forms, .ref a_t_roll, .ref a_t_row, .ref a_t_rows, .ref a_t_factors, .ref a_t_found, .ref a_t_foundOtherwise, .int c_t_acts, .int c_t_refusals, .int c_t_knocks])), (a_t_roll, .inr (3, [.ref a_t_roll_held, .ref a_t_roll_before, .int c_t_roll_size])), (a_t_roll_held, .inl (cyJ, 12, .inr (.inl f_t_roll_held)))] s.heap.size = A at hD hE hT ⊢
  have hA : ∀ q : Nat, s.heap.size ≤ q → A q := fun q h => by rw [← hAe]; exact Or.inr h
  have hS : va_S A s.heap s.heap [] := va_S.rf
  have hP : va_P D vwCl [(a_t, .inr (6, [.ref a_t_forms, .ref a_t_roll, .ref a_t_row, .ref a_t_rows, .ref a_t_factors, .ref a_t_found, .ref a_t_foundOtherwise, .int c_t_acts, .int c_t_refusals, .int c_t_knocks])), (a_t_roll, .inr (3, [.ref a_t_roll_held, .ref a_t_roll_before, .int c_t_roll_size])), (a_t_roll_held, .inl (cyJ, 12, .inr (.inl f_t_roll_held)))] s.heap := hP
  have hK0 := hK
  have hcB : s.vm.findClass "[B" = some cyB := (hK.2 1 _ rfl).2
  have hl := lv_entry ([.ref a_t, .int p0]) (n := 2) (Nat.le_of_ble_eq_true rfl)
  rw [lg_entry_eq]
  generalize (lg_sl ([.ref a_t, .int p0]) ++ List.replicate (2 - (lg_sl ([.ref a_t, .int p0])).length) Slot.unset).toArray = ls at hl ⊢
  have hl : lv_has ls 2 [(0, .ref a_t), (1, .int p0)] := hl
  have h := hF
  clear hF
  unfold F_X7_rollText at h
  refine lv_aload_n hx hb dX7_rollText_0 rfl (lv_at hl 0 rfl) ?_
  refine lv_iload_n hx hb dX7_rollText_1 rfl (lv_at hl 1 rfl) ?_
  obtain ⟨xc2, hc2, h⟩ := obn_h h
  have hPc := hP.sub (ws' := [(a_t, .inr (6, [.ref a_t_forms, .ref a_t_roll, .ref a_t_row, .ref a_t_rows, .ref a_t_factors, .ref a_t_found, .ref a_t_foundOtherwise, .int c_t_acts, .int c_t_refusals, .int c_t_knocks])), (a_t_roll, .inr (3, [.ref a_t_roll_held, .ref a_t_roll_before, .int c_t_roll_size]))]) [0, 1] rfl
  have hDc := hD.sub (ws' := [(a_t, .inr (6, [.ref a_t_forms, .ref a_t_roll, .ref a_t_row, .ref a_t_rows, .ref a_t_factors, .ref a_t_found, .ref a_t_foundOtherwise, .int c_t_acts, .int c_t_refusals, .int c_t_knocks])), (a_t_roll, .inr (3, [.ref a_t_roll_held, .ref a_t_roll_before, .int c_t_roll_size]))]) [0, 1] (by decide) rfl
  refine hx_v (w1 := [(a_t, .inr (6, [.ref a_t_forms, .ref a_t_roll, .ref a_t_row, .ref a_t_rows, .ref a_t_factors, .ref a_t_found, .ref a_t_foundOtherwise, .int c_t_acts, .int c_t_refusals, .int c_t_knocks])), (a_t_roll, .inr (3, [.ref a_t_roll_held, .ref a_t_roll_before, .int c_t_roll_size]))]) (wr := [(a_t_roll_held, .inl (cyJ, 12, .inr (.inl f_t_roll_held)))]) (vx_runV (As := [.int p0]) (rest := []) hcf (c_X7_testRolled l hfl D cyJ s.heap.size a_t a_t_forms a_t_roll a_t_row a_t_rows a_t_factors a_t_found a_t_foundOtherwise a_t_roll_held a_t_roll_before c_t_acts c_t_refusals c_t_knocks c_t_roll_size p0 xc2 hc2) (cwV 1 hts gX7_rollText_X7_testRolled rfl rfl rfl ydX7_testRolled ⟨Nat.le_of_ble_eq_true rfl, Nat.le_of_ble_eq_true rfl⟩) ⟨bl_PX, va_recv hK hP (ci := 6) (q0 := 0) rfl rfl, pr_PX hPc (hK0.sub [0] rfl) hDc hnw hE hS (va_free hD hS hA [0, 1] rfl)⟩ rfl rfl hl.1 rfl (lv_room (Nat.le_of_ble_eq_true rfl)) dX7_rollText_2 ⟨Nat.le_of_ble_eq_true rfl, Nat.le_of_ble_eq_true rfl⟩) hP hD hS hA [0, 1] [2] rfl rfl (by decide) (by decide) (fun E9 ce9 q9 H locs hx9 hE9 hP hD hS hce9 hcv9 hcl9 => ?_) (fun hx9 H locs hP hD hS => ?_)
  · have h := if_ hx9 h
    have hP : va_P D vwCl [(a_t_roll_held, .inl (cyJ, 12, .inr (.inl f_t_roll_held))), (a_t, .inr (6, [.ref a_t_forms, .ref a_t_roll, .ref a_t_row, .ref a_t_rows, .ref a_t_factors, .ref a_t_found, .ref a_t_foundOtherwise, .int c_t_acts, .int c_t_refusals, .int c_t_knocks])), (a_t_roll, .inr (3, [.ref a_t_roll_held, .ref a_t_roll_before, .int c_t_roll_size]))] H := hP
    have hD : va_D A [(a_t_roll_held, .inl (cyJ, 12, .inr (.inl f_t_roll_held))), (a_t, .inr (6, [.ref a_t_forms, .ref a_t_roll, .ref a_t_row, .ref a_t_rows, .ref a_t_factors, .ref a_t_found, .ref a_t_foundOtherwise, .int c_t_acts, .int c_t_refusals, .int c_t_knocks])), (a_t_roll, .inr (3, [.ref a_t_roll_held, .ref a_t_roll_before, .int c_t_roll_size]))] := hD
    have e1 := Option.some.inj h
    subst e1
    have hP9 : va_P D vwCl [(a_t, .inr (6, [.ref a_t_forms, .ref a_t_roll, .ref a_t_row, .ref a_t_rows, .ref a_t_factors, .ref a_t_found, .ref a_t_foundOtherwise, .int c_t_acts, .int c_t_refusals, .int c_t_knocks])), (a_t_roll, .inr (3, [.ref a_t_roll_held, .ref a_t_roll_before, .int c_t_roll_size])), (a_t_roll_held, .inl (cyJ, 12, .inr (.inl f_t_roll_held)))] H := hP.sub [1, 2, 0] rfl
    have hD9 : va_D A [(a_t, .inr (6, [.ref a_t_forms, .ref a_t_roll, .ref a_t_row, .ref a_t_rows, .ref a_t_factors, .ref a_t_found, .ref a_t_foundOtherwise, .int c_t_acts, .int c_t_refusals, .int c_t_knocks])), (a_t_roll, .inr (3, [.ref a_t_roll_held, .ref a_t_roll_before, .int c_t_roll_size])), (a_t_roll_held, .inl (cyJ, 12, .inr (.inl f_t_roll_held)))] := hD.sub [1, 2, 0] (by decide) rfl
    exact vx_out (fun x hx => (hxt x hx).elim) hlocks hce9 hcv9 hcl9 (fun t ht hW => ⟨(), hx9, ⟨hE9, wQA_of ht hP9 hD9⟩, hS.F ht⟩) hS.2.2 (Nat.le_of_ble_eq_true rfl) (Nat.le_of_ble_eq_true rfl)
  · have h := it_ hx9 h
    have hP : va_P D vwCl [(a_t_roll_held, .inl (cyJ, 12, .inr (.inl f_t_roll_held))), (a_t, .inr (6, [.ref a_t_forms, .ref a_t_roll, .ref a_t_row, .ref a_t_rows, .ref a_t_factors, .ref a_t_found, .ref a_t_foundOtherwise, .int c_t_acts, .int c_t_refusals, .int c_t_knocks])), (a_t_roll, .inr (3, [.ref a_t_roll_held, .ref a_t_roll_before, .int c_t_roll_size]))] H := hP
    have hD : va_D A [(a_t_roll_held, .inl (cyJ, 12, .inr (.inl f_t_roll_held))), (a_t, .inr (6, [.ref a_t_forms, .ref a_t_roll, .ref a_t_row, .ref a_t_rows, .ref a_t_factors, .ref a_t_found, .ref a_t_foundOtherwise, .int c_t_acts, .int c_t_refusals, .int c_t_knocks])), (a_t_roll, .inr (3, [.ref a_t_roll_held, .ref a_t_roll_before, .int c_t_roll_size]))] := hD
    refine lv_aload_n hx hb dX7_rollText_5 rfl (lv_at hl 0 rfl) ?_
    refine va_get (D := D) (ci := 6) (v := .ref a_t_roll) (C := RX7) (T := TX7) (N := 10) hx hb hts hinX7 hown hK hP 1 rfl rfl 1 (by decide) hfl16 (fun _ h9 => h9) rfl dX7_rollText_6 ?_
    refine lv_iload_n hx hb dX7_rollText_9 rfl (lv_at hl 1 rfl) ?_
    obtain ⟨r10, hc10, h⟩ := obn_h h
    have hPc : va_P D vwCl [(a_t_roll, .inr (3, [.ref a_t_roll_held, .ref a_t_roll_before, .int c_t_roll_size])), (a_t_roll_held, .inl (cyJ, 12, .inr (.inl f_t_roll_held)))] H := hP.sub [2, 0] rfl
    refine rd_callV (As := [.int p0]) (rest := []) hcf (c_X3_at l D cyJ a_t_roll a_t_roll_held a_t_roll_before c_t_roll_size f_t_roll_held p0 r10 hc10) (cwV 1 hts gX7_rollText_X3_at rfl rfl rfl ydX3_at ⟨Nat.le_of_ble_eq_true rfl, Nat.le_of_ble_eq_true rfl⟩) hnw hPc (hK0.sub [0] rfl) (va_recv hK hP (ci := 3) (q0 := 2) rfl rfl) rfl hl.1 rfl (Nat.le_of_ble_eq_true rfl) dX7_rollText_10 ⟨Nat.le_of_ble_eq_true rfl, Nat.le_of_ble_eq_true rfl⟩ ?_
    obtain ⟨u13, hc13, h⟩ := obn_h h
    have hPc := hP.sub (ws' := []) [] rfl
    have hDc := hD.sub (ws' := []) [] (by decide) rfl
    refine hp_r (wr := [(a_t_roll_held, .inl (cyJ, 12, .inr (.inl f_t_roll_held))), (a_t, .inr (6, [.ref a_t_forms, .ref a_t_roll, .ref a_t_row, .ref a_t_rows, .ref a_t_factors, .ref a_t_found, .ref a_t_foundOtherwise, .int c_t_acts, .int c_t_refusals, .int c_t_knocks])), (a_t_roll, .inr (3, [.ref a_t_roll_held, .ref a_t_roll_before, .int c_t_roll_size]))]) (va_runS (As := [.long r10]) (rest := []) hcf (c_X0_textOf l D cyJ cyB adK adV H.size r10 hc13) (va_cwS 1 hts gX7_rollText_X0_textOf rfl rfl rfl ydX0_textOf ⟨Nat.le_of_ble_eq_true rfl, Nat.le_of_ble_eq_true rfl⟩) ⟨bl_PDT, pr_PDT hPc hK0 hDc hnw hT hS (va_free hD hS hA [] rfl)⟩ rfl rfl hl.1 rfl (lv_room (Nat.le_of_ble_eq_true rfl)) dX7_rollText_13 ⟨Nat.le_of_ble_eq_true rfl, Nat.le_of_ble_eq_true rfl⟩) hP hD hS hA [] [0, 1, 2] rfl rfl (by decide) (by decide) (fun u13 b_ret13_13 H locs hP hD hS => ?_)
    have hP : va_P D vwCl [(a_t_roll_held, .inl (cyJ, 12, .inr (.inl f_t_roll_held))), (a_t, .inr (6, [.ref a_t_forms, .ref a_t_roll, .ref a_t_row, .ref a_t_rows, .ref a_t_factors, .ref a_t_found, .ref a_t_foundOtherwise, .int c_t_acts, .int c_t_refusals, .int c_t_knocks])), (a_t_roll, .inr (3, [.ref a_t_roll_held, .ref a_t_roll_before, .int c_t_roll_size]))] H := hP
    have hD : va_D A [(a_t_roll_held, .inl (cyJ, 12, .inr (.inl f_t_roll_held))), (a_t, .inr (6, [.ref a_t_forms, .ref a_t_roll, .ref a_t_row, .ref a_t_rows, .ref a_t_factors, .ref a_t_found, .ref a_t_foundOtherwise, .int c_t_acts, .int c_t_refusals, .int c_t_knocks])), (a_t_roll, .inr (3, [.ref a_t_roll_held, .ref a_t_roll_before, .int c_t_roll_size]))] := hD
    have e1 := Option.some.inj h
    subst e1
    have hP9 : va_P D vwCl [(a_t, .inr (6, [.ref a_t_forms, .ref a_t_roll, .ref a_t_row, .ref a_t_rows, .ref a_t_factors, .ref a_t_found, .ref a_t_foundOtherwise, .int c_t_acts, .int c_t_refusals, .int c_t_knocks])), (a_t_roll, .inr (3, [.ref a_t_roll_held, .ref a_t_roll_before, .int c_t_roll_size])), (a_t_roll_held, .inl (cyJ, 12, .inr (.inl f_t_roll_held)))] H := hP.sub [1, 2, 0] rfl
    have hD9 : va_D A [(a_t, .inr (6, [.ref a_t_forms, .ref a_t_roll, .ref a_t_row, .ref a_t_rows, .ref a_t_factors, .ref a_t_found, .ref a_t_foundOtherwise, .int c_t_acts, .int c_t_refusals, .int c_t_knocks])), (a_t_roll, .inr (3, [.ref a_t_roll_held, .ref a_t_roll_before, .int c_t_roll_size])), (a_t_roll_held, .inl (cyJ, 12, .inr (.inl f_t_roll_held)))] := hD.sub [1, 2, 0] (by decide) rfl
    refine vx_ret ?_
    exact W.aret (v := .ref b_ret13_13) hx hb hr (Or.inl ⟨_, rfl⟩) (Or.inr ⟨_, rfl⟩) (fun t ht hW => ⟨⟨(), b_ret13_13, rfl, rfl, wQA_of ht hP9 hD9⟩, hS.F ht⟩) hS.2.2 dX7_rollText_16
