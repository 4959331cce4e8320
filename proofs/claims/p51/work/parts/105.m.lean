noncomputable abbrev rmX1_findByDegrees : Room := { frames := 5, cells := 0, slots := 0, locals := 132 }
theorem ydX1_findByDegrees : yX1_findByDegrees.cls = RX1 ∧ yX1_findByDegrees.cls ≠ "java/lang/invoke/MethodHandle" ∧ yX1_findByDegrees.cls ≠ "java/lang/invoke/VarHandle" ∧ (parseMethodDescriptor yX1_findByDegrees.desc).map (fun d => d.parameters.length) = some 2 := by decide +kernel
noncomputable def S_X1_findByDegrees_54 (c_t_parts_size_z54 : Int32) (f_t_parts_held_z54 : Nat → Int64) (k89 : Int64 → Int32 → (Nat → Int64) → Option (Int32 × (Nat → Int64) × Int32 × (Nat → Int64))) (ih54 : Int64 → Int32 → Int32 → (Nat → Int64) → Option (Int32 × (Nat → Int64) × Int32 × (Nat → Int64))) (y4_54 : Int64) (y9_54 : Int32) (c_q1_size_54 : Int32) (f_q1_held_54 : Nat → Int64) : Option (Int32 × (Nat → Int64) × Int32 × (Nat → Int64)) :=
 (if c_t_parts_size_z54 ≤ y9_54 then
 k89 y4_54 c_q1_size_54 f_q1_held_54
else
 obn (F_X3_at c_t_parts_size_z54 f_t_parts_held_z54 y9_54) (fun r74 =>
 obn3 (F_X1_dividedOut c_q1_size_54 f_q1_held_54 y4_54 r74) (fun r78 c_q1_size_78 f_q1_held_78 =>
 bnd (y9_54 + 1) (fun x9_83 =>
 ih54 r78 x9_83 c_q1_size_78 f_q1_held_78))))
noncomputable def S_X1_findByDegrees_10 (k95 : Int32 → (Nat → Int64) → Int32 → (Nat → Int64) → Option (Int32 × (Nat → Int64) × Int32 × (Nat → Int64))) (ih10 : Int64 → Int32 → Int32 → (Nat → Int64) → Int32 → (Nat → Int64) → Option (Int32 × (Nat → Int64) × Int32 × (Nat → Int64))) (y4_10 : Int64) (y6_10 : Int32) (c_t_parts_size_10 : Int32) (f_t_parts_held_10 : Nat → Int64) (c_q1_size_10 : Int32) (f_q1_held_10 : Nat → Int64) : Option (Int32 × (Nat → Int64) × Int32 × (Nat → Int64)) :=
 (if (10 : Int32) < y6_10 then
 k95 c_t_parts_size_10 f_t_parts_held_10 c_q1_size_10 f_q1_held_10
else
 obn (F_X0_degreeOf y4_10) (fun r19 =>
 (if r19 ≤ 0 then
 k95 c_t_parts_size_10 f_t_parts_held_10 c_q1_size_10 f_q1_held_10
else
 obn (F_X0_risenRest y6_10 y4_10) (fun r31 =>
 obn (F_X0_greatestBoth y4_10 (r31 ^^^ (2 : Int64))) (fun r38 =>
 obn2 (F_X1_partByTraces f_t_parts_held_10 r38 y6_10) (fun c_t_parts_size_48 f_t_parts_held_48 =>
 LQ4 (S_X1_findByDegrees_54 c_t_parts_size_48 f_t_parts_held_48 (fun y4_54_89 c_q1_size_54_89 f_q1_held_54_89 =>
 bnd (y6_10 + 1) (fun x6_89 =>
 ih10 y4_54_89 x6_89 c_t_parts_size_48 f_t_parts_held_48 c_q1_size_54_89 f_q1_held_54_89))) 20000 y4_10 (0 : Int32) c_q1_size_10 f_q1_held_10))))))
noncomputable def F_X1_findByDegrees (c_t_parts_size : Int32) (f_t_parts_held : Nat → Int64) (f_q1_held : Nat → Int64) (p0 : Int64) : Option (Int32 × (Nat → Int64) × Int32 × (Nat → Int64)) :=
 obn (F_X3_removeAll ) (fun c_q1_size_1 =>
 LQ6 (S_X1_findByDegrees_10 (fun c_t_parts_size_10_95 f_t_parts_held_10_95 c_q1_size_10_95 f_q1_held_10_95 =>
 some (c_t_parts_size_10_95, f_t_parts_held_10_95, c_q1_size_10_95, f_q1_held_10_95))) 20000 p0 (1 : Int32) c_t_parts_size f_t_parts_held c_q1_size_1 f_q1_held)
set_option maxHeartbeats 4000000 in
set_option maxRecDepth 100000 in
theorem c_X1_findByDegrees (l : Launch) (D : va_G) (cyJ : ClassId) (sz : Nat) (a_t : Nat) (a_q1 : Nat) (a_t_parts : Nat) (a_t_parts_held : Nat) (a_t_parts_before : Nat) (a_q1_held : Nat) (a_q1_before : Nat) (c_t_parts_size : Int32) (f_t_parts_held : Nat → Int64) (c_q1_size : Int32) (f_q1_held : Nat → Int64) (p0 : Int64) (o_c_t_parts_size : Int32) (o_f_t_parts_held : Nat → Int64) (o_c_q1_size : Int32) (o_f_q1_held : Nat → Int64) (hF : F_X1_findByDegrees c_t_parts_size f_t_parts_held f_q1_held p0 = some (o_c_t_parts_size, o_f_t_parts_held, o_c_q1_size, o_f_q1_held)) : Met l yX1_findByDegrees wsX1_findByDegrees rmX1_findByDegrees (va_Pc [.ref a_t, .long p0, .ref a_q1] (wPD D [(cyJ, .long)] [(a_t, .inr (2, [.ref a_t_parts])), (a_t_parts, .inr (3, [.ref a_t_parts_held, .ref a_t_parts_before, .int c_t_parts_size])), (a_t_parts_held, .inl (cyJ, 12, .inr (.inl f_t_parts_held))), (a_q1, .inr (3, [.ref a_q1_held, .ref a_q1_before, .int c_q1_size])), (a_q1_held, .inl (cyJ, 12, .inr (.inl f_q1_held)))] sz)) (va_Qv (fun (_ : Unit) => True) (fun _ t => wQA D [(a_t, .inr (2, [.ref a_t_parts])), (a_t_parts, .inr (3, [.ref a_t_parts_held, .ref a_t_parts_before, .int o_c_t_parts_size])), (a_t_parts_held, .inl (cyJ, 12, .inr (.inl o_f_t_parts_held))), (a_q1, .inr (3, [.ref a_q1_held, .ref a_q1_before, .int o_c_q1_size])), (a_q1_held, .inl (cyJ, 12, .inr (.inl o_f_q1_held)))] (va_A [(a_t, .inr (2, [.ref a_t_parts])), (a_t_parts, .inr (3, [.ref a_t_parts_held, .ref a_t_parts_before, .int c_t_parts_size])), (a_t_parts_held, .inl (cyJ, 12, .inr (.inl f_t_parts_held))), (a_q1, .inr (3, [.ref a_q1_held, .ref a_q1_before, .int c_q1_size])), (a_q1_held, .inl (cyJ, 12, .inr (.inl f_q1_held)))] sz) t) (va_A [(a_t, .inr (2, [.ref a_t_parts])), (a_t_parts, .inr (3, [.ref a_t_parts_held, .ref a_t_parts_before, .int c_t_parts_size])), (a_t_parts_held, .inl (cyJ, 12, .inr (.inl f_t_parts_held))), (a_q1, .inr (3, [.ref a_q1_held, .ref a_q1_before, .int c_q1_size])), (a_q1_held, .inl (cyJ, 12, .inr (.inl f_q1_held)))] sz)) 0 0 (va_A [(a_t, .inr (2, [.ref a_t_parts])), (a_t_parts, .inr (3, [.ref a_t_parts_held, .ref a_t_parts_before, .int c_t_parts_size])), (a_t_parts_held, .inl (cyJ, 12, .inr (.inl f_t_parts_held))), (a_q1, .inr (3, [.ref a_q1_held, .ref a_q1_before, .int c_q1_size])), (a_q1_held, .inl (cyJ, 12, .inr (.inl f_q1_held)))] sz) := by
  refine Met.ofW (cc := cX1_findByDegrees) (maxL := 10) (ret := none) (by decide) rfl ?_
  intro p e s m args below meth c s₁ B hml hv
  obtain ⟨rfl, hsz, hP, hK, hD0, hnw⟩ := hv
  have hx := B.exec
  have hb := B.bytes
  have hr := B.returns
  have hts := atoms_spec (ws := wsX1_findByDegrees) B.pre
  have hown : s.vm.findClass RX1 = some m.cls := findClass_of_methodNamed B.named
  have hlocks := B.notSynchronized
  have hcf : CallFix _ _ _ _ _ _ _ _ _ := ⟨hx, hb, hml, hown, hts⟩
  have hinX1 : ∀ w ∈ u_ws RX1 TX1 1, w ∈ wsX1_findByDegrees := by decide +kernel
  have hfl12 := hts (.fieldLink RX1 12 "Formwheel$Factors" "parts" "LFormwheel$Roll;") (by decide +kernel)
  have hinX3 : ∀ w ∈ u_ws RX3 TX3 3, w ∈ wsX1_findByDegrees := by decide +kernel
  have hfl52 := hnw.use (A := ([.ref a_t, .long p0, .ref a_q1] : List Value).toArray) (w := .fieldLinkNest RX1 52 "Formwheel$Roll" "size" "I" "Formwheel") (by decide +kernel)
  subst hsz
  have hD := hD0.self (sz := s.heap.size)
  generalize hAe : va_A [(a_t, .inr (2, [.ref a_t_parts])), (a_t_parts, .inr (3, [.ref a_t_parts_held, .ref a_t_parts_before, .int c_t_parts_size])), (a_t_parts_held, .inl (cyJ, 12, .inr (.inl f_t_parts_held))), (a_q1, .inr (3, [.ref a_q1_held, .ref a_q1_before, .int c_q1_size])), (a_q1_held, .inl (cyJ, 12, .inr (.inl f_q1_held)))] s.heap.size = A at hD ⊢
  have hA : ∀ q : Nat, s.heap.size ≤ q → A q := fun q h => by rw [← hAe]; exact Or.inr h
  have hS : va_S A s.heap s.heap [] := va_S.rf
  have hP : va_P D vwCl [(a_t, .inr (2, [.ref a_t_parts])), (a_t_parts, .inr (3, [.ref a_t_parts_held, .ref a_t_parts_before, .int c_t_parts_size])), (a_t_parts_held, .inl (cyJ, 12, .inr (.inl f_t_parts_held))), (a_q1, .inr (3, [.ref a_q1_held, .ref a_q1_before, .int c_q1_size])), (a_q1_held, .inl (cyJ, 12, .inr (.inl f_q1_held)))] s.heap := hP
  have hK0 := hK
  have hl := lv_entry ([.ref a_t, .long p0, .ref a_q1]) (n := 10) (Nat.le_of_ble_eq_true rfl)
  rw [lg_entry_eq]
  generalize (lg_sl ([.ref a_t, .long p0, .ref a_q1]) ++ List.replicate (10 - (lg_sl ([.ref a_t, .long p0, .ref a_q1])).length) Slot.unset).toArray = ls at hl ⊢
  have hl : lv_has ls 10 [(0, .ref a_t), (1, .long p0), (3, .ref a_q1)] := hl
  have h := hF
  clear hF
  unfold F_X1_findByDegrees at h
  refine lv_aload_n hx hb dX1_findByDegrees_0 rfl (lv_at hl 2 rfl) ?_
  obtain ⟨c_q1_size_1, hc1, h⟩ := obn_h h
  have hPc := hP.sub (ws' := [(a_q1, .inr (3, [.ref a_q1_held, .ref a_q1_before, .int c_q1_size]))]) [3] rfl
  have hDc := hD.sub (ws' := [(a_q1, .inr (3, [.ref a_q1_held, .ref a_q1_before, .int c_q1_size]))]) [3] (by decide) rfl
  refine hp_v (w1 := [(a_q1, .inr (3, [.ref a_q1_held, .ref a_q1_before, .int c_q1_size_1]))]) (wr := [(a_t, .inr (2, [.ref a_t_parts])), (a_t_parts, .inr (3, [.ref a_t_parts_held, .ref a_t_parts_before, .int c_t_parts_size])), (a_t_parts_held, .inl (cyJ, 12, .inr (.inl f_t_parts_held))), (a_q1_held, .inl (cyJ, 12, .inr (.inl f_q1_held)))]) (va_runV (As := []) (rest := []) hcf (c_X3_removeAll l D cyJ s.heap.size a_q1 a_q1_held a_q1_before c_q1_size c_q1_size_1 hc1) (cwV 0 hts gX1_findByDegrees_X3_removeAll rfl rfl rfl ydX3_removeAll ⟨Nat.le_of_ble_eq_true rfl, Nat.le_of_ble_eq_true rfl⟩) ⟨bl_PD, va_recv hK hP (ci := 3) (q0 := 3) rfl rfl, pr_PD hPc hK0 hDc hnw⟩ rfl rfl hl.1 rfl (lv_room (Nat.le_of_ble_eq_true rfl)) dX1_findByDegrees_1 ⟨Nat.le_of_ble_eq_true rfl, Nat.le_of_ble_eq_true rfl⟩) hP hD hS hA [3] [0, 1, 2, 4] rfl rfl (by decide) (by decide) (fun H locs hP hD hS => ?_)
  have hP : va_P D vwCl [(a_t, .inr (2, [.ref a_t_parts])), (a_t_parts, .inr (3, [.ref a_t_parts_held, .ref a_t_parts_before, .int c_t_parts_size])), (a_t_parts_held, .inl (cyJ, 12, .inr (.inl f_t_parts_held))), (a_q1_held, .inl (cyJ, 12, .inr (.inl f_q1_held))), (a_q1, .inr (3, [.ref a_q1_held, .ref a_q1_before, .int c_q1_size_1]))] H := hP
  have hD : va_D A [(a_t, .inr (2, [.ref a_t_parts])), (a_t_parts, .inr (3, [.ref a_t_parts_held, .ref a_t_parts_before, .int c_t_parts_size])), (a_t_parts_held, .inl (cyJ, 12, .inr (.inl f_t_parts_held))), (a_q1_held, .inl (cyJ, 12, .inr (.inl f_q1_held))), (a_q1, .inr (3, [.ref a_q1_held, .ref a_q1_before, .int c_q1_size_1]))] := hD
  refine lv_lload_n hx hb dX1_findByDegrees_4 rfl (lv_at hl 1 rfl) ?_
  refine lv_lstore (lv' := [(4, .long p0), (0, .ref a_t), (1, .long p0), (3, .ref a_q1)]) hx hb dX1_findByDegrees_5 hl (by decide) rfl (fun ls hl => ?_)
  refine lv_iconst (v := 1) hx hb dX1_findByDegrees_7 (by decide) ?_
  refine lv_istore (lv' := [(6, .int (1 : Int32)), (4, .long p0), (0, .ref a_t), (1, .long p0), (3, .ref a_q1)]) hx hb dX1_findByDegrees_8 hl (by decide) rfl (fun ls hl => ?_)
  refine LQ6_k1 (M := fun (y4_10 : Int64) (y6_10 : Int32) (c_t_parts_size_10 : Int32) (f_t_parts_held_10 : Nat → Int64) (c_q1_size_10 : Int32) (f_q1_held_10 : Nat → Int64) => ∀ (H : Heap) (locs : List Loc), va_P D vwCl [(a_t, .inr (2, [.ref a_t_parts])), (a_t_parts, .inr (3, [.ref a_t_parts_held, .ref a_t_parts_before, .int c_t_parts_size_10])), (a_t_parts_held, .inl (cyJ, 12, .inr (.inl f_t_parts_held_10))), (a_q1_held, .inl (cyJ, 12, .inr (.inl f_q1_held_10))), (a_q1, .inr (3, [.ref a_q1_held, .ref a_q1_before, .int c_q1_size_10]))] H → va_D A [(a_t, .inr (2, [.ref a_t_parts])), (a_t_parts, .inr (3, [.ref a_t_parts_held, .ref a_t_parts_before, .int c_t_parts_size_10])), (a_t_parts_held, .inl (cyJ, 12, .inr (.inl f_t_parts_held_10))), (a_q1_held, .inl (cyJ, 12, .inr (.inl f_q1_held_10))), (a_q1, .inr (3, [.ref a_q1_held, .ref a_q1_before, .int c_q1_size_10]))] → va_S A s.heap H locs → ∀ (ls : Array Slot), lv_has ls 10 [(0, .ref a_t), (3, .ref a_q1), (4, .long y4_10), (6, .int y6_10)] → W p l e rmX1_findByDegrees s m ([.ref a_t, .long p0, .ref a_q1] : List Value).toArray below meth c H locs 0 0 (MQ below (va_Qv (fun (_ : Unit) => True) (fun _ t => wQA D [(a_t, .inr (2, [.ref a_t_parts])), (a_t_parts, .inr (3, [.ref a_t_parts_held, .ref a_t_parts_before, .int o_c_t_parts_size])), (a_t_parts_held, .inl (cyJ, 12, .inr (.inl o_f_t_parts_held))), (a_q1, .inr (3, [.ref a_q1_held, .ref a_q1_before, .int o_c_q1_size])), (a_q1_held, .inl (cyJ, 12, .inr (.inl o_f_q1_held)))] A t) A) ([.ref a_t, .long p0, .ref a_q1] : List Value).toArray s 0 0 A) (F0 m 10 ls [])) ?_ _ _ _ _ _ _ _ h _ _ hP hD hS ls (lv_sub hl [2, 4, 1, 0] rfl)
  intro k95 hk95 ih10 hih10 y4_10 y6_10 c_t_parts_size_10 f_t_parts_held_10 c_q1_size_10 f_q1_held_10 h H locs hP hD hS ls hl
  unfold S_X1_findByDegrees_10 at h
  refine lv_iload hx hb dX1_findByDegrees_10 (lv_at hl 3 rfl) ?_
  refine lv_bipush (v := 10) hx hb dX1_findByDegrees_12 (by decide) ?_
  refine lv_icmp_gt (tgt := 95) hx hb dX1_findByDegrees_14 (by decide) (fun c14 => ?_) (fun c14 => ?_)
  · have h := it_ c14 h
    rw [hk95] at h
    obtain ⟨e0, e1, e2, e3⟩ := tup4 h
    subst e0
    subst e1
    subst e2
    subst e3
    have hP9 : va_P D vwCl [(a_t, .inr (2, [.ref a_t_parts])), (a_t_parts, .inr (3, [.ref a_t_parts_held, .ref a_t_parts_before, .int c_t_parts_size_10])), (a_t_parts_held, .inl (cyJ, 12, .inr (.inl f_t_parts_held_10))), (a_q1, .inr (3, [.ref a_q1_held, .ref a_q1_before, .int c_q1_size_10])), (a_q1_held, .inl (cyJ, 12, .inr (.inl f_q1_held_10)))] H := hP.sub [0, 1, 2, 4, 3] rfl
    have hD9 : va_D A [(a_t, .inr (2, [.ref a_t_parts])), (a_t_parts, .inr (3, [.ref a_t_parts_held, .ref a_t_parts_before, .int c_t_parts_size_10])), (a_t_parts_held, .inl (cyJ, 12, .inr (.inl f_t_parts_held_10))), (a_q1, .inr (3, [.ref a_q1_held, .ref a_q1_before, .int c_q1_size_10])), (a_q1_held, .inl (cyJ, 12, .inr (.inl f_q1_held_10)))] := hD.sub [0, 1, 2, 4, 3] (by decide) rfl
    exact W.vret hx hb hr (fun t ht hW => ⟨⟨(), rfl, trivial, wQA_of ht hP9 hD9⟩, hS.F ht⟩) hS.2.2 dX1_findByDegrees_95
  · have h := if_ c14 h
    refine lv_lload hx hb dX1_findByDegrees_17 (lv_at hl 2 rfl) ?_
    obtain ⟨r19, hc19, h⟩ := obn_h h
    refine pz_callS (As := [.long y4_10]) (rest := []) hcf (c_X0_degreeOf l y4_10 r19 hc19) (va_cwS 1 hts gX1_findByDegrees_X0_degreeOf rfl rfl rfl ydX0_degreeOf ⟨Nat.le_of_ble_eq_true rfl, Nat.le_of_ble_eq_true rfl⟩) hnw rfl hl.1 rfl (Nat.le_of_ble_eq_true rfl) dX1_findByDegrees_19 ⟨Nat.le_of_ble_eq_true rfl, Nat.le_of_ble_eq_true rfl⟩ ?_
    refine lv_if_le (tgt := 95) hx hb dX1_findByDegrees_22 (by decide) (fun c22 => ?_) (fun c22 => ?_)
    · have h := it_ c22 h
      rw [hk95] at h
      obtain ⟨e0, e1, e2, e3⟩ := tup4 h
      subst e0
      subst e1
      subst e2
      subst e3
      have hP9 : va_P D vwCl [(a_t, .inr (2, [.ref a_t_parts])), (a_t_parts, .inr (3, [.ref a_t_parts_held, .ref a_t_parts_before, .int c_t_parts_size_10])), (a_t_parts_held, .inl (cyJ, 12, .inr (.inl f_t_parts_held_10))), (a_q1, .inr (3, [.ref a_q1_held, .ref a_q1_before, .int c_q1_size_10])), (a_q1_held, .inl (cyJ, 12, .inr (.inl f_q1_held_10)))] H := hP.sub [0, 1, 2, 4, 3] rfl
      have hD9 : va_D A [(a_t, .inr (2, [.ref a_t_parts])), (a_t_parts, .inr (3, [.ref a_t_parts_held, .ref a_t_parts_before, .int c_t_parts_size_10])), (a_t_parts_held, .inl (cyJ, 12, .inr (.inl f_t_parts_held_10))), (a_q1, .inr (3, [.ref a_q1_held, .ref a_q1_before, .int c_q1_size_10])), (a_q1_held, .inl (cyJ, 12, .inr (.inl f_q1_held_10)))] := hD.sub [0, 1, 2, 4, 3] (by decide) rfl
      exact W.vret hx hb hr (fun t ht hW => ⟨⟨(), rfl, trivial, wQA_of ht hP9 hD9⟩, hS.F ht⟩) hS.2.2 dX1_findByDegrees_95
    · have h := if_ c22 h
      refine lv_lload hx hb dX1_findByDegrees_25 (lv_at hl 2 rfl) ?_
      refine lv_iload hx hb dX1_findByDegrees_27 (lv_at hl 3 rfl) ?_
      refine lv_lload hx hb dX1_findByDegrees_29 (lv_at hl 2 rfl) ?_
      obtain ⟨r31, hc31, h⟩ := obn_h h
      refine pz_callS (As := [.int y6_10, .long y4_10]) (rest := [.long y4_10]) hcf (c_X0_risenRest l y6_10 y4_10 r31 hc31) (va_cwS 2 hts gX1_findByDegrees_X0_risenRest rfl rfl rfl ydX0_risenRest ⟨Nat.le_of_ble_eq_true rfl, Nat.le_of_ble_eq_true rfl⟩) hnw rfl hl.1 rfl (Nat.le_of_ble_eq_true rfl) dX1_findByDegrees_31 ⟨Nat.le_of_ble_eq_true rfl, Nat.le_of_ble_eq_true rfl⟩ ?_
      refine lv_ldc2 hx hb hown (hts (.constantLong RX1 21 (2)) (by decide +kernel)) dX1_findByDegrees_34 ?_
      refine lv_lxor hx hb dX1_findByDegrees_37 ?_
      obtain ⟨r38, hc38, h⟩ := obn_h h
      refine pz_callS (As := [.long y4_10, .long (r31 ^^^ (2 : Int64))]) (rest := []) hcf (c_X0_greatestBoth l y4_10 (r31 ^^^ (2 : Int64)) r38 hc38) (va_cwS 2 hts gX1_findByDegrees_X0_greatestBoth rfl rfl rfl ydX0_greatestBoth ⟨Nat.le_of_ble_eq_true rfl, Nat.le_of_ble_eq_true rfl⟩) hnw rfl hl.1 rfl (Nat.le_of_ble_eq_true rfl) dX1_findByDegrees_38 ⟨Nat.le_of_ble_eq_true rfl, Nat.le_of_ble_eq_true rfl⟩ ?_
      refine lv_lstore (lv' := [(7, .long r38), (0, .ref a_t), (3, .ref a_q1), (4, .long y4_10), (6, .int y6_10)]) hx hb dX1_findByDegrees_41 hl (by decide) rfl (fun ls hl => ?_)
      refine lv_aload_n hx hb dX1_findByDegrees_43 rfl (lv_at hl 1 rfl) ?_
      refine lv_lload hx hb dX1_findByDegrees_44 (lv_at hl 0 rfl) ?_
      refine lv_iload hx hb dX1_findByDegrees_46 (lv_at hl 4 rfl) ?_
      obtain ⟨c_t_parts_size_48, f_t_parts_held_48, hc48, h⟩ := obn2_h h
      have hPc := hP.sub (ws' := [(a_t, .inr (2, [.ref a_t_parts])), (a_t_parts, .inr (3, [.ref a_t_parts_held, .ref a_t_parts_before, .int c_t_parts_size_10])), (a_t_parts_held, .inl (cyJ, 12, .inr (.inl f_t_parts_held_10)))]) [0, 1, 2] rfl
      have hDc := hD.sub (ws' := [(a_t, .inr (2, [.ref a_t_parts])), (a_t_parts, .inr (3, [.ref a_t_parts_held, .ref a_t_parts_before, .int c_t_parts_size_10])), (a_t_parts_held, .inl (cyJ, 12, .inr (.inl f_t_parts_held_10)))]) [0, 1, 2] (by decide) rfl
      refine hp_v (w1 := [(a_t, .inr (2, [.ref a_t_parts])), (a_t_parts, .inr (3, [.ref a_t_parts_held, .ref a_t_parts_before, .int c_t_parts_size_48])), (a_t_parts_held, .inl (cyJ, 12, .inr (.inl f_t_parts_held_48)))]) (wr := [(a_q1_held, .inl (cyJ, 12, .inr (.inl f_q1_held_10))), (a_q1, .inr (3, [.ref a_q1_held, .ref a_q1_before, .int c_q1_size_10]))]) (va_runV (As := [.long r38, .int y6_10]) (rest := []) hcf (c_X1_partByTraces l D cyJ H.size a_t a_t_parts a_t_parts_held a_t_parts_before c_t_parts_size_10 f_t_parts_held_10 r38 y6_10 c_t_parts_size_48 f_t_parts_held_48 hc48) (cwV 2 hts gX1_findByDegrees_X1_partByTraces rfl rfl rfl ydX1_partByTraces ⟨Nat.le_of_ble_eq_true rfl, Nat.le_of_ble_eq_true rfl⟩) ⟨bl_PD, va_recv hK hP (ci := 2) (q0 := 0) rfl rfl, pr_PD hPc hK0 hDc hnw⟩ rfl rfl hl.1 rfl (lv_room (Nat.le_of_ble_eq_true rfl)) dX1_findByDegrees_48 ⟨Nat.le_of_ble_eq_true rfl, Nat.le_of_ble_eq_true rfl⟩) hP hD hS hA [0, 1, 2] [3, 4] rfl rfl (by decide) (by decide) (fun H locs hP hD hS => ?_)
      have hP : va_P D vwCl [(a_q1_held, .inl (cyJ, 12, .inr (.inl f_q1_held_10))), (a_q1, .inr (3, [.ref a_q1_held, .ref a_q1_before, .int c_q1_size_10])), (a_t, .inr (2, [.ref a_t_parts])), (a_t_parts, .inr (3, [.ref a_t_parts_held, .ref a_t_parts_before, .int c_t_parts_size_48])), (a_t_parts_held, .inl (cyJ, 12, .inr (.inl f_t_parts_held_48)))] H := hP
      have hD : va_D A [(a_q1_held, .inl (cyJ, 12, .inr (.inl f_q1_held_10))), (a_q1, .inr (3, [.ref a_q1_held, .ref a_q1_before, .int c_q1_size_10])), (a_t, .inr (2, [.ref a_t_parts])), (a_t_parts, .inr (3, [.ref a_t_parts_held, .ref a_t_parts_before, .int c_t_parts_size_48])), (a_t_parts_held, .inl (cyJ, 12, .inr (.inl f_t_parts_held_48)))] := hD
      refine lv_iconst (v := 0) hx hb dX1_findByDegrees_51 (by decide) ?_
      refine lv_istore (lv' := [(9, .int (0 : Int32)), (7, .long r38), (0, .ref a_t), (3, .ref a_q1), (4, .long y4_10), (6, .int y6_10)]) hx hb dX1_findByDegrees_52 hl (by decide) rfl (fun ls hl => ?_)
      refine LQ4_k1 (M := fun (y4_54 : Int64) (y9_54 : Int32) (c_q1_size_54 : Int32) (f_q1_held_54 : Nat → Int64) => ∀ (H : Heap) (locs : List Loc), va_P D vwCl [(a_q1_held, .inl (cyJ, 12, .inr (.inl f_q1_held_54))), (a_q1, .inr (3, [.ref a_q1_held, .ref a_q1_before, .int c_q1_size_54])), (a_t, .inr (2, [.ref a_t_parts])), (a_t_parts, .inr (3, [.ref a_t_parts_held, .ref a_t_parts_before, .int c_t_parts_size_48])), (a_t_parts_held, .inl (cyJ, 12, .inr (.inl f_t_parts_held_48)))] H → va_D A [(a_q1_held, .inl (cyJ, 12, .inr (.inl f_q1_held_54))), (a_q1, .inr (3, [.ref a_q1_held, .ref a_q1_before, .int c_q1_size_54])), (a_t, .inr (2, [.ref a_t_parts])), (a_t_parts, .inr (3, [.ref a_t_parts_held, .ref a_t_parts_before, .int c_t_parts_size_48])), (a_t_parts_held, .inl (cyJ, 12, .inr (.inl f_t_parts_held_48)))] → va_S A s.heap H locs → ∀ (ls : Array Slot), lv_has ls 10 [(0, .ref a_t), (3, .ref a_q1), (4, .long y4_54), (6, .int y6_10), (9, .int y9_54)] → W p l e rmX1_findByDegrees s m ([.ref a_t, .long p0, .ref a_q1] : List Value).toArray below meth c H locs 0 0 (MQ below (va_Qv (fun (_ : Unit) => True) (fun _ t => wQA D [(a_t, .inr (2, [.ref a_t_parts])), (a_t_parts, .inr (3, [.ref a_t_parts_held, .ref a_t_parts_before, .int o_c_t_parts_size])), (a_t_parts_held, .inl (cyJ, 12, .inr (.inl o_f_t_parts_held))), (a_q1, .inr (3, [.ref a_q1_held, .ref a_q1_before, .int o_c_q1_size])), (a_q1_held, .inl (cyJ, 12, .inr (.inl o_f_q1_held)))] A t) A) ([.ref a_t, .long p0, .ref a_q1] : List Value).toArray s 0 0 A) (F0 m 54 ls [])) ?_ _ _ _ _ _ h _ _ hP hD hS ls (lv_sub hl [2, 3, 4, 5, 0] rfl)
      intro k89 hk89 ih54 hih54 y4_54 y9_54 c_q1_size_54 f_q1_held_54 h H locs hP hD hS ls hl
      unfold S_X1_findByDegrees_54 at h
      refine lv_iload hx hb dX1_findByDegrees_54 (lv_at hl 4 rfl) ?_
      refine lv_aload_n hx hb dX1_findByDegrees_56 rfl (lv_at hl 0 rfl) ?_
      refine va_get (D := D) (ci := 2) (v := .ref a_t_parts) (C := RX1) (T := TX1) (N := 1) hx hb hts hinX1 hown hK hP 2 rfl rfl 0 (by decide) hfl12 (fun _ h9 => h9) rfl dX1_findByDegrees_57 ?_
      refine va_getN (D := D) (ci := 3) (v := .int c_t_parts_size_48) (C := RX3) (T := TX3) (N := 3) hx hb hts hinX3 hown hK hP 3 rfl rfl 2 (by decide) hfl52 (fun _ h9 => h9) rfl dX1_findByDegrees_60 ?_
      refine lv_icmp_ge (tgt := 89) hx hb dX1_findByDegrees_63 (by decide) (fun c63 => ?_) (fun c63 => ?_)
      · have h := it_ c63 h
        rw [hk89] at h
        obtain ⟨x6_89, e_x6_89⟩ : ∃ z : Int32, z = y6_10 + 1 := ⟨_, rfl⟩
        have h := bnd_h e_x6_89 h
        refine lv_iinc (v := x6_89) (lv' := [(6, .int x6_89), (0, .ref a_t), (3, .ref a_q1), (4, .long y4_54), (9, .int y9_54)]) hx hb dX1_findByDegrees_89 hl (k := 3) rfl (by rw [e_x6_89]; rfl) (by decide) rfl (fun ls hl => ?_)
        refine lv_goto (tgt := 10) hx hb dX1_findByDegrees_92 (by decide) ?_
        exact hih10 y4_54 x6_89 c_t_parts_size_48 f_t_parts_held_48 c_q1_size_54 f_q1_held_54 h _ _ (hP.sub [2, 3, 4, 0, 1] rfl) (hD.sub [2, 3, 4, 0, 1] (by decide) rfl) hS ls (lv_sub hl [1, 2, 3, 0] rfl)
      · have h := if_ c63 h
        refine lv_lload hx hb dX1_findByDegrees_66 (lv_at hl 2 rfl) ?_
        refine lv_aload_n hx hb dX1_findByDegrees_68 rfl (lv_at hl 0 rfl) ?_
        refine va_get (D := D) (ci := 2) (v := .ref a_t_parts) (C := RX1) (T := TX1) (N := 1) hx hb hts hinX1 hown hK hP 2 rfl rfl 0 (by decide) hfl12 (fun _ h9 => h9) rfl dX1_findByDegrees_69 ?_
        refine lv_iload hx hb dX1_findByDegrees_72 (lv_at hl 4 rfl) ?_
        obtain ⟨r74, hc74, h⟩ := obn_h h
        have hPc : va_P D vwCl [(a_t_parts, .inr (3, [.ref a_t_parts_held, .ref a_t_parts_before, .int c_t_parts_size_48])), (a_t_parts_held, .inl (cyJ, 12, .inr (.inl f_t_parts_held_48)))] H := hP.sub [3, 4] rfl
        refine rd_callV (As := [.int y9_54]) (rest := [.long y4_54]) hcf (c_X3_at l D cyJ a_t_parts a_t_parts_held a_t_parts_before c_t_parts_size_48 f_t_parts_held_48 y9_54 r74 hc74) (cwV 1 hts gX1_findByDegrees_X3_at rfl rfl rfl ydX3_at ⟨Nat.le_of_ble_eq_true rfl, Nat.le_of_ble_eq_true rfl⟩) hnw hPc hK0 (va_recv hK hP (ci := 3) (q0 := 3) rfl rfl) rfl hl.1 rfl (Nat.le_of_ble_eq_true rfl) dX1_findByDegrees_74 ⟨Nat.le_of_ble_eq_true rfl, Nat.le_of_ble_eq_true rfl⟩ ?_
        refine lv_aload_n hx hb dX1_findByDegrees_77 rfl (lv_at hl 1 rfl) ?_
        obtain ⟨r78, c_q1_size_78, f_q1_held_78, hc78, h⟩ := obn3_h h
        have hPc := hP.sub (ws' := [(a_q1, .inr (3, [.ref a_q1_held, .ref a_q1_before, .int c_q1_size_54])), (a_q1_held, .inl (cyJ, 12, .inr (.inl f_q1_held_54)))]) [1, 0] rfl
        have hDc := hD.sub (ws' := [(a_q1, .inr (3, [.ref a_q1_held, .ref a_q1_before, .int c_q1_size_54])), (a_q1_held, .inl (cyJ, 12, .inr (.inl f_q1_held_54)))]) [1, 0] (by decide) rfl
        refine hp_l (w1 := [(a_q1, .inr (3, [.ref a_q1_held, .ref a_q1_before, .int c_q1_size_78])), (a_q1_held, .inl (cyJ, 12, .inr (.inl f_q1_held_78)))]) (wr := [(a_t, .inr (2, [.ref a_t_parts])), (a_t_parts, .inr (3, [.ref a_t_parts_held, .ref a_t_parts_before, .int c_t_parts_size_48])), (a_t_parts_held, .inl (cyJ, 12, .inr (.inl f_t_parts_held_48)))]) (va_runS (As := [.long y4_54, .long r74, .ref a_q1]) (rest := []) hcf (c_X1_dividedOut l D cyJ H.size a_q1 a_q1_held a_q1_before c_q1_size_54 f_q1_held_54 y4_54 r74 r78 c_q1_size_78 f_q1_held_78 hc78) (va_cwS 3 hts gX1_findByDegrees_X1_dividedOut rfl rfl rfl ydX1_dividedOut ⟨Nat.le_of_ble_eq_true rfl, Nat.le_of_ble_eq_true rfl⟩) ⟨bl_PD, pr_PD hPc hK0 hDc hnw⟩ rfl rfl hl.1 rfl (lv_room (Nat.le_of_ble_eq_true rfl)) dX1_findByDegrees_78 ⟨Nat.le_of_ble_eq_true rfl, Nat.le_of_ble_eq_true rfl⟩) hP hD hS hA [1, 0] [2, 3, 4] rfl rfl (by decide) (by decide) (fun H locs hP hD hS => ?_)
        have hP : va_P D vwCl [(a_t, .inr (2, [.ref a_t_parts])), (a_t_parts, .inr (3, [.ref a_t_parts_held, .ref a_t_parts_before, .int c_t_parts_size_48])), (a_t_parts_held, .inl (cyJ, 12, .inr (.inl f_t_parts_held_48))), (a_q1, .inr (3, [.ref a_q1_held, .ref a_q1_before, .int c_q1_size_78])), (a_q1_held, .inl (cyJ, 12, .inr (.inl f_q1_held_78)))] H := hP
        have hD : va_D A [(a_t, .inr (2, [.ref a_t_parts])), (a_t_parts, .inr (3, [.ref a_t_parts_held, .ref a_t_parts_before, .int c_t_parts_size_48])), (a_t_parts_held, .inl (cyJ, 12, .inr (.inl f_t_parts_held_48))), (a_q1, .inr (3, [.ref a_q1_held, .ref a_q1_before, .int c_q1_size_78])), (a_q1_held, .inl (cyJ, 12, .inr (.inl f_q1_held_78)))] := hD
        refine lv_lstore (lv' := [(4, .long r78), (0, .ref a_t), (3, .ref a_q1), (6, .int y6_10), (9, .int y9_54)]) hx hb dX1_findByDegrees_81 hl (by decide) rfl (fun ls hl => ?_)
        obtain ⟨x9_83, e_x9_83⟩ : ∃ z : Int32, z = y9_54 + 1 := ⟨_, rfl⟩
        have h := bnd_h e_x9_83 h
        refine lv_iinc (v := x9_83) (lv' := [(9, .int x9_83), (4, .long r78), (0, .ref a_t), (3, .ref a_q1), (6, .int y6_10)]) hx hb dX1_findByDegrees_83 hl (k := 4) rfl (by rw [e_x9_83]; rfl) (by decide) rfl (fun ls hl => ?_)
        refine lv_goto (tgt := 54) hx hb dX1_findByDegrees_86 (by decide) ?_
        exact hih54 r78 x9_83 c_q1_size_78 f_q1_held_78 h _ _ (hP.sub [4, 3, 0, 1, 2] rfl) (hD.sub [4, 3, 0, 1, 2] (by decide) rfl) hS ls (lv_sub hl [2, 3, 1, 4, 0] rfl)

noncomputable abbrev rmX3_howManyOthers : Room := { frames := 0, cells := 0, slots := 0, locals := 0 }
theorem ydX3_howManyOthers : yX3_howManyOthers.cls = RX3 ∧ yX3_howManyOthers.cls ≠ "java/lang/invoke/MethodHandle" ∧ yX3_howManyOthers.cls ≠ "java/lang/invoke/VarHandle" ∧ (parseMethodDescriptor yX3_howManyOthers.desc).map (fun d => d.parameters.length) = some 0 := by decide +kernel
noncomputable def S_X3_howManyOthers_4 (c_t_size_z4 : Int32) (f_t_held_z4 : Nat → Int64) (f_t_before_z4 : Nat → Int64) (k37 : Int32 → Option (Int32)) (ih4 : Int32 → Int32 → Option (Int32)) (y1_4 : Int32) (y2_4 : Int32) : Option (Int32) :=
 (if c_t_size_z4 ≤ y2_4 then
 k37 y1_4
else
 chk (¬ (y2_4 < 0 ∨ 12 ≤ y2_4.toNatClampNeg)) (
 chk (¬ (y2_4 < 0 ∨ 12 ≤ y2_4.toNatClampNeg)) (
 (if (f_t_held_z4 y2_4.toNatClampNeg) = (f_t_before_z4 y2_4.toNatClampNeg) then
 bnd (y2_4 + 1) (fun x2_31 =>
 ih4 y1_4 x2_31)
else
 bnd (y1_4 + 1) (fun x1_28 =>
 bnd (y2_4 + 1) (fun x2_31 =>
 ih4 x1_28 x2_31))))))
noncomputable def F_X3_howManyOthers (c_t_size : Int32) (f_t_held : Nat → Int64) (f_t_before : Nat → Int64) : Option (Int32) :=
 LQ2 (S_X3_howManyOthers_4 c_t_size f_t_held f_t_before (fun y1_4_37 =>
 some y1_4_37)) 20000 (0 : Int32) (0 : Int32)
set_option maxHeartbeats 4000000 in
set_option maxRecDepth 100000 in
theorem c_X3_howManyOthers (l : Launch) (D : va_G) (cyJ : ClassId) (a_t : Nat) (a_t_held : Nat) (a_t_before : Nat) (c_t_size : Int32) (f_t_held : Nat → Int64) (f_t_before : Nat → Int64) (r0 : Int32) (hF : F_X3_howManyOthers c_t_size f_t_held f_t_before = some r0) : Met l yX3_howManyOthers wsX3_howManyOthers rmX3_howManyOthers (va_Pc [.ref a_t] (wPK D [(cyJ, .long)] [(a_t, .inr (3, [.ref a_t_held, .ref a_t_before, .int c_t_size])), (a_t_held, .inl (cyJ, 12, .inr (.inl f_t_held))), (a_t_before, .inl (cyJ, 12, .inr (.inl f_t_before)))])) (k2_QcV (.int r0)) 0 0 (fun _ => False) := by
  refine Met.ofW (cc := cX3_howManyOthers) (maxL := 3) (ret := (some .int)) (by decide) rfl ?_
  intro p e s m args below meth c s₁ B hml hv
  obtain ⟨rfl, hP, hK, hnw⟩ := hv
  have hx := B.exec
  have hb := B.bytes
  have hr := B.returns
  have hts := atoms_spec (ws := wsX3_howManyOthers) B.pre
  have hown : s.vm.findClass RX3 = some m.cls := findClass_of_methodNamed B.named
  have hlocks := B.notSynchronized
  have hcf : CallFix _ _ _ _ _ _ _ _ _ := ⟨hx, hb, hml, hown, hts⟩
  have hinX3 : ∀ w ∈ u_ws RX3 TX3 3, w ∈ wsX3_howManyOthers := by decide +kernel
  have hfl18 := hts (.fieldLink RX3 18 "Formwheel$Roll" "size" "I") (by decide +kernel)
  have hfl9 := hts (.fieldLink RX3 9 "Formwheel$Roll" "held" "[J") (by decide +kernel)
  have hfl15 := hts (.fieldLink RX3 15 "Formwheel$Roll" "before" "[J") (by decide +kernel)
  have hK0 := hK
  have hl := lv_entry ([.ref a_t]) (n := 3) (Nat.le_of_ble_eq_true rfl)
  rw [lg_entry_eq]
  generalize (lg_sl ([.ref a_t]) ++ List.replicate (3 - (lg_sl ([.ref a_t])).length) Slot.unset).toArray = ls at hl ⊢
  have hl : lv_has ls 3 [(0, .ref a_t)] := hl
  have h := hF
  clear hF
  unfold F_X3_howManyOthers at h
  refine lv_iconst (v := 0) hx hb dX3_howManyOthers_0 (by decide) ?_
  refine lv_istore_n (lv' := [(1, .int (0 : Int32)), (0, .ref a_t)]) hx hb dX3_howManyOthers_1 rfl hl (by decide) rfl (fun ls hl => ?_)
  refine lv_iconst (v := 0) hx hb dX3_howManyOthers_2 (by decide) ?_
  refine lv_istore_n (lv' := [(2, .int (0 : Int32)), (1, .int (0 : Int32)), (0, .ref a_t)]) hx hb dX3_howManyOthers_3 rfl hl (by decide) rfl (fun ls hl => ?_)
  refine LQ2_k1 (M := fun (y1_4 : Int32) (y2_4 : Int32) => ∀ (ls : Array Slot), lv_has ls 3 [(0, .ref a_t), (1, .int y1_4), (2, .int y2_4)] → W p l e rmX3_howManyOthers s m ([.ref a_t] : List Value).toArray below meth c s.heap [] 0 0 (MQ below (k2_QcV (.int r0)) ([.ref a_t] : List Value).toArray s 0 0 (fun _ => False)) (F0 m 4 ls [])) ?_ _ _ _ h ls (lv_sub hl [2, 1, 0] rfl)
  intro k37 hk37 ih4 hih4 y1_4 y2_4 h ls hl
  unfold S_X3_howManyOthers_4 at h
  refine lv_iload_n hx hb dX3_howManyOthers_4 rfl (lv_at hl 2 rfl) ?_
  refine lv_aload_n hx hb dX3_howManyOthers_5 rfl (lv_at hl 0 rfl) ?_
  refine va_get (D := D) (ci := 3) (v := .int c_t_size) (C := RX3) (T := TX3) (N := 3) hx hb hts hinX3 hown hK hP 0 rfl rfl 2 (by decide) hfl18 (fun _ h9 => h9) rfl dX3_howManyOthers_6 ?_
  refine lv_icmp_ge (tgt := 37) hx hb dX3_howManyOthers_9 (by decide) (fun c9 => ?_) (fun c9 => ?_)
  · have h := it_ c9 h
    rw [hk37] at h
    refine lv_iload_n hx hb dX3_howManyOthers_37 rfl (lv_at hl 1 rfl) ?_
    have e1 := Option.some.inj h
    subst e1
    exact W.iret hx hb hr (fun t ht _ => ⟨rfl, ht⟩) no_q dX3_howManyOthers_38
  · have h := if_ c9 h
    refine lv_aload_n hx hb dX3_howManyOthers_12 rfl (lv_at hl 0 rfl) ?_
    refine va_get (D := D) (ci := 3) (v := .ref a_t_held) (C := RX3) (T := TX3) (N := 3) hx hb hts hinX3 hown hK hP 0 rfl rfl 0 (by decide) hfl9 (fun _ h9 => h9) rfl dX3_howManyOthers_13 ?_
    refine lv_iload_n hx hb dX3_howManyOthers_16 rfl (lv_at hl 2 rfl) ?_
    obtain ⟨hq17, h⟩ := chk_h h
    refine va_lald hx hb hK hP 1 0 rfl rfl hq17 dX3_howManyOthers_17 ?_
    refine lv_aload_n hx hb dX3_howManyOthers_18 rfl (lv_at hl 0 rfl) ?_
    refine va_get (D := D) (ci := 3) (v := .ref a_t_before) (C := RX3) (T := TX3) (N := 3) hx hb hts hinX3 hown hK hP 0 rfl rfl 1 (by decide) hfl15 (fun _ h9 => h9) rfl dX3_howManyOthers_19 ?_
    refine lv_iload_n hx hb dX3_howManyOthers_22 rfl (lv_at hl 2 rfl) ?_
    obtain ⟨hq23, h⟩ := chk_h h
    refine va_lald hx hb hK hP 2 0 rfl rfl hq23 dX3_howManyOthers_23 ?_
    refine W.lcmp hx hb dX3_howManyOthers_24 ?_
    refine lv_if_eq (tgt := 31) hx hb dX3_howManyOthers_25 (by decide) (fun c25 => ?_) (fun c25 => ?_)
    · have c25 := (lg_cmp_eq _ _).mp c25
      have h := it_ c25 h
      obtain ⟨x2_31, e_x2_31⟩ : ∃ z : Int32, z = y2_4 + 1 := ⟨_, rfl⟩
      have h := bnd_h e_x2_31 h
      refine lv_iinc (v := x2_31) (lv' := [(2, .int x2_31), (0, .ref a_t), (1, .int y1_4)]) hx hb dX3_howManyOthers_31 hl (k := 2) rfl (by rw [e_x2_31]; rfl) (by decide) rfl (fun ls hl => ?_)
      refine lv_goto (tgt := 4) hx hb dX3_howManyOthers_34 (by decide) ?_
      exact hih4 y1_4 x2_31 h ls (lv_sub hl [1, 2, 0] rfl)
    · have c25 := fun z => c25 ((lg_cmp_eq _ _).mpr z)
      have h := if_ c25 h
      obtain ⟨x1_28, e_x1_28⟩ : ∃ z : Int32, z = y1_4 + 1 := ⟨_, rfl⟩
      have h := bnd_h e_x1_28 h
      refine lv_iinc (v := x1_28) (lv' := [(1, .int x1_28), (0, .ref a_t), (2, .int y2_4)]) hx hb dX3_howManyOthers_28 hl (k := 1) rfl (by rw [e_x1_28]; rfl) (by decide) rfl (fun ls hl => ?_)
      obtain ⟨x2_31, e_x2_31⟩ : ∃ z : Int32, z = y2_4 + 1 := ⟨_, rfl⟩
      have h := bnd_h e_x2_31 h
      refine lv_iinc (v := x2_31) (lv' := [(2, .int x2_31), (1, .int x1_28), (0, .ref a_t)]) hx hb dX3_howManyOthers_31 hl (k := 2) rfl (by rw [e_x2_31]; rfl) (by decide) rfl (fun ls hl => ?_)
      refine lv_goto (tgt := 4) hx hb dX3_howManyOthers_34 (by decide) ?_
      exact hih4 x1_28 x2_31 h ls (lv_sub hl [2, 1, 0] rfl)

noncomputable abbrev rmX3_arrange : Room := { frames := 1, cells := 0, slots := 0, locals := 80 }
theorem ydX3_arrange : yX3_arrange.cls = RX3 ∧ yX3_arrange.cls ≠ "java/lang/invoke/MethodHandle" ∧ yX3_arrange.cls ≠ "java/lang/invoke/VarHandle" ∧ (parseMethodDescriptor yX3_arrange.desc).map (fun d => d.parameters.length) = some 1 := by decide +kernel
noncomputable def J_X3_arrange_75 (ih35 : Int32 → (Nat → Int64) → Option (Int32 × (Nat → Int64) × (Nat → Int64))) (j5_75 : Int32) (f_t_held_j75 : Nat → Int64) : Option (Int32 × (Nat → Int64) × (Nat → Int64)) :=
 chk (¬ ((j5_75 - (1 : Int32)) < 0 ∨ 12 ≤ (j5_75 - (1 : Int32)).toNatClampNeg)) (
 chk (¬ (j5_75 < 0 ∨ 12 ≤ j5_75.toNatClampNeg)) (
 bnd (vp_updL f_t_held_j75 j5_75.toNatClampNeg (f_t_held_j75 (j5_75 - (1 : Int32)).toNatClampNeg)) (fun f_t_held_90 =>
 bnd (j5_75 + (-1)) (fun x5_91 =>
 ih35 x5_91 f_t_held_90))))
noncomputable def S_X3_arrange_35 (z1_35 : Int32) (z3_35 : Int64) (k97 : Int32 → (Nat → Int64) → Option (Int32 × (Nat → Int64) × (Nat → Int64))) (ih35 : Int32 → (Nat → Int64) → Option (Int32 × (Nat → Int64) × (Nat → Int64))) (y5_35 : Int32) (f_t_held_35 : Nat → Int64) : Option (Int32 × (Nat → Int64) × (Nat → Int64)) :=
 (if y5_35 ≤ 0 then
 k97 y5_35 f_t_held_35
else
 (if z1_35 = 0 then
 chk (¬ ((y5_35 - (1 : Int32)) < 0 ∨ 12 ≤ (y5_35 - (1 : Int32)).toNatClampNeg)) (
 (if (f_t_held_35 (y5_35 - (1 : Int32)).toNatClampNeg) ≤ z3_35 then
 k97 y5_35 f_t_held_35
else
 J_X3_arrange_75 ih35 y5_35 f_t_held_35))
else
 chk (¬ ((y5_35 - (1 : Int32)) < 0 ∨ 12 ≤ (y5_35 - (1 : Int32)).toNatClampNeg)) (
 (if z3_35 ≤ (f_t_held_35 (y5_35 - (1 : Int32)).toNatClampNeg) then
 k97 y5_35 f_t_held_35
else
 J_X3_arrange_75 ih35 y5_35 f_t_held_35))))
noncomputable def J_X3_arrange_97 (ih17 : Int32 → (Nat → Int64) → Option (Int32 × (Nat → Int64) × (Nat → Int64))) (j2_97 : Int32) (j3_97 : Int64) (j5_97 : Int32) (f_t_held_j97 : Nat → Int64) : Option (Int32 × (Nat → Int64) × (Nat → Int64)) :=
 chk (¬ (j5_97 < 0 ∨ 12 ≤ j5_97.toNatClampNeg)) (
 bnd (vp_updL f_t_held_j97 j5_97.toNatClampNeg j3_97) (fun f_t_held_104 =>
 bnd (j2_97 + 1) (fun x2_105 =>
 ih17 x2_105 f_t_held_104)))
noncomputable def S_X3_arrange_17 (z1_17 : Int32) (c_t_size_z17 : Int32) (k111 : (Nat → Int64) → Option (Int32 × (Nat → Int64) × (Nat → Int64))) (ih17 : Int32 → (Nat → Int64) → Option (Int32 × (Nat → Int64) × (Nat → Int64))) (y2_17 : Int32) (f_t_held_17 : Nat → Int64) : Option (Int32 × (Nat → Int64) × (Nat → Int64)) :=
 (if c_t_size_z17 ≤ y2_17 then
 k111 f_t_held_17
else
 chk (¬ (y2_17 < 0 ∨ 12 ≤ y2_17.toNatClampNeg)) (
 bnd (f_t_held_17 y2_17.toNatClampNeg) (fun x3_31 =>
 LQ2 (S_X3_arrange_35 z1_17 x3_31 (fun y5_35_97 f_t_held_35_97 =>
 J_X3_arrange_97 ih17 y2_17 x3_31 y5_35_97 f_t_held_35_97)) 20000 y2_17 f_t_held_17)))
noncomputable def F_X3_arrange (c_t_size : Int32) (f_t_held : Nat → Int64) (f_t_before : Nat → Int64) (p0 : Int32) : Option (Int32 × (Nat → Int64) × (Nat → Int64)) :=
 bnd (va_cpy f_t_held f_t_before (0 : Int32).toNatClampNeg (0 : Int32).toNatClampNeg (12 : Int32).toNatClampNeg) (fun f_t_before_12 =>
 LQ2 (S_X3_arrange_17 p0 c_t_size (fun f_t_held_17_111 =>
 obn (F_X3_howManyOthers c_t_size f_t_held_17_111 f_t_before_12) (fun r112 =>
 some (r112, f_t_held_17_111, f_t_before_12)))) 20000 (1 : Int32) f_t_held)
set_option maxHeartbeats 4000000 in
set_option maxRecDepth 100000 in
theorem c_X3_arrange (l : Launch) (D : va_G) (cyJ : ClassId) (sz : Nat) (a_t : Nat) (a_t_held : Nat) (a_t_before : Nat) (c_t_size : Int32) (f_t_held : Nat → Int64) (f_t_before : Nat → Int64) (p0 : Int32) (r0 : Int32) (o_f_t_held : Nat → Int64) (o_f_t_before : Nat → Int64) (hF : F_X3_arrange c_t_size f_t_held f_t_before p0 = some (r0, o_f_t_held, o_f_t_before)) : Met l yX3_arrange wsX3_arrange rmX3_arrange (va_Pc [.ref a_t, .int p0] (wPD D [(cyJ, .long)] [(a_t, .inr (3, [.ref a_t_held, .ref a_t_before, .int c_t_size])), (a_t_held, .inl (cyJ, 12, .inr (.inl f_t_held))), (a_t_before, .inl (cyJ, 12, .inr (.inl f_t_before)))] sz)) (va_Qi (fun (r : Int32) (_ : Unit) => r = r0) (fun _ t => wQA D [(a_t, .inr (3, [.ref a_t_held, .ref a_t_before, .int c_t_size])), (a_t_held, .inl (cyJ, 12, .inr (.inl o_f_t_held))), (a_t_before, .inl (cyJ, 12, .inr (.inl o_f_t_before)))] (va_A [(a_t, .inr (3, [.ref a_t_held, .ref a_t_before, .int c_t_size])), (a_t_held, .inl (cyJ, 12, .inr (.inl f_t_held))), (a_t_before, .inl (cyJ, 12, .inr (.inl f_t_before)))] sz) t) (va_A [(a_t, .inr (3, [.ref a_t_held, .ref a_t_before, .int c_t_size])), (a_t_held, .inl (cyJ, 12, .inr (.inl f_t_held))), (a_t_before, .inl (cyJ, 12, .inr (.inl f_t_before)))] sz)) 0 0 (va_A [(a_t, .inr (3, [.ref a_t_held, .ref a_t_before, .int c_t_size])), (a_t_held, .inl (cyJ, 12, .inr (.inl f_t_held))), (a_t_before, .inl (cyJ, 12, .inr (.inl f_t_before)))] sz) := by
  refine Met.ofW (cc := cX3_arrange) (maxL := 6) (ret := (some .int)) (by decide) rfl ?_
  intro p e s m args below meth c s₁ B hml hv
  obtain ⟨rfl, hsz, hP, hK, hD0, hnw⟩ := hv
  have hx := B.exec
  have hb := B.bytes
  have hr := B.returns
  have hts := atoms_spec (ws := wsX3_arrange) B.pre
  have hown : s.vm.findClass RX3 = some m.cls := findClass_of_methodNamed B.named
  have hlocks := B.notSynchronized
  have hcf : CallFix _ _ _ _ _ _ _ _ _ := ⟨hx, hb, hml, hown, hts⟩
  have hinX3 : ∀ w ∈ u_ws RX3 TX3 3, w ∈ wsX3_arrange := by decide +kernel
  have hfl9 := hts (.fieldLink RX3 9 "Formwheel$Roll" "held" "[J") (by decide +kernel)
  have hfl15 := hts (.fieldLink RX3 15 "Formwheel$Roll" "before" "[J") (by decide +kernel)
  have hfl18 := hts (.fieldLink RX3 18 "Formwheel$Roll" "size" "I") (by decide +kernel)
  subst hsz
  have hD := hD0.self (sz := s.heap.size)
  generalize hAe : va_A [(a_t, .inr (3, [.ref a_t_held, .ref a_t_before, .int c_t_size])), (a_t_held, .inl (cyJ, 12, .inr (.inl f_t_held))), (a_t_before, .inl (cyJ, 12, .inr (.inl f_t_before)))] s.heap.size = A at hD ⊢
  have hA : ∀ q : Nat, s.heap.size ≤ q → A q := fun q h => by rw [← hAe]; exact Or.inr h
  have hS : va_S A s.heap s.heap [] := va_S.rf
  have hP : va_P D vwCl [(a_t, .inr (3, [.ref a_t_held, .ref a_t_before, .int c_t_size])), (a_t_held, .inl (cyJ, 12, .inr (.inl f_t_held))), (a_t_before, .inl (cyJ, 12, .inr (.inl f_t_before)))] s.heap := hP
  have hK0 := hK
  have hl := lv_entry ([.ref a_t, .int p0]) (n := 6) (Nat.le_of_ble_eq_true rfl)
  rw [lg_entry_eq]
  generalize (lg_sl ([.ref a_t, .int p0]) ++ List.replicate (6 - (lg_sl ([.ref a_t, .int p0])).length) Slot.unset).toArray = ls at hl ⊢
  have hl : lv_has ls 6 [(0, .ref a_t), (1, .int p0)] := hl
  have h := hF
  clear hF
  unfold F_X3_arrange at h
  refine lv_aload_n hx hb dX3_arrange_0 rfl (lv_at hl 0 rfl) ?_
  refine va_get (D := D) (ci := 3) (v := .ref a_t_held) (C := RX3) (T := TX3) (N := 3) hx hb hts hinX3 hown hK hP 0 rfl rfl 0 (by decide) hfl9 (fun _ h9 => h9) rfl dX3_arrange_1 ?_
  refine lv_iconst (v := 0) hx hb dX3_arrange_4 (by decide) ?_
  refine lv_aload_n hx hb dX3_arrange_5 rfl (lv_at hl 0 rfl) ?_
  refine va_get (D := D) (ci := 3) (v := .ref a_t_before) (C := RX3) (T := TX3) (N := 3) hx hb hts hinX3 hown hK hP 0 rfl rfl 1 (by decide) hfl15 (fun _ h9 => h9) rfl dX3_arrange_6 ?_
  refine lv_iconst (v := 0) hx hb dX3_arrange_9 (by decide) ?_
  refine lv_bipush (v := 12) hx hb dX3_arrange_10 (by decide) ?_
  refine va_copyl hx hb (hml.trans hl.1.symm) hown (hts (.methodLink RX3 22 arraycopyName) (by decide +kernel)) (hts (.native arraycopyName) (by decide +kernel)) (hts (.static arraycopyName) (by decide +kernel)) (hts (.initialized "java/lang/System") (by decide +kernel)) hK hP hD hS 1 2 0 0 rfl rfl rfl rfl rfl (by decide) (by decide) (by decide) (by decide) (by decide) (fun _ _ => rfl) (Nat.le_of_ble_eq_true rfl) (by decide +kernel) dX3_arrange_12 (fun H locs hP hD hS => ?_)
  obtain ⟨f_t_before_12, e_f_t_before_12⟩ : ∃ z, z = va_cpy f_t_held f_t_before (0 : Int32).toNatClampNeg (0 : Int32).toNatClampNeg (12 : Int32).toNatClampNeg := ⟨_, rfl⟩
  have h := bnd_h e_f_t_before_12 h
  have hP : va_P D vwCl [(a_t, .inr (3, [.ref a_t_held, .ref a_t_before, .int c_t_size])), (a_t_held, .inl (cyJ, 12, .inr (.inl f_t_held))), (a_t_before, .inl (cyJ, 12, .inr (.inl f_t_before_12)))] H := by rw [e_f_t_before_12]; exact hP
  have hD : va_D A [(a_t, .inr (3, [.ref a_t_held, .ref a_t_before, .int c_t_size])), (a_t_held, .inl (cyJ, 12, .inr (.inl f_t_held))), (a_t_before, .inl (cyJ, 12, .inr (.inl f_t_before_12)))] := by rw [e_f_t_before_12]; exact hD
  refine lv_iconst (v := 1) hx hb dX3_arrange_15 (by decide) ?_
  refine lv_istore_n (lv' := [(2, .int (1 : Int32)), (0, .ref a_t), (1, .int p0)]) hx hb dX3_arrange_16 rfl hl (by decide) rfl (fun ls hl => ?_)
  refine LQ2_k1 (M := fun (y2_17 : Int32) (f_t_held_17 : Nat → Int64) => ∀ (H : Heap) (locs : List Loc), va_P D vwCl [(a_t, .inr (3, [.ref a_t_held, .ref a_t_before, .int c_t_size])), (a_t_held, .inl (cyJ, 12, .inr (.inl f_t_held_17))), (a_t_before, .inl (cyJ, 12, .inr (.inl f_t_before_12)))] H → va_D A [(a_t, .inr (3, [.ref a_t_held, .ref a_t_before, .int c_t_size])), (a_t_held, .inl (cyJ, 12, .inr (.inl f_t_held_17))), (a_t_before, .inl (cyJ, 12, .inr (.inl f_t_before_12)))] → va_S A s.heap H locs → ∀ (ls : Array Slot), lv_has ls 6 [(0, .ref a_t), (1, .int p0), (2, .int y2_17)] → W p l e rmX3_arrange s m ([.ref a_t, .int p0] : List Value).toArray below meth c H locs 0 0 (MQ below (va_Qi (fun (r : Int32) (_ : Unit) => r = r0) (fun _ t => wQA D [(a_t, .inr (3, [.ref a_t_held, .ref a_t_before, .int c_t_size])), (a_t_held, .inl (cyJ, 12, .inr (.inl o_f_t_held))), (a_t_before, .inl (cyJ, 12, .inr (.inl o_f_t_before)))] A t) A) ([.ref a_t, .int p0] : List Value).toArray s 0 0 A) (F0 m 17 ls [])) ?_ _ _ _ h _ _ hP hD hS ls (lv_sub hl [1, 2, 0] rfl)
  intro k111 hk111 ih17 hih17 y2_17 f_t_held_17 h H locs hP hD hS ls hl
  unfold S_X3_arrange_17 at h
  have hj97 : ∀ (j2_97 : Int32) (j3_97 : Int64) (j5_97 : Int32) (f_t_held_j97 : Nat → Int64), J_X3_arrange_97 ih17 j2_97 j3_97 j5_97 f_t_held_j97 = some (r0, o_f_t_held, o_f_t_before) → ∀ (H : Heap) (locs : List Loc), va_P D vwCl [(a_t, .inr (3, [.ref a_t_held, .ref a_t_before, .int c_t_size])), (a_t_held, .inl (cyJ, 12, .inr (.inl f_t_held_j97))), (a_t_before, .inl (cyJ, 12, .inr (.inl f_t_before_12)))] H → va_D A [(a_t, .inr (3, [.ref a_t_held, .ref a_t_before, .int c_t_size])), (a_t_held, .inl (cyJ, 12, .inr (.inl f_t_held_j97))), (a_t_before, .inl (cyJ, 12, .inr (.inl f_t_before_12)))] → va_S A s.heap H locs → ∀ (ls : Array Slot), lv_has ls 6 [(0, .ref a_t), (1, .int p0), (2, .int j2_97), (3, .long j3_97), (5, .int j5_97)] → W p l e rmX3_arrange s m ([.ref a_t, .int p0] : List Value).toArray below meth c H locs 0 0 (MQ below (va_Qi (fun (r : Int32) (_ : Unit) => r = r0) (fun _ t => wQA D [(a_t, .inr (3, [.ref a_t_held, .ref a_t_before, .int c_t_size])), (a_t_held, .inl (cyJ, 12, .inr (.inl o_f_t_held))), (a_t_before, .inl (cyJ, 12, .inr (.inl o_f_t_before)))] A t) A) ([.ref a_t, .int p0] : List Value).toArray s 0 0 A) (F0 m 97 ls []) := by
    intro j2_97 j3_97 j5_97 f_t_held_j97 h H locs hP hD hS ls hl
    unfold J_X3_arrange_97 at h
    refine lv_aload_n hx hb dX3_arrange_97 rfl (lv_at hl 0 rfl) ?_
    refine va_get (D := D) (ci := 3) (v := .ref a_t_held) (C := RX3) (T := TX3) (N := 3) hx hb hts hinX3 hown hK hP 0 rfl rfl 0 (by decide) hfl9 (fun _ h9 => h9) rfl dX3_arrange_98 ?_
    refine lv_iload hx hb dX3_arrange_101 (lv_at hl 4 rfl) ?_
    refine lv_lload_n hx hb dX3_arrange_103 rfl (lv_at hl 3 rfl) ?_
    obtain ⟨hq104, h⟩ := chk_h h
    refine va_last hx hb hK hP hD hS 1 0 rfl rfl hq104 dX3_arrange_104 (fun H locs hP hD hS => ?_)
    obtain ⟨f_t_held_104, e_f_t_held_104⟩ : ∃ z, z = vp_updL f_t_held_j97 j5_97.toNatClampNeg j3_97 := ⟨_, rfl⟩
    have h := bnd_h e_f_t_held_104 h
    have hP : va_P D vwCl [(a_t, .inr (3, [.ref a_t_held, .ref a_t_before, .int c_t_size])), (a_t_held, .inl (cyJ, 12, .inr (.inl f_t_held_104))), (a_t_before, .inl (cyJ, 12, .inr (.inl f_t_before_12)))] H := by rw [e_f_t_held_104]; exact hP
    have hD : va_D A [(a_t, .inr (3, [.ref a_t_held, .ref a_t_before, .int c_t_size])), (a_t_held, .inl (cyJ, 12, .inr (.inl f_t_held_104))), (a_t_before, .inl (cyJ, 12, .inr (.inl f_t_before_12)))] := by rw [e_f_t_held_104]; exact hD
    obtain ⟨x2_105, e_x2_105⟩ : ∃ z : Int32, z = j2_97 + 1 := ⟨_, rfl⟩
    have h := bnd_h e_x2_105 h
    refine lv_iinc (v := x2_105) (lv' := [(2, .int x2_105), (0, .ref a_t), (1, .int p0), (3, .long j3_97), (5, .int j5_97)]) hx hb dX3_arrange_105 hl (k := 2) rfl (by rw [e_x2_105]; rfl) (by decide) rfl (fun ls hl => ?_)
    refine lv_goto (tgt := 17) hx hb dX3_arrange_108 (by decide) ?_
    exact hih17 x2_105 f_t_held_104 h _ _ (hP.sub [0, 1, 2] rfl) (hD.sub [0, 1, 2] (by decide) rfl) hS ls (lv_sub hl [1, 2, 0] rfl)
  refine lv_iload_n hx hb dX3_arrange_17 rfl (lv_at hl 2 rfl) ?_
  refine lv_aload_n hx hb dX3_arrange_18 rfl (lv_at hl 0 rfl) ?_
  refine va_get (D := D) (ci := 3) (v := .int c_t_size) (C := RX3) (T := TX3) (N := 3) hx hb hts hinX3 hown hK hP 0 rfl rfl 2 (by decide) hfl18 (fun _ h9 => h9) rfl dX3_arrange_19 ?_
  refine lv_icmp_ge (tgt := 111) hx hb dX3_arrange_22 (by decide) (fun c22 => ?_) (fun c22 => ?_)
  · have h := it_ c22 h
    rw [hk111] at h
    refine lv_aload_n hx hb dX3_arrange_111 rfl (lv_at hl 0 rfl) ?_
    obtain ⟨r112, hc112, h⟩ := obn_h h
    have hPc : va_P D vwCl [(a_t, .inr (3, [.ref a_t_held, .ref a_t_before, .int c_t_size])), (a_t_held, .inl (cyJ, 12, .inr (.inl f_t_held_17))), (a_t_before, .inl (cyJ, 12, .inr (.inl f_t_before_12)))] H := hP.sub [0, 1, 2] rfl
    refine rd_callV (As := []) (rest := []) hcf (c_X3_howManyOthers l D cyJ a_t a_t_held a_t_before c_t_size f_t_held_17 f_t_before_12 r112 hc112) (cwV 0 hts gX3_arrange_X3_howManyOthers rfl rfl rfl ydX3_howManyOthers ⟨Nat.le_of_ble_eq_true rfl, Nat.le_of_ble_eq_true rfl⟩) hnw hPc hK0 (va_recv hK hP (ci := 3) (q0 := 0) rfl rfl) rfl hl.1 rfl (Nat.le_of_ble_eq_true rfl) dX3_arrange_112 ⟨Nat.le_of_ble_eq_true rfl, Nat.le_of_ble_eq_true rfl⟩ ?_
    obtain ⟨e0, e1, e2⟩ := tup3 h
    subst e0
    subst e1
    subst e2
    have hP9 : va_P D vwCl [(a_t, .inr (3, [.ref a_t_held, .ref a_t_before, .int c_t_size])), (a_t_held, .inl (cyJ, 12, .inr (.inl f_t_held_17))), (a_t_before, .inl (cyJ, 12, .inr (.inl f_t_before_12)))] H := hP.sub [0, 1, 2] rfl
    have hD9 : va_D A [(a_t, .inr (3, [.ref a_t_held, .ref a_t_before, .int c_t_size])), (a_t_held, .inl (cyJ, 12, .inr (.inl f_t_held_17))), (a_t_before, .inl (cyJ, 12, .inr (.inl f_t_before_12)))] := hD.sub [0, 1, 2] (by decide) rfl
    exact W.iret hx hb hr (fun t ht hW => ⟨⟨_, (), rfl, rfl, wQA_of ht hP9 hD9⟩, hS.F ht⟩) hS.2.2 dX3_arrange_115
  · have h := if_ c22 h
    refine lv_aload_n hx hb dX3_arrange_25 rfl (lv_at hl 0 rfl) ?_
    refine va_get (D := D) (ci := 3) (v := .ref a_t_held) (C := RX3) (T := TX3) (N := 3) hx hb hts hinX3 hown hK hP 0 rfl rfl 0 (by decide) hfl9 (fun _ h9 => h9) rfl dX3_arrange_26 ?_
    refine lv_iload_n hx hb dX3_arrange_29 rfl (lv_at hl 2 rfl) ?_
    obtain ⟨hq30, h⟩ := chk_h h
    refine va_lald hx hb hK hP 1 0 rfl rfl hq30 dX3_arrange_30 ?_
    refine lv_topl (fun x3_31 e_x3_31 => ?_)
    have h := bnd_h e_x3_31 h
    refine lv_lstore_n (lv' := [(3, .long x3_31), (0, .ref a_t), (1, .int p0), (2, .int y2_17)]) hx hb dX3_arrange_31 rfl hl (by decide) rfl (fun ls hl => ?_)
    refine lv_iload_n hx hb dX3_arrange_32 rfl (lv_at hl 3 rfl) ?_
    refine lv_istore (lv' := [(5, .int y2_17), (3, .long x3_31), (0, .ref a_t), (1, .int p0), (2, .int y2_17)]) hx hb dX3_arrange_33 hl (by decide) rfl (fun ls hl => ?_)
    refine LQ2_k1 (M := fun (y5_35 : Int32) (f_t_held_35 : Nat → Int64) => ∀ (H : Heap) (locs : List Loc), va_P D vwCl [(a_t, .inr (3, [.ref a_t_held, .ref a_t_before, .int c_t_size])), (a_t_held, .inl (cyJ, 12, .inr (.inl f_t_held_35))), (a_t_before, .inl (cyJ, 12, .inr (.inl f_t_before_12)))] H → va_D A [(a_t, .inr (3, [.ref a_t_held, .ref a_t_before, .int c_t_size])), (a_t_held, .inl (cyJ, 12, .inr (.inl f_t_held_35))), (a_t_before, .inl (cyJ, 12, .inr (.inl f_t_before_12)))] → va_S A s.heap H locs → ∀ (ls : Array Slot), lv_has ls 6 [(0, .ref a_t), (1, .int p0), (2, .int y2_17), (3, .long x3_31), (5, .int y5_35)] → W p l e rmX3_arrange s m ([.ref a_t, .int p0] : List Value).toArray below meth c H locs 0 0 (MQ below (va_Qi (fun (r : Int32) (_ : Unit) => r = r0) (fun _ t => wQA D [(a_t, .inr (3, [.ref a_t_held, .ref a_t_before, .int c_t_size])), (a_t_held, .inl (cyJ, 12, .inr (.inl o_f_t_held))), (a_t_before, .inl (cyJ, 12, .inr (.inl o_f_t_before)))] A t) A) ([.ref a_t, .int p0] : List Value).toArray s 0 0 A) (F0 m 35 ls [])) ?_ _ _ _ h _ _ hP hD hS ls (lv_sub hl [2, 3, 4, 1, 0] rfl)
    intro k97 hk97 ih35 hih35 y5_35 f_t_held_35 h H locs hP hD hS ls hl
    unfold S_X3_arrange_35 at h
    have hj75 : ∀ (j5_75 : Int32) (f_t_held_j75 : Nat → Int64), J_X3_arrange_75 ih35 j5_75 f_t_held_j75 = some (r0, o_f_t_held, o_f_t_before) → ∀ (H : Heap) (locs : List Loc), va_P D vwCl [(a_t, .inr (3, [.ref a_t_held, .ref a_t_before, .int c_t_size])), (a_t_held, .inl (cyJ, 12, .inr (.inl f_t_held_j75))), (a_t_before, .inl (cyJ, 12, .inr (.inl f_t_before_12)))] H → va_D A [(a_t, .inr (3, [.ref a_t_held, .ref a_t_before, .int c_t_size])), (a_t_held, .inl (cyJ, 12, .inr (.inl f_t_held_j75))), (a_t_before, .inl (cyJ, 12, .inr (.inl f_t_before_12)))] → va_S A s.heap H locs → ∀ (ls : Array Slot), lv_has ls 6 [(0, .ref a_t), (1, .int p0), (2, .int y2_17), (3, .long x3_31), (5, .int j5_75)] → W p l e rmX3_arrange s m ([.ref a_t, .int p0] : List Value).toArray below meth c H locs 0 0 (MQ below (va_Qi (fun (r : Int32) (_ : Unit) => r = r0) (fun _ t => wQA D [(a_t, .inr (3, [.ref a_t_held, .ref a_t_before, .int c_t_size])), (a_t_held, .inl (cyJ, 12, .inr (.inl o_f_t_held))), (a_t_before, .inl (cyJ, 12, .inr (.inl o_f_t_before)))] A t) A) ([.ref a_t, .int p0] : List Value).toArray s 0 0 A) (F0 m 75 ls []) := by
      intro j5_75 f_t_held_j75 h H locs hP hD hS ls hl
      unfold J_X3_arrange_75 at h
      refine lv_aload_n hx hb dX3_arrange_75 rfl (lv_at hl 0 rfl) ?_
      refine va_get (D := D) (ci := 3) (v := .ref a_t_held) (C := RX3) (T := TX3) (N := 3) hx hb hts hinX3 hown hK hP 0 rfl rfl 0 (by decide) hfl9 (fun _ h9 => h9) rfl dX3_arrange_76 ?_
      refine lv_iload hx hb dX3_arrange_79 (lv_at hl 4 rfl) ?_
      refine lv_aload_n hx hb dX3_arrange_81 rfl (lv_at hl 0 rfl) ?_
      refine va_get (D := D) (ci := 3) (v := .ref a_t_held) (C := RX3) (T := TX3) (N := 3) hx hb hts hinX3 hown hK hP 0 rfl rfl 0 (by decide) hfl9 (fun _ h9 => h9) rfl dX3_arrange_82 ?_
      refine lv_iload hx hb dX3_arrange_85 (lv_at hl 4 rfl) ?_
      refine lv_iconst (v := 1) hx hb dX3_arrange_87 (by decide) ?_
      refine lv_isub hx hb dX3_arrange_88 ?_
      obtain ⟨hq89, h⟩ := chk_h h
      refine va_lald hx hb hK hP 1 0 rfl rfl hq89 dX3_arrange_89 ?_
      obtain ⟨hq90, h⟩ := chk_h h
      refine va_last hx hb hK hP hD hS 1 0 rfl rfl hq90 dX3_arrange_90 (fun H locs hP hD hS => ?_)
      obtain ⟨f_t_held_90, e_f_t_held_90⟩ : ∃ z, z = vp_updL f_t_held_j75 j5_75.toNatClampNeg (f_t_held_j75 (j5_75 - (1 : Int32)).toNatClampNeg) := ⟨_, rfl⟩
      have h := bnd_h e_f_t_held_90 h
      have hP : va_P D vwCl [(a_t, .inr (3, [.ref a_t_held, .ref a_t_before, .int c_t_size])), (a_t_held, .inl (cyJ, 12, .inr (.inl f_t_held_90))), (a_t_before, .inl (cyJ, 12, .inr (.inl f_t_before_12)))] H := by rw [e_f_t_held_90]; exact hP
      have hD : va_D A [(a_t, .inr (3, [.ref a_t_held, .ref a_t_before, .int c_t_size])), (a_t_held, .inl (cyJ, 12, .inr (.inl f_t_held_90))), (a_t_before, .inl (cyJ, 12, .inr (.inl f_t_before_12)))] := by rw [e_f_t_held_90]; exact hD
      obtain ⟨x5_91, e_x5_91⟩ : ∃ z : Int32, z = j5_75 + (-1) := ⟨_, rfl⟩
      have h := bnd_h e_x5_91 h
      refine lv_iinc (v := x5_91) (lv' := [(5, .int x5_91), (0, .ref a_t), (1, .int p0), (2, .int y2_17), (3, .long x3_31)]) hx hb dX3_arrange_91 hl (k := 4) rfl (by rw [e_x5_91]; rfl) (by decide) rfl (fun ls hl => ?_)
      refine lv_goto (tgt := 35) hx hb dX3_arrange_94 (by decide) ?_
      exact hih35 x5_91 f_t_held_90 h _ _ (hP.sub [0, 1, 2] rfl) (hD.sub [0, 1, 2] (by decide) rfl) hS ls (lv_sub hl [1, 2, 3, 4, 0] rfl)
    refine lv_iload hx hb dX3_arrange_35 (lv_at hl 4 rfl) ?_
    refine lv_if_le (tgt := 97) hx hb dX3_arrange_37 (by decide) (fun c37 => ?_) (fun c37 => ?_)
    · have h := it_ c37 h
      rw [hk97] at h
      exact hj97 y2_17 x3_31 y5_35 f_t_held_35 h _ _ (hP.sub [0, 1, 2] rfl) (hD.sub [0, 1, 2] (by decide) rfl) hS ls (lv_sub hl [0, 1, 2, 3, 4] rfl)
    · have h := if_ c37 h
      refine lv_iload_n hx hb dX3_arrange_40 rfl (lv_at hl 1 rfl) ?_
      refine lv_if_eq (tgt := 61) hx hb dX3_arrange_41 (by decide) (fun c41 => ?_) (fun c41 => ?_)
      · have h := it_ c41 h
        refine lv_aload_n hx hb dX3_arrange_61 rfl (lv_at hl 0 rfl) ?_
        refine va_get (D := D) (ci := 3) (v := .ref a_t_held) (C := RX3) (T := TX3) (N := 3) hx hb hts hinX3 hown hK hP 0 rfl rfl 0 (by decide) hfl9 (fun _ h9 => h9) rfl dX3_arrange_62 ?_
        refine lv_iload hx hb dX3_arrange_65 (lv_at hl 4 rfl) ?_
        refine lv_iconst (v := 1) hx hb dX3_arrange_67 (by decide) ?_
        refine lv_isub hx hb dX3_arrange_68 ?_
        obtain ⟨hq69, h⟩ := chk_h h
        refine va_lald hx hb hK hP 1 0 rfl rfl hq69 dX3_arrange_69 ?_
        refine lv_lload_n hx hb dX3_arrange_70 rfl (lv_at hl 3 rfl) ?_
        refine W.lcmp hx hb dX3_arrange_71 ?_
        refine lv_if_le (tgt := 97) hx hb dX3_arrange_72 (by decide) (fun c72 => ?_) (fun c72 => ?_)
        · have c72 := (lg_cmp_le _ _).mp c72
          have h := it_ c72 h
          rw [hk97] at h
          exact hj97 y2_17 x3_31 y5_35 f_t_held_35 h _ _ (hP.sub [0, 1, 2] rfl) (hD.sub [0, 1, 2] (by decide) rfl) hS ls (lv_sub hl [0, 1, 2, 3, 4] rfl)
        · have c72 := fun z => c72 ((lg_cmp_le _ _).mpr z)
          have h := if_ c72 h
          exact hj75 y5_35 f_t_held_35 h _ _ (hP.sub [0, 1, 2] rfl) (hD.sub [0, 1, 2] (by decide) rfl) hS ls (lv_sub hl [0, 1, 2, 3, 4] rfl)
      · have h := if_ c41 h
        refine lv_aload_n hx hb dX3_arrange_44 rfl (lv_at hl 0 rfl) ?_
        refine va_get (D := D) (ci := 3) (v := .ref a_t_held) (C := RX3) (T := TX3) (N := 3) hx hb hts hinX3 hown hK hP 0 rfl rfl 0 (by decide) hfl9 (fun _ h9 => h9) rfl dX3_arrange_45 ?_
        refine lv_iload hx hb dX3_arrange_48 (lv_at hl 4 rfl) ?_
        refine lv_iconst (v := 1) hx hb dX3_arrange_50 (by decide) ?_
        refine lv_isub hx hb dX3_arrange_51 ?_
        obtain ⟨hq52, h⟩ := chk_h h
        refine va_lald hx hb hK hP 1 0 rfl rfl hq52 dX3_arrange_52 ?_
        refine lv_lload_n hx hb dX3_arrange_53 rfl (lv_at hl 3 rfl) ?_
        refine W.lcmp hx hb dX3_arrange_54 ?_
        refine lv_if_ge (tgt := 97) hx hb dX3_arrange_55 (by decide) (fun c55 => ?_) (fun c55 => ?_)
        · have c55 := (lg_cmp_ge _ _).mp c55
          have h := it_ c55 h
          rw [hk97] at h
          exact hj97 y2_17 x3_31 y5_35 f_t_held_35 h _ _ (hP.sub [0, 1, 2] rfl) (hD.sub [0, 1, 2] (by decide) rfl) hS ls (lv_sub hl [0, 1, 2, 3, 4] rfl)
        · have c55 := fun z => c55 ((lg_cmp_ge _ _).mpr z)
          have h := if_ c55 h
          refine lv_goto (tgt := 75) hx hb dX3_arrange_58 (by decide) ?_
          exact hj75 y5_35 f_t_held_35 h _ _ (hP.sub [0, 1, 2] rfl) (hD.sub [0, 1, 2] (by decide) rfl) hS ls (lv_sub hl [0, 1, 2, 3, 4] rfl)

noncomputable abbrev rmX1_findByTrying : Room := { frames := 4, cells := 0, slots := 0, locals := 94 }
theorem ydX1_findByTrying : yX1_findByTrying.cls = RX1 ∧ yX1_findByTrying.cls ≠ "java/lang/invoke/MethodHandle" ∧ yX1_findByTrying.cls ≠ "java/lang/invoke/VarHandle" ∧ (parseMethodDescriptor yX1_findByTrying.desc).map (fun d => d.parameters.length) = some 2 := by decide +kernel
noncomputable def S_X1_findByTrying_15 (k90 : Int32 → (Nat → Int64) → Option (Int32 × (Nat → Int64))) (ih15 : Int64 → Int64 → Int32 → Int32 → (Nat → Int64) → Option (Int32 × (Nat → Int64))) (y4_15 : Int64) (y6_15 : Int64) (y8_15 : Int32) (c_q1_size_15 : Int32) (f_q1_held_15 : Nat → Int64) : Option (Int32 × (Nat → Int64)) :=
 (if (10000 : Int32) ≤ y8_15 then
 k90 c_q1_size_15 f_q1_held_15
else
 obn (F_X0_degreeOf y4_15) (fun r25 =>
 (if r25 ≤ 0 then
 k90 c_q1_size_15 f_q1_held_15
else
 obn (F_X0_degreeOf y6_15) (fun r34 =>
 obn (F_X0_degreeOf y4_15) (fun r40 =>
 (if ((2 : Int32) * r34) ≤ r40 then
 obn (F_X0_goesInto y6_15 y4_15) (fun r54 =>
 (if r54 = 0 then
 bnd (y6_15 + (1 : Int64)) (fun x6_82 =>
 bnd (y8_15 + 1) (fun x8_84 =>
 ih15 y4_15 x6_82 x8_84 c_q1_size_15 f_q1_held_15))
else
 obn2 (F_X3_append c_q1_size_15 f_q1_held_15 y6_15) (fun c_q1_size_63 f_q1_held_63 =>
 obn (F_X0_quotient y4_15 y6_15) (fun r70 =>
 bnd (y8_15 + 1) (fun x8_84 =>
 ih15 r70 y6_15 x8_84 c_q1_size_63 f_q1_held_63)))))
else
 obn (F_X0_goesInto y4_15 y4_15) (fun r54 =>
 (if r54 = 0 then
 bnd (y4_15 + (1 : Int64)) (fun x6_82 =>
 bnd (y8_15 + 1) (fun x8_84 =>
 ih15 y4_15 x6_82 x8_84 c_q1_size_15 f_q1_held_15))
else
 obn2 (F_X3_append c_q1_size_15 f_q1_held_15 y4_15) (fun c_q1_size_63 f_q1_held_63 =>
 obn (F_X0_quotient y4_15 y4_15) (fun r70 =>
 bnd (y8_15 + 1) (fun x8_84 =>
 ih15 r70 y4_15 x8_84 c_q1_size_63 f_q1_held_63)))))))))))
noncomputable def F_X1_findByTrying (f_q1_held : Nat → Int64) (p0 : Int64) : Option (Int32 × (Nat → Int64)) :=
 obn (F_X3_removeAll ) (fun c_q1_size_1 =>
 LQ5 (S_X1_findByTrying_15 (fun c_q1_size_15_90 f_q1_held_15_90 =>
 some (c_q1_size_15_90, f_q1_held_15_90))) 20000 p0 (2 : Int64) (0 : Int32) c_q1_size_1 f_q1_held)
set_option maxHeartbeats 4000000 in
set_option maxRecDepth 100000 in
theorem c_X1_findByTrying (l : Launch) (D : va_G) (cyJ : ClassId) (sz : Nat) (a_t : Nat) (a_q1 : Nat) (a_q1_held : Nat) (a_q1_before : Nat) (c_q1_size : Int32) (f_q1_held : Nat → Int64) (p0 : Int64) (o_c_q1_size : Int32) (o_f_q1_held : Nat → Int64) (hF : F_X1_findByTrying f_q1_held p0 = some (o_c_q1_size, o_f_q1_held)) : Met l yX1_findByTrying wsX1_findByTrying rmX1_findByTrying (va_Pc [.ref a_t, .long p0, .ref a_q1] (wPD D [(cyJ, .long)] [(a_q1, .inr (3, [.ref a_q1_held, .ref a_q1_before, .int c_q1_size])), (a_q1_held, .inl (cyJ, 12, .inr (.inl f_q1_held)))] sz)) (va_Qv (fun (_ : Unit) => True) (fun _ t => wQA D [(a_q1, .inr (3, [.ref a_q1_held, .ref a_q1_before, .int o_c_q1_size])), (a_q1_held, .inl (cyJ, 12, .inr (.inl o_f_q1_held)))] (va_A [(a_q1, .inr (3, [.ref a_q1_held, .ref a_q1_before, .int c_q1_size])), (a_q1_held, .inl (cyJ, 12, .inr (.inl f_q1_held)))] sz) t) (va_A [(a_q1, .inr (3, [.ref a_q1_held, .ref a_q1_before, .int c_q1_size])), (a_q1_held, .inl (cyJ, 12, .inr (.inl f_q1_held)))] sz)) 0 0 (va_A [(a_q1, .inr (3, [.ref a_q1_held, .ref a_q1_before, .int c_q1_size])), (a_q1_held, .inl (cyJ, 12, .inr (.inl f_q1_held)))] sz) := by
  refine Met.ofW (cc := cX1_findByTrying) (maxL := 9) (ret := none) (by decide) rfl ?_
  intro p e s m args below meth c s₁ B hml hv
  obtain ⟨rfl, hsz, hP, hK, hD0, hnw⟩ := hv
  have hx := B.exec
  have hb := B.bytes
  have hr := B.returns
  have hts := atoms_spec (ws := wsX1_findByTrying) B.pre
  have hown : s.vm.findClass RX1 = some m.cls := findClass_of_methodNamed B.named
  have hlocks := B.notSynchronized
  have hcf : CallFix _ _ _ _ _ _ _ _ _ := ⟨hx, hb, hml, hown, hts⟩
  subst hsz
  have hD := hD0.self (sz := s.heap.size)
  generalize hAe : va_A [(a_q1, .inr (3, [.ref a_q1_held, .ref a_q1_before, .int c_q1_size])), (a_q1_held, .inl (cyJ, 12, .inr (.inl f_q1_held)))] s.heap.size = A at hD ⊢
  have hA : ∀ q : Nat, s.heap.size ≤ q → A q := fun q h => by rw [← hAe]; exact Or.inr h
  have hS : va_S A s.heap s.heap [] := va_S.rf
  have hP : va_P D vwCl [(a_q1, .inr (3, [.ref a_q1_held, .ref a_q1_before, .int c_q1_size])), (a_q1_held, .inl (cyJ, 12, .inr (.inl f_q1_held)))] s.heap := hP
  have hK0 := hK
  have hl := lv_entry ([.ref a_t, .long p0, .ref a_q1]) (n := 9) (Nat.le_of_ble_eq_true rfl)
  rw [lg_entry_eq]
  generalize (lg_sl ([.ref a_t, .long p0, .ref a_q1]) ++ List.replicate (9 - (lg_sl ([.ref a_t, .long p0, .ref a_q1])).length) Slot.unset).toArray = ls at hl ⊢
  have hl : lv_has ls 9 [(0, .ref a_t), (1, .long p0), (3, .ref a_q1)] := hl
  have h := hF
  clear hF
  unfold F_X1_findByTrying at h
  refine lv_aload_n hx hb dX1_findByTrying_0 rfl (lv_at hl 2 rfl) ?_
  obtain ⟨c_q1_size_1, hc1, h⟩ := obn_h h
  have hPc := hP.sub (ws' := [(a_q1, .inr (3, [.ref a_q1_held, .ref a_q1_before, .int c_q1_size]))]) [0] rfl
  have hDc := hD.sub (ws' := [(a_q1, .inr (3, [.ref a_q1_held, .ref a_q1_before, .int c_q1_size]))]) [0] (by decide) rfl
  refine hp_v (w1 := [(a_q1, .inr (3, [.ref a_q1_held, .ref a_q1_before, .int c_q1_size_1]))]) (wr := [(a_q1_held, .inl (cyJ, 12, .inr (.inl f_q1_held)))]) (va_runV (As := []) (rest := []) hcf (c_X3_removeAll l D cyJ s.heap.size a_q1 a_q1_held a_q1_before c_q1_size c_q1_size_1 hc1) (cwV 0 hts gX1_findByTrying_X3_removeAll rfl rfl rfl ydX3_removeAll ⟨Nat.le_of_ble_eq_true rfl, Nat.le_of_ble_eq_true rfl⟩) ⟨bl_PD, va_recv hK hP (ci := 3) (q0 := 0) rfl rfl, pr_PD hPc hK0 hDc hnw⟩ rfl rfl hl.1 rfl (lv_room (Nat.le_of_ble_eq_true rfl)) dX1_findByTrying_1 ⟨Nat.le_of_ble_eq_true rfl, Nat.le_of_ble_eq_true rfl⟩) hP hD hS hA [0] [1] rfl rfl (by decide) (by decide) (fun H locs hP hD hS => ?_)
  have hP : va_P D vwCl [(a_q1_held, .inl (cyJ, 12, .inr (.inl f_q1_held))), (a_q1, .inr (3, [.ref a_q1_held, .ref a_q1_before, .int c_q1_size_1]))] H := hP
  have hD : va_D A [(a_q1_held, .inl (cyJ, 12, .inr (.inl f_q1_held))), (a_q1, .inr (3, [.ref a_q1_held, .ref a_q1_before, .int c_q1_size_1]))] := hD
  refine lv_lload_n hx hb dX1_findByTrying_4 rfl (lv_at hl 1 rfl) ?_
  refine lv_lstore (lv' := [(4, .long p0), (0, .ref a_t), (1, .long p0), (3, .ref a_q1)]) hx hb dX1_findByTrying_5 hl (by decide) rfl (fun ls hl => ?_)
  refine lv_ldc2 hx hb hown (hts (.constantLong RX1 21 (2)) (by decide +kernel)) dX1_findByTrying_7 ?_
  refine lv_lstore (lv' := [(6, .long (2 : Int64)), (4, .long p0), (0, .ref a_t), (1, .long p0), (3, .ref a_q1)]) hx hb dX1_findByTrying_10 hl (by decide) rfl (fun ls hl => ?_)
  refine lv_iconst (v := 0) hx hb dX1_findByTrying_12 (by decide) ?_
  refine lv_istore (lv' := [(8, .int (0 : Int32)), (6, .long (2 : Int64)), (4, .long p0), (0, .ref a_t), (1, .long p0), (3, .ref a_q1)]) hx hb dX1_findByTrying_13 hl (by decide) rfl (fun ls hl => ?_)
  refine LQ5_k1 (M := fun (y4_15 : Int64) (y6_15 : Int64) (y8_15 : Int32) (c_q1_size_15 : Int32) (f_q1_held_15 : Nat → Int64) => ∀ (H : Heap) (locs : List Loc), va_P D vwCl [(a_q1_held, .inl (cyJ, 12, .inr (.inl f_q1_held_15))), (a_q1, .inr (3, [.ref a_q1_held, .ref a_q1_before, .int c_q1_size_15]))] H → va_D A [(a_q1_held, .inl (cyJ, 12, .inr (.inl f_q1_held_15))), (a_q1, .inr (3, [.ref a_q1_held, .ref a_q1_before, .int c_q1_size_15]))] → va_S A s.heap H locs → ∀ (ls : Array Slot), lv_has ls 9 [(3, .ref a_q1), (4, .long y4_15), (6, .long y6_15), (8, .int y8_15)] → W p l e rmX1_findByTrying s m ([.ref a_t, .long p0, .ref a_q1] : List Value).toArray below meth c H locs 0 0 (MQ below (va_Qv (fun (_ : Unit) => True) (fun _ t => wQA D [(a_q1, .inr (3, [.ref a_q1_held, .ref a_q1_before, .int o_c_q1_size])), (a_q1_held, .inl (cyJ, 12, .inr (.inl o_f_q1_held)))] A t) A) ([.ref a_t, .long p0, .ref a_q1] : List Value).toArray s 0 0 A) (F0 m 15 ls [])) ?_ _ _ _ _ _ _ h _ _ hP hD hS ls (lv_sub hl [5, 2, 1, 0] rfl)
  intro k90 hk90 ih15 hih15 y4_15 y6_15 y8_15 c_q1_size_15 f_q1_held_15 h H locs hP hD hS ls hl
  unfold S_X1_findByTrying_15 at h
  refine lv_iload hx hb dX1_findByTrying_15 (lv_at hl 3 rfl) ?_
  refine lv_sipush (v := 10000) hx hb dX1_findByTrying_17 (by decide) ?_
  refine lv_icmp_ge (tgt := 90) hx hb dX1_findByTrying_20 (by decide) (fun c20 => ?_) (fun c20 => ?_)
  · have h := it_ c20 h
    rw [hk90] at h
    obtain ⟨e0, e1⟩ := tup2 h
    subst e0
    subst e1
    have hP9 : va_P D vwCl [(a_q1, .inr (3, [.ref a_q1_held, .ref a_q1_before, .int c_q1_size_15])), (a_q1_held, .inl (cyJ, 12, .inr (.inl f_q1_held_15)))] H := hP.sub [1, 0] rfl
    have hD9 : va_D A [(a_q1, .inr (3, [.ref a_q1_held, .ref a_q1_before, .int c_q1_size_15])), (a_q1_held, .inl (cyJ, 12, .inr (.inl f_q1_held_15)))] := hD.sub [1, 0] (by decide) rfl
    exact W.vret hx hb hr (fun t ht hW => ⟨⟨(), rfl, trivial, wQA_of ht hP9 hD9⟩, hS.F ht⟩) hS.2.2 dX1_findByTrying_90
  · have h := if_ c20 h
    refine lv_lload hx hb dX1_findByTrying_23 (lv_at hl 1 rfl) ?_
    obtain ⟨r25, hc25, h⟩ := obn_h h
    refine pz_callS (As := [.long y4_15]) (rest := []) hcf (c_X0_degreeOf l y4_15 r25 hc25) (va_cwS 1 hts gX1_findByTrying_X0_degreeOf rfl rfl rfl ydX0_degreeOf ⟨Nat.le_of_ble_eq_true rfl, Nat.le_of_ble_eq_true rfl⟩) hnw rfl hl.1 rfl (Nat.le_of_ble_eq_true rfl) dX1_findByTrying_25 ⟨Nat.le_of_ble_eq_true rfl, Nat.le_of_ble_eq_true rfl⟩ ?_
    refine lv_if_le (tgt := 90) hx hb dX1_findByTrying_28 (by decide) (fun c28 => ?_) (fun c28 => ?_)
    · have h := it_ c28 h
      rw [hk90] at h
      obtain ⟨e0, e1⟩ := tup2 h
      subst e0
      subst e1
      have hP9 : va_P D vwCl [(a_q1, .inr (3, [.ref a_q1_held, .ref a_q1_before, .int c_q1_size_15])), (a_q1_held, .inl (cyJ, 12, .inr (.inl f_q1_held_15)))] H := hP.sub [1, 0] rfl
      have hD9 : va_D A [(a_q1, .inr (3, [.ref a_q1_held, .ref a_q1_before, .int c_q1_size_15])), (a_q1_held, .inl (cyJ, 12, .inr (.inl f_q1_held_15)))] := hD.sub [1, 0] (by decide) rfl
      exact W.vret hx hb hr (fun t ht hW => ⟨⟨(), rfl, trivial, wQA_of ht hP9 hD9⟩, hS.F ht⟩) hS.2.2 dX1_findByTrying_90
    · have h := if_ c28 h
      refine lv_iconst (v := 2) hx hb dX1_findByTrying_31 (by decide) ?_
      refine lv_lload hx hb dX1_findByTrying_32 (lv_at hl 2 rfl) ?_
      obtain ⟨r34, hc34, h⟩ := obn_h h
      refine pz_callS (As := [.long y6_15]) (rest := [.int (2 : Int32)]) hcf (c_X0_degreeOf l y6_15 r34 hc34) (va_cwS 1 hts gX1_findByTrying_X0_degreeOf rfl rfl rfl ydX0_degreeOf ⟨Nat.le_of_ble_eq_true rfl, Nat.le_of_ble_eq_true rfl⟩) hnw rfl hl.1 rfl (Nat.le_of_ble_eq_true rfl) dX1_findByTrying_34 ⟨Nat.le_of_ble_eq_true rfl, Nat.le_of_ble_eq_true rfl⟩ ?_
      refine lv_imul hx hb dX1_findByTrying_37 ?_
      refine lv_lload hx hb dX1_findByTrying_38 (lv_at hl 1 rfl) ?_
      obtain ⟨r40, hc40, h⟩ := obn_h h
      refine pz_callS (As := [.long y4_15]) (rest := [.int ((2 : Int32) * r34)]) hcf (c_X0_degreeOf l y4_15 r40 hc40) (va_cwS 1 hts gX1_findByTrying_X0_degreeOf rfl rfl rfl ydX0_degreeOf ⟨Nat.le_of_ble_eq_true rfl, Nat.le_of_ble_eq_true rfl⟩) hnw rfl hl.1 rfl (Nat.le_of_ble_eq_true rfl) dX1_findByTrying_40 ⟨Nat.le_of_ble_eq_true rfl, Nat.le_of_ble_eq_true rfl⟩ ?_
      refine lv_icmp_le (tgt := 50) hx hb dX1_findByTrying_43 (by decide) (fun c43 => ?_) (fun c43 => ?_)
      · have h := it_ c43 h
        refine lv_lload hx hb dX1_findByTrying_50 (lv_at hl 2 rfl) ?_
        refine lv_lload hx hb dX1_findByTrying_52 (lv_at hl 1 rfl) ?_
        obtain ⟨r54, hc54, h⟩ := obn_h h
        refine pz_callS (As := [.long y6_15, .long y4_15]) (rest := []) hcf (c_X0_goesInto l y6_15 y4_15 r54 hc54) (va_cwS 2 hts gX1_findByTrying_X0_goesInto rfl rfl rfl ydX0_goesInto ⟨Nat.le_of_ble_eq_true rfl, Nat.le_of_ble_eq_true rfl⟩) hnw rfl hl.1 rfl (Nat.le_of_ble_eq_true rfl) dX1_findByTrying_54 ⟨Nat.le_of_ble_eq_true rfl, Nat.le_of_ble_eq_true rfl⟩ ?_
        refine lv_if_eq (tgt := 78) hx hb dX1_findByTrying_57 (by decide) (fun c57 => ?_) (fun c57 => ?_)
        · have h := it_ c57 h
          refine lv_lload hx hb dX1_findByTrying_78 (lv_at hl 2 rfl) ?_
          refine lv_lconst (v := 1) hx hb dX1_findByTrying_80 (by decide) ?_
          refine lv_ladd hx hb dX1_findByTrying_81 ?_
          refine lv_topl (fun x6_82 e_x6_82 => ?_)
          have h := bnd_h e_x6_82 h
          refine lv_lstore (lv' := [(6, .long x6_82), (3, .ref a_q1), (4, .long y4_15), (8, .int y8_15)]) hx hb dX1_findByTrying_82 hl (by decide) rfl (fun ls hl => ?_)
          obtain ⟨x8_84, e_x8_84⟩ : ∃ z : Int32, z = y8_15 + 1 := ⟨_, rfl⟩
          have h := bnd_h e_x8_84 h
          refine lv_iinc (v := x8_84) (lv' := [(8, .int x8_84), (6, .long x6_82), (3, .ref a_q1), (4, .long y4_15)]) hx hb dX1_findByTrying_84 hl (k := 3) rfl (by rw [e_x8_84]; rfl) (by decide) rfl (fun ls hl => ?_)
          refine lv_goto (tgt := 15) hx hb dX1_findByTrying_87 (by decide) ?_
          exact hih15 y4_15 x6_82 x8_84 c_q1_size_15 f_q1_held_15 h _ _ (hP.sub [0, 1] rfl) (hD.sub [0, 1] (by decide) rfl) hS ls (lv_sub hl [2, 3, 1, 0] rfl)
        · have h := if_ c57 h
          refine lv_aload_n hx hb dX1_findByTrying_60 rfl (lv_at hl 0 rfl) ?_
          refine lv_lload hx hb dX1_findByTrying_61 (lv_at hl 2 rfl) ?_
          obtain ⟨c_q1_size_63, f_q1_held_63, hc63, h⟩ := obn2_h h
          have hPc := hP.sub (ws' := [(a_q1, .inr (3, [.ref a_q1_held, .ref a_q1_before, .int c_q1_size_15])), (a_q1_held, .inl (cyJ, 12, .inr (.inl f_q1_held_15)))]) [1, 0] rfl
          have hDc := hD.sub (ws' := [(a_q1, .inr (3, [.ref a_q1_held, .ref a_q1_before, .int c_q1_size_15])), (a_q1_held, .inl (cyJ, 12, .inr (.inl f_q1_held_15)))]) [1, 0] (by decide) rfl
          refine hp_v (w1 := [(a_q1, .inr (3, [.ref a_q1_held, .ref a_q1_before, .int c_q1_size_63])), (a_q1_held, .inl (cyJ, 12, .inr (.inl f_q1_held_63)))]) (wr := []) (va_runV (As := [.long y6_15]) (rest := []) hcf (c_X3_append l D cyJ H.size a_q1 a_q1_held a_q1_before c_q1_size_15 f_q1_held_15 y6_15 c_q1_size_63 f_q1_held_63 hc63) (cwV 1 hts gX1_findByTrying_X3_append rfl rfl rfl ydX3_append ⟨Nat.le_of_ble_eq_true rfl, Nat.le_of_ble_eq_true rfl⟩) ⟨bl_PD, va_recv hK hP (ci := 3) (q0 := 1) rfl rfl, pr_PD hPc hK0 hDc hnw⟩ rfl rfl hl.1 rfl (lv_room (Nat.le_of_ble_eq_true rfl)) dX1_findByTrying_63 ⟨Nat.le_of_ble_eq_true rfl, Nat.le_of_ble_eq_true rfl⟩) hP hD hS hA [1, 0] [] rfl rfl (by decide) (by decide) (fun H locs hP hD hS => ?_)
          have hP : va_P D vwCl [(a_q1, .inr (3, [.ref a_q1_held, .ref a_q1_before, .int c_q1_size_63])), (a_q1_held, .inl (cyJ, 12, .inr (.inl f_q1_held_63)))] H := hP
          have hD : va_D A [(a_q1, .inr (3, [.ref a_q1_held, .ref a_q1_before, .int c_q1_size_63])), (a_q1_held, .inl (cyJ, 12, .inr (.inl f_q1_held_63)))] := hD
          refine lv_lload hx hb dX1_findByTrying_66 (lv_at hl 1 rfl) ?_
          refine lv_lload hx hb dX1_findByTrying_68 (lv_at hl 2 rfl) ?_
          obtain ⟨r70, hc70, h⟩ := obn_h h
          refine pz_callS (As := [.long y4_15, .long y6_15]) (rest := []) hcf (c_X0_quotient l y4_15 y6_15 r70 hc70) (va_cwS 2 hts gX1_findByTrying_X0_quotient rfl rfl rfl ydX0_quotient ⟨Nat.le_of_ble_eq_true rfl, Nat.le_of_ble_eq_true rfl⟩) hnw rfl hl.1 rfl (Nat.le_of_ble_eq_true rfl) dX1_findByTrying_70 ⟨Nat.le_of_ble_eq_true rfl, Nat.le_of_ble_eq_true rfl⟩ ?_
          refine lv_lstore (lv' := [(4, .long r70), (3, .ref a_q1), (6, .long y6_15), (8, .int y8_15)]) hx hb dX1_findByTrying_73 hl (by decide) rfl (fun ls hl => ?_)
          refine lv_goto (tgt := 84) hx hb dX1_findByTrying_75 (by decide) ?_
          obtain ⟨x8_84, e_x8_84⟩ : ∃ z : Int32, z = y8_15 + 1 := ⟨_, rfl⟩
          have h := bnd_h e_x8_84 h
          refine lv_iinc (v := x8_84) (lv' := [(8, .int x8_84), (4, .long r70), (3, .ref a_q1), (6, .long y6_15)]) hx hb dX1_findByTrying_84 hl (k := 3) rfl (by rw [e_x8_84]; rfl) (by decide) rfl (fun ls hl => ?_)
          refine lv_goto (tgt := 15) hx hb dX1_findByTrying_87 (by decide) ?_
          exact hih15 r70 y6_15 x8_84 c_q1_size_63 f_q1_held_63 h _ _ (hP.sub [1, 0] rfl) (hD.sub [1, 0] (by decide) rfl) hS ls (lv_sub hl [2, 1, 3, 0] rfl)
      · have h := if_ c43 h
        refine lv_lload hx hb dX1_findByTrying_46 (lv_at hl 1 rfl) ?_
        refine lv_lstore (lv' := [(6, .long y4_15), (3, .ref a_q1), (4, .long y4_15), (8, .int y8_15)]) hx hb dX1_findByTrying_48 hl (by decide) rfl (fun ls hl => ?_)
        refine lv_lload hx hb dX1_findByTrying_50 (lv_at hl 0 rfl) ?_
        refine lv_lload hx hb dX1_findByTrying_52 (lv_at hl 2 rfl) ?_
        obtain ⟨r54, hc54, h⟩ := obn_h h
        refine pz_callS (As := [.long y4_15, .long y4_15]) (rest := []) hcf (c_X0_goesInto l y4_15 y4_15 r54 hc54) (va_cwS 2 hts gX1_findByTrying_X0_goesInto rfl rfl rfl ydX0_goesInto ⟨Nat.le_of_ble_eq_true rfl, Nat.le_of_ble_eq_true rfl⟩) hnw rfl hl.1 rfl (Nat.le_of_ble_eq_true rfl) dX1_findByTrying_54 ⟨Nat.le_of_ble_eq_true rfl, Nat.le_of_ble_eq_true rfl⟩ ?_
        refine lv_if_eq (tgt := 78) hx hb dX1_findByTrying_57 (by decide) (fun c57 => ?_) (fun c57 => ?_)
        · have h := it_ c57 h
          refine lv_lload hx hb dX1_findByTrying_78 (lv_at hl 0 rfl) ?_
          refine lv_lconst (v := 1) hx hb dX1_findByTrying_80 (by decide) ?_
          refine lv_ladd hx hb dX1_findByTrying_81 ?_
          refine lv_topl (fun x6_82 e_x6_82 => ?_)
          have h := bnd_h e_x6_82 h
          refine lv_lstore (lv' := [(6, .long x6_82), (3, .ref a_q1), (4, .long y4_15), (8, .int y8_15)]) hx hb dX1_findByTrying_82 hl (by decide) rfl (fun ls hl => ?_)
          obtain ⟨x8_84, e_x8_84⟩ : ∃ z : Int32, z = y8_15 + 1 := ⟨_, rfl⟩
          have h := bnd_h e_x8_84 h
          refine lv_iinc (v := x8_84) (lv' := [(8, .int x8_84), (6, .long x6_82), (3, .ref a_q1), (4, .long y4_15)]) hx hb dX1_findByTrying_84 hl (k := 3) rfl (by rw [e_x8_84]; rfl) (by decide) rfl (fun ls hl => ?_)
          refine lv_goto (tgt := 15) hx hb dX1_findByTrying_87 (by decide) ?_
          exact hih15 y4_15 x6_82 x8_84 c_q1_size_15 f_q1_held_15 h _ _ (hP.sub [0, 1] rfl) (hD.sub [0, 1] (by decide) rfl) hS ls (lv_sub hl [2, 3, 1, 0] rfl)
        · have h := if_ c57 h
          refine lv_aload_n hx hb dX1_findByTrying_60 rfl (lv_at hl 1 rfl) ?_
          refine lv_lload hx hb dX1_findByTrying_61 (lv_at hl 0 rfl) ?_
          obtain ⟨c_q1_size_63, f_q1_held_63, hc63, h⟩ := obn2_h h
          have hPc := hP.sub (ws' := [(a_q1, .inr (3, [.ref a_q1_held, .ref a_q1_before, .int c_q1_size_15])), (a_q1_held, .inl (cyJ, 12, .inr (.inl f_q1_held_15)))]) [1, 0] rfl
          have hDc := hD.sub (ws' := [(a_q1, .inr (3, [.ref a_q1_held, .ref a_q1_before, .int c_q1_size_15])), (a_q1_held, .inl (cyJ, 12, .inr (.inl f_q1_held_15)))]) [1, 0] (by decide) rfl
          refine hp_v (w1 := [(a_q1, .inr (3, [.ref a_q1_held, .ref a_q1_before, .int c_q1_size_63])), (a_q1_held, .inl (cyJ, 12, .inr (.inl f_q1_held_63)))]) (wr := []) (va_runV (As := [.long y4_15]) (rest := []) hcf (c_X3_append l D cyJ H.size a_q1 a_q1_held a_q1_before c_q1_size_15 f_q1_held_15 y4_15 c_q1_size_63 f_q1_held_63 hc63) (cwV 1 hts gX1_findByTrying_X3_append rfl rfl rfl ydX3_append ⟨Nat.le_of_ble_eq_true rfl, Nat.le_of_ble_eq_true rfl⟩) ⟨bl_PD, va_recv hK hP (ci := 3) (q0 := 1) rfl rfl, pr_PD hPc hK0 hDc hnw⟩ rfl rfl hl.1 rfl (lv_room (Nat.le_of_ble_eq_true rfl)) dX1_findByTrying_63 ⟨Nat.le_of_ble_eq_true rfl, Nat.le_of_ble_eq_true rfl⟩) hP hD hS hA [1, 0] [] rfl rfl (by decide) (by decide) (fun H locs hP hD hS => ?_)
          have hP : va_P D vwCl [(a_q1, .inr (3, [.ref a_q1_held, .ref a_q1_before, .int c_q1_size_63])), (a_q1_held, .inl (cyJ, 12, .inr (.inl f_q1_held_63)))] H := hP
          have hD : va_D A [(a_q1, .inr (3, [.ref a_q1_held, .ref a_q1_before, .int c_q1_size_63])), (a_q1_held, .inl (cyJ, 12, .inr (.inl f_q1_held_63)))] := hD
          refine lv_lload hx hb dX1_findByTrying_66 (lv_at hl 2 rfl) ?_
          refine lv_lload hx hb dX1_findByTrying_68 (lv_at hl 0 rfl) ?_
          obtain ⟨r70, hc70, h⟩ := obn_h h
          refine pz_callS (As := [.long y4_15, .long y4_15]) (rest := []) hcf (c_X0_quotient l y4_15 y4_15 r70 hc70) (va_cwS 2 hts gX1_findByTrying_X0_quotient rfl rfl rfl ydX0_quotient ⟨Nat.le_of_ble_eq_true rfl, Nat.le_of_ble_eq_true rfl⟩) hnw rfl hl.1 rfl (Nat.le_of_ble_eq_true rfl) dX1_findByTrying_70 ⟨Nat.le_of_ble_eq_true rfl, Nat.le_of_ble_eq_true rfl⟩ ?_
          refine lv_lstore (lv' := [(4, .long r70), (6, .long y4_15), (3, .ref a_q1), (8, .int y8_15)]) hx hb dX1_findByTrying_73 hl (by decide) rfl (fun ls hl => ?_)
          refine lv_goto (tgt := 84) hx hb dX1_findByTrying_75 (by decide) ?_
          obtain ⟨x8_84, e_x8_84⟩ : ∃ z : Int32, z = y8_15 + 1 := ⟨_, rfl⟩
          have h := bnd_h e_x8_84 h
          refine lv_iinc (v := x8_84) (lv' := [(8, .int x8_84), (4, .long r70), (6, .long y4_15), (3, .ref a_q1)]) hx hb dX1_findByTrying_84 hl (k := 3) rfl (by rw [e_x8_84]; rfl) (by decide) rfl (fun ls hl => ?_)
          refine lv_goto (tgt := 15) hx hb dX1_findByTrying_87 (by decide) ?_
          exact hih15 r70 y4_15 x8_84 c_q1_size_63 f_q1_held_63 h _ _ (hP.sub [1, 0] rfl) (hD.sub [1, 0] (by decide) rfl) hS ls (lv_sub hl [3, 1, 2, 0] rfl)

noncomputable abbrev rmX7_factor : Room := { frames := 9, cells := 2, slots := 12, locals := 161 }
theorem ydX7_factor : yX7_factor.cls = RX7 ∧ yX7_factor.cls ≠ "java/lang/invoke/MethodHandle" ∧ yX7_factor.cls ≠ "java/lang/invoke/VarHandle" ∧ (parseMethodDescriptor yX7_factor.desc).map (fun d => d.parameters.length) = some 2 := by decide +kernel
noncomputable def J_X7_factor_83 (c_t_acts_j83 : Int32) (c_t_refusals_j83 : Int32) (c_t_roll_size_j83 : Int32) (f_t_roll_held_j83 : Nat → Int64) (f_t_roll_before_j83 : Nat → Int64) (c_t_factors_parts_size_j83 : Int32) (f_t_factors_parts_held_j83 : Nat → Int64) : Option (Nat × Int32 × Int32 × Int32 × Int32 × (Nat → Int64) × (Nat → Int64) × Int32 × (Nat → Int64)) :=
 obn2 (F_X7_done c_t_acts_j83 c_t_roll_size_j83) (fun r91 c_t_acts_91 =>
 some (0, r91, c_t_acts_91, c_t_refusals_j83, c_t_roll_size_j83, f_t_roll_held_j83, f_t_roll_before_j83, c_t_factors_parts_size_j83, f_t_factors_parts_held_j83))
noncomputable def F_X7_factor (c_t_acts : Int32) (c_t_refusals : Int32) (f_t_forms : Nat → Int64) (c_t_roll_size : Int32) (f_t_roll_held : Nat → Int64) (f_t_roll_before : Nat → Int64) (c_t_factors_parts_size : Int32) (f_t_factors_parts_held : Nat → Int64) (p0 : Int32) (p1 : Int32) : Option (Nat × Int32 × Int32 × Int32 × Int32 × (Nat → Int64) × (Nat → Int64) × Int32 × (Nat → Int64)) :=
 obn (F_X7_testForm p0) (fun xc1 =>
 if xc1 = 0 then
 obn (F_X7_testRange p1 (0 : Int32) (1 : Int32)) (fun xc7 =>
 if xc7 = 0 then
 chk (¬ (p0 < 0 ∨ 6 ≤ p0.toNatClampNeg)) (
 obn (F_X0_degreeOf (f_t_forms p0.toNatClampNeg)) (fun r16 =>
 obn (F_X7_isBetween r16 (1 : Int32) (10 : Int32)) (fun r22 =>
 (if r22 = 0 then
 obn2 (F_X7_refuse c_t_refusals) (fun r29 c_t_refusals_29 =>
 some (0, r29, c_t_acts, c_t_refusals_29, c_t_roll_size, f_t_roll_held, f_t_roll_before, c_t_factors_parts_size, f_t_factors_parts_held))
else
 (if p1 = 0 then
 chk (¬ (p0 < 0 ∨ 6 ≤ p0.toNatClampNeg)) (
 obn2 (F_X1_findByTrying f_t_roll_held (f_t_forms p0.toNatClampNeg)) (fun c_t_roll_size_51 f_t_roll_held_51 =>
 J_X7_factor_83 c_t_acts c_t_refusals c_t_roll_size_51 f_t_roll_held_51 f_t_roll_before c_t_factors_parts_size f_t_factors_parts_held))
else
 chk (¬ (p0 < 0 ∨ 6 ≤ p0.toNatClampNeg)) (
 obn4 (F_X1_findByDegrees c_t_factors_parts_size f_t_factors_parts_held f_t_roll_held (f_t_forms p0.toNatClampNeg)) (fun c_t_factors_parts_size_71 f_t_factors_parts_held_71 c_t_roll_size_71 f_t_roll_held_71 =>
 obn3 (F_X3_arrange c_t_roll_size_71 f_t_roll_held_71 f_t_roll_before (1 : Int32)) (fun r79 f_t_roll_held_79 f_t_roll_before_79 =>
 J_X7_factor_83 c_t_acts c_t_refusals c_t_roll_size_71 f_t_roll_held_79 f_t_roll_before_79 c_t_factors_parts_size_71 f_t_factors_parts_held_71))))))))
else
 some (xc7, 0, c_t_acts, c_t_refusals, c_t_roll_size, f_t_roll_held, f_t_roll_before, c_t_factors_parts_size, f_t_factors_parts_held))
else
 some (xc1, 0, c_t_acts, c_t_refusals, c_t_roll_size, f_t_roll_held, f_t_roll_before, c_t_factors_parts_size, f_t_factors_parts_held))
set_option maxHeartbeats 4000000 in
set_option maxRecDepth 100000 in
theorem c_X7_factor (l : Launch) (hfl : l.stackTraces = false) (D : va_G) (cyJ : ClassId) (sz : Nat) (a_t : Nat) (a_t_forms : Nat) (a_t_roll : Nat) (a_t_row : Nat) (a_t_rows : Nat) (a_t_factors : Nat) (a_t_found : Nat) (a_t_foundOtherwise : Nat) (a_t_roll_held : Nat) (a_t_roll_before : Nat) (a_t_factors_parts : Nat) (a_t_factors_parts_held : Nat) (a_t_factors_parts_before : Nat) (c_t_acts : Int32) (c_t_refusals : Int32) (c_t_knocks : Int32) (f_t_forms : Nat → Int64) (c_t_roll_size : Int32) (f_t_roll_held : Nat → Int64) (f_t_roll_before : Nat → Int64) (c_t_factors_parts_size : Int32) (f_t_factors_parts_held : Nat → Int64) (p0 : Int32) (p1 : Int32) (xc : Nat) (r0 : Int32) (o_c_t_acts : Int32) (o_c_t_refusals : Int32) (o_c_t_roll_size : Int32) (o_f_t_roll_held : Nat → Int64) (o_f_t_roll_before : Nat → Int64) (o_c_t_factors_parts_size : Int32) (o_f_t_factors_parts_held : Nat → Int64) (hF : F_X7_factor c_t_acts c_t_refusals f_t_forms c_t_roll_size f_t_roll_held f_t_roll_before c_t_factors_parts_size f_t_factors_parts_held p0 p1 = some (xc, r0, o_c_t_acts, o_c_t_refusals, o_c_t_roll_size, o_f_t_roll_held, o_f_t_roll_before, o_c_t_factors_parts_size, o_f_t_factors_parts_held)) : vx_Met l yX7_factor wsX7_factor rmX7_factor (va_Pc [.ref a_t, .int p0, .int p1] (wPX D [(cyJ, .long)] [(a_t, .inr (6, [.ref a_t_forms, .ref a_t_roll, .ref a_t_row, .ref a_t_rows, .ref a_t_factors, .ref a_t_found, .ref a_t_foundOtherwise, .int c_t_acts, .int c_t_refusals, .int c_t_knocks])), (a_t_forms, .inl (cyJ, 6, .inr (.inl f_t_forms))), (a_t_roll, .inr (3, [.ref a_t_roll_held, .ref a_t_roll_before, .int c_t_roll_size])), (a_t_roll_held, .inl (cyJ, 12, .inr (.inl f_t_roll_held))), (a_t_roll_before, .inl (cyJ, 12, .inr (.inl f_t_roll_before))), (a_t_factors, .inr (2, [.ref a_t_factors_parts])), (a_t_factors_parts, .inr (3, [.ref a_t_factors_parts_held, .ref a_t_factors_parts_before, .int c_t_factors_parts_size])), (a_t_factors_parts_held, .inl (cyJ, 12, .inr (.inl f_t_factors_parts_held)))] sz)) (va_Qi (fun (r : Int32) (_ : Unit) => xc = 0 ∧ r = r0) (fun _ t => wQA D [(a_t, .inr (6, [.ref a_t_forms, .ref a_t_roll, .ref a_t_row, .ref a_t_rows, .ref a_t_factors, .ref a_t_found, .ref a_t_foundOtherwise, .int o_c_t_acts, .int o_c_t_refusals, .int c_t_knocks])), (a_t_forms, .inl (cyJ, 6, .inr (.inl f_t_forms))), (a_t_roll, .inr (3, [.ref a_t_roll_held, .ref a_t_roll_before, .int o_c_t_roll_size])), (a_t_roll_held, .inl (cyJ, 12, .inr (.inl o_f_t_roll_held))), (a_t_roll_before, .inl (cyJ, 12, .inr (.inl o_f_t_roll_before))), (a_t_factors, .inr (2, [.ref a_t_factors_parts])), (a_t_factors_parts, .inr (3, [.ref a_t_factors_parts_held, .ref a_t_factors_parts_before, .int o_c_t_factors_parts_size])), (a_t_factors_parts_held, .inl (cyJ, 12, .inr (.inl o_f_t_factors_parts_held)))] (va_A [(a_t, .inr (6, [.ref a_t_forms, .ref a_t_roll, .ref a_t_row, .ref a_t_rows, .ref a_t_factors, .ref a_t_found, .ref a_t_foundOtherwise, .int c_t_acts, .int c_t_refusals, .int c_t_knocks])), (a_t_forms, .inl (cyJ, 6, .inr (.inl f_t_forms))), (a_t_roll, .inr (3, [.ref a_t_roll_held, .ref a_t_roll_before, .int c_t_roll_size])), (a_t_roll_held, .inl (cyJ, 12, .inr (.inl f_t_roll_held))), (a_t_roll_before, .inl (cyJ, 12, .inr (.inl f_t_roll_before))), (a_t_factors, .inr (2, [.ref a_t_factors_parts])), (a_t_factors_parts, .inr (3, [.ref a_t_factors_parts_held, .ref a_t_factors_parts_before, .int c_t_factors_parts_size])), (a_t_factors_parts_held, .inl (cyJ, 12, .inr (.inl f_t_factors_parts_held)))] sz) t) (va_A [(a_t, .inr (6, [.ref a_t_forms, .ref a_t_roll, .ref a_t_row, .ref a_t_rows, .ref a_t_factors, .ref a_t_found, .ref a_t_foundOtherwise, .int c_t_acts, .int c_t_refusals, .int c_t_knocks])), (a_t_forms, .inl (cyJ, 6, .inr (.inl f_t_forms))), (a_t_roll, .inr (3, [.ref a_t_roll_held, .ref a_t_roll_before, .int c_t_roll_size])), (a_t_roll_held, .inl (cyJ, 12, .inr (.inl f_t_roll_held))), (a_t_roll_before, .inl (cyJ, 12, .inr (.inl f_t_roll_before))), (a_t_factors, .inr (2, [.ref a_t_factors_parts])), (a_t_factors_parts, .inr (3, [.ref a_t_factors_parts_held, .ref a_t_factors_parts_before, .int c_t_factors_parts_size])), (a_t_factors_parts_held, .inl (cyJ, 12, .inr (.inl f_t_factors_parts_held)))] sz)) (vx_X (fun (_ : Unit) => ¬ xc = 0) (fun E _ t => E = xcls xc ∧ wQA D [(a_t, .inr (6, [.ref a_t_forms, .ref a_t_roll, .ref a_t_row, .ref a_t_rows, .ref a_t_factors, .ref a_t_found, .ref a_t_foundOtherwise, .int o_c_t_acts, .int o_c_t_refusals, .int c_t_knocks])), (a_t_forms, .inl (cyJ, 6, .inr (.inl f_t_forms))), (a_t_roll, .inr (3, [.ref a_t_roll_held, .ref a_t_roll_before, .int o_c_t_roll_size])), (a_t_roll_held, .inl (cyJ, 12, .inr (.inl o_f_t_roll_held))), (a_t_roll_before, .inl (cyJ, 12, .inr (.inl o_f_t_roll_before))), (a_t_factors, .inr (2, [.ref a_t_factors_parts])), (a_t_factors_parts, .inr (3, [.ref a_t_factors_parts_held, .ref a_t_factors_parts_before, .int o_c_t_factors_parts_size])), (a_t_factors_parts_held, .inl (cyJ, 12, .inr (.inl o_f_t_factors_parts_held)))] (va_A [(a_t, .inr (6, [.ref a_t_forms, .ref a_t_roll, .ref a_t_row, .ref a_t_rows, .ref a_t_factors, .ref a_t_found, .ref a_t_foundOtherwise, .int c_t_acts, .int c_t_refusals, .int c_t_knocks])), (a_t_forms, .inl (cyJ, 6, .inr (.inl f_t_forms))), (a_t_roll, .inr (3, [.ref a_t_roll_held, .ref a_t_roll_before, .int c_t_roll_size])), (a_t_roll_held, .inl (cyJ, 12, .inr (.inl f_t_roll_held))), (a_t_roll_before, .inl (cyJ, 12, .inr (.inl f_t_roll_before))), (a_t_factors, .inr (2, [.ref a_t_factors_parts])), (a_t_factors_parts, .inr (3, [.ref a_t_factors_parts_held, .ref a_t_factors_parts_before, .int c_t_factors_parts_size])), (a_t_factors_parts_held, .inl (cyJ, 12, .inr (.inl f_t_factors_parts_held)))] sz) t) (va_A [(a_t, .inr (6, [.ref a_t_forms, .ref a_t_roll, .ref a_t_row, .ref a_t_rows, .ref a_t_factors, .ref a_t_found, .ref a_t_foundOtherwise, .int c_t_acts, .int c_t_refusals, .int c_t_knocks])), (a_t_forms, .inl (cyJ, 6, .inr (.inl f_t_forms))), (a_t_roll, .inr (3, [.ref a_t_roll_held, .ref a_t_roll_before, .int c_t_roll_size])), (a_t_roll_held, .inl (cyJ, 12, .inr (.inl f_t_roll_held))), (a_t_roll_before, .inl (cyJ, 12, .inr (.inl f_t_roll_before))), (a_t_factors, .inr (2, [.ref a_t_factors_parts])), (a_t_factors_parts, .inr (3, [.ref a_t_factors_parts_held, .ref a_t_factors_parts_before, .int c_t_factors_parts_size])), (a_t_factors_parts_held, .inl (cyJ, 12, .inr (.inl f_t_factors_parts_held)))] sz)) 2 12 (va_A [(a_t, .inr (6, [.ref a_t_forms, .ref a_t_roll, .ref a_t_row, .ref a_t_rows, .ref a_t_factors, .ref a_t_found, .ref a_t_foundOtherwise, .int c_t_acts, .int c_t_refusals, .int c_t_knocks])), (a_t_forms, .inl (cyJ, 6, .inr (.inl f_t_forms))), (a_t_roll, .inr (3, [.ref a_t_roll_held, .ref a_t_roll_before, .int c_t_roll_size])), (a_t_roll_held, .inl (cyJ, 12, .inr (.inl f_t_roll_held))), (a_t_roll_before, .inl (cyJ, 12, .inr (.inl f_t_roll_before))), (a_t_factors, .inr (2, [.ref a_t_factors_parts])), (a_t_factors_parts, .inr (3, [.ref a_t_factors_parts_held, .ref a_t_factors_parts_before, .int c_t_factors_parts_size])), (a_t_factors_parts_held, .inl (cyJ, 12, .inr (.inl f_t_factors_parts_held)))] sz) := by
  refine vx_ofW (cc := cX7_factor) (maxL := 3) (ret := (some .int)) (by decide) rfl ?_
  intro p e s m args below meth c s₁ B hml hxt hv
  obtain ⟨rfl, ⟨⟨hsz, hP, hK, hD0, hnw⟩, hE⟩⟩ := hv
  have hx := B.exec
  have hb := B.bytes
  have hr := B.returns
  have hts := atoms_spec (ws := wsX7_factor) B.pre
  have hown : s.vm.findClass RX7 = some m.cls := findClass_of_methodNamed B.named
  have hlocks := B.notSynchronized
  have hcf : CallFix _ _ _ _ _ _ _ _ _ := ⟨hx, hb, hml, hown, hts⟩
  have hinX7 : ∀ w ∈ u_ws RX7 TX7 10, w ∈ wsX7_factor := by decide +kernel
  have hfl9 := hts (.fieldLink RX7 9 "Formwheel" "forms" "[J") (by decide +kernel)
  have hfl37 := hts (.fieldLink RX7 37 "Formwheel" "factors" "LFormwheel$Factors;") (by decide +kernel)
  have hfl16 := hts (.fieldLink RX7 16 "Formwheel" "roll" "LFormwheel$Roll;") (by decide +kernel)
  have hinX3 : ∀ w ∈ u_ws RX3 TX3 3, w ∈ wsX7_factor := by decide +kernel
  have hfl176 := hnw.use (A := ([.ref a_t, .int p0, .int p1] : List Value).toArray) (w := .fieldLinkNest RX7 176 "Formwheel$Roll" "size" "I" "Formwheel") (by decide +kernel)
  subst hsz
  have hD := hD0.self (sz := s.heap.size)
  generalize hAe : va_A [(a_t, .inr (6, [.ref a_t_forms, .ref a_t_roll, .ref a_t_row, .ref a_t_rows, .ref a_t_factors, .ref a_t_found, .ref a_t_foundOtherwise, .int c_t_acts, .int c_t_refusals, .int c_t_knocks])), (a_t_forms, .inl (cyJ, 6, .inr (.inl f_t_forms))), (a_t_roll, .inr (3, [.ref a_t_roll_held, .ref a_t_roll_before, .int c_t_roll_size])), (a_t_roll_held, .inl (cyJ, 12, .inr (.inl f_t_roll_held))), (a_t_roll_before, .inl (cyJ, 12, .inr (.inl f_t_roll_before))), (a_t_factors, .inr (2, [.ref a_t_factors_parts])), (a_t_factors_parts, .inr (3, [.ref a_t_factors_parts_held, .ref a_t_factors_parts_before, .int c_t_factors_parts_size])), (a_t_factors_parts_held, .inl (cyJ, 12, .inr (.inl f_t_factors_parts_held)))] s.heap.size = A at hD hE ⊢
  have hA : ∀ q : Nat, s.heap.size ≤ q → A q := fun q h => by rw [← hAe]; exact Or.inr h
  have hS : va_S A s.heap s.heap [] := va_S.rf
  have hP : va_P D vwCl [(a_t, .inr (6, [.ref a_t_forms, .ref a_t_roll, .ref a_t_row, .ref a_t_rows, .ref a_t_factors, .ref a_t_found, .ref a_t_foundOtherwise, .int c_t_acts, .int c_t_refusals, .int c_t_knocks])), (a_t_forms, .inl (cyJ, 6, .inr (.inl f_t_forms))), (a_t_roll, .inr (3, [.ref a_t_roll_held, .ref a_t_roll_before, .int c_t_roll_size])), (a_t_roll_held, .inl (cyJ, 12, .inr (.inl f_t_roll_held))), (a_t_roll_before, .inl (cyJ, 12, .inr (.inl f_t_roll_before))), (a_t_factors, .inr (2, [.ref a_t_factors_parts])), (a_t_factors_parts, .inr (3, [.ref a_t_factors_parts_held, .ref a_t_factors_parts_before, .int c_t_factors_parts_size])), (a_t_factors_parts_held, .inl (cyJ, 12, .inr (.inl f_t_factors_parts_held)))] s.heap := hP
  have hK0 := hK
  have hl := lv_entry ([.ref a_t, .int p0, .int p1]) (n := 3) (Nat.le_of_ble_eq_true rfl)
  rw [lg_entry_eq]
  generalize (lg_sl ([.ref a_t, .int p0, .int p1]) ++ List.replicate (3 - (lg_sl ([.ref a_t, .int p0, .int p1])).length) Slot.unset).toArray = ls at hl ⊢
  have hl : lv_has ls 3 [(0, .ref a_t), (1, .int p0), (2, .int p1)] := hl
  have h := hF
  clear hF
  unfold F_X7_factor at h
  have hj83 : ∀ (c_t_acts_j83 : Int32) (c_t_refusals_j83 : Int32) (c_t_roll_size_j83 : Int32) (f_t_roll_held_j83 : Nat → Int64) (f_t_roll_before_j83 : Nat → Int64) (c_t_factors_parts_size_j83 : Int32) (f_t_factors_parts_held_j83 : Nat → Int64), J_X7_factor_83 c_t_acts_j83 c_t_refusals_j83 c_t_roll_size_j83 f_t_roll_held_j83 f_t_roll_before_j83 c_t_factors_parts_size_j83 f_t_factors_parts_held_j83 = some (xc, r0, o_c_t_acts, o_c_t_refusals, o_c_t_roll_size, o_f_t_roll_held, o_f_t_roll_before, o_c_t_factors_parts_size, o_f_t_factors_parts_held) → ∀ (H : Heap) (locs : List Loc), va_P D vwCl [(a_t, .inr (6, [.ref a_t_forms, .ref a_t_roll, .ref a_t_row, .ref a_t_rows, .ref a_t_factors, .ref a_t_found, .ref a_t_foundOtherwise, .int c_t_acts_j83, .int c_t_refusals_j83, .int c_t_knocks])), (a_t_forms, .inl (cyJ, 6, .inr (.inl f_t_forms))), (a_t_roll, .inr (3, [.ref a_t_roll_held, .ref a_t_roll_before, .int c_t_roll_size_j83])), (a_t_roll_held, .inl (cyJ, 12, .inr (.inl f_t_roll_held_j83))), (a_t_roll_before, .inl (cyJ, 12, .inr (.inl f_t_roll_before_j83))), (a_t_factors, .inr (2, [.ref a_t_factors_parts])), (a_t_factors_parts, .inr (3, [.ref a_t_factors_parts_held, .ref a_t_factors_parts_before, .int c_t_factors_parts_size_j83])), (a_t_factors_parts_held, .inl (cyJ, 12, .inr (.inl f_t_factors_parts_held_j83)))] H → va_D A [(a_t, .inr (6, [.ref a_t_forms, .ref a_t_roll, .ref a_t_row, .ref a_t_rows, .ref a_t_factors, .ref a_t_found, .ref a_t_foundOtherwise, .int c_t_acts_j83, .int c_t_refusals_j83, .int c_t_knocks])), (a_t_forms, .inl (cyJ, 6, .inr (.inl f_t_forms))), (a_t_roll, .inr (3, [.ref a_t_roll_held, .ref a_t_roll_before, .int c_t_roll_size_j83])), (a_t_roll_held, .inl (cyJ, 12, .inr (.inl f_t_roll_held_j83))), (a_t_roll_before, .inl (cyJ, 12, .inr (.inl f_t_roll_before_j83))), (a_t_factors, .inr (2, [.ref a_t_factors_parts])), (a_t_factors_parts, .inr (3, [.ref a_t_factors_parts_held, .ref a_t_factors_parts_before, .int c_t_factors_parts_size_j83])), (a_t_factors_parts_held, .inl (cyJ, 12, .inr (.inl f_t_factors_parts_held_j83)))] → va_S A s.heap H locs → ∀ (ls : Array Slot), lv_has ls 3 [(0, .ref a_t)] → W p l e rmX7_factor s m ([.ref a_t, .int p0, .int p1] : List Value).toArray below meth c H locs 2 12 (vx_MQ below (va_Qi (fun (r : Int32) (_ : Unit) => xc = 0 ∧ r = r0) (fun _ t => wQA D [(a_t, .inr (6, [.ref a_t_forms, .ref a_t_roll, .ref a_t_row, .ref a_t_rows, .ref a_t_factors, .ref a_t_found, .ref a_t_foundOtherwise, .int o_c_t_acts, .int o_c_t_refusals, .int c_t_knocks])), (a_t_forms, .inl (cyJ, 6, .inr (.inl f_t_forms))), (a_t_roll, .inr (3, [.ref a_t_roll_held, .ref a_t_roll_before, .int o_c_t_roll_size])), (a_t_roll_held, .inl (cyJ, 12, .inr (.inl o_f_t_roll_held))), (a_t_roll_before, .inl (cyJ, 12, .inr (.inl o_f_t_roll_before))), (a_t_factors, .inr (2, [.ref a_t_factors_parts])), (a_t_factors_parts, .inr (3, [.ref a_t_factors_parts_held, .ref a_t_factors_parts_before, .int o_c_t_factors_parts_size])), (a_t_factors_parts_held, .inl (cyJ, 12, .inr (.inl o_f_t_factors_parts_held)))] A t) A) (vx_X (fun (_ : Unit) => ¬ xc = 0) (fun E _ t => E = xcls xc ∧ wQA D [(a_t, .inr (6, [.ref a_t_forms, .ref a_t_roll, .ref a_t_row, .ref a_t_rows, .ref a_t_factors, .ref a_t_found, .ref a_t_foundOtherwise, .int o_c_t_acts, .int o_c_t_refusals, .int c_t_knocks])), (a_t_forms, .inl (cyJ, 6, .inr (.inl f_t_forms))), (a_t_roll, .inr (3, [.ref a_t_roll_held, .ref a_t_roll_before, .int o_c_t_roll_size])), (a_t_roll_held, .inl (cyJ, 12, .inr (.inl o_f_t_roll_held))), (a_t_roll_before, .inl (cyJ, 12, .inr (.inl o_f_t_roll_before))), (a_t_factors, .inr (2, [.ref a_t_factors_parts])), (a_t_factors_parts, .inr (3, [.ref a_t_factors_parts_held, .ref a_t_factors_parts_before, .int o_c_t_factors_parts_size])), (a_t_factors_parts_held, .inl (cyJ, 12, .inr (.inl o_f_t_factors_parts_held)))] A t) A) ([.ref a_t, .int p0, .int p1] : List Value).toArray s 2 12 A) (F0 m 83 ls []) := by
    intro c_t_acts_j83 c_t_refusals_j83 c_t_roll_size_j83 f_t_roll_held_j83 f_t_roll_before_j83 c_t_factors_parts_size_j83 f_t_factors_parts_held_j83 h H locs hP hD hS ls hl
    unfold J_X7_factor_83 at h
    refine lv_aload_n hx hb dX7_factor_83 rfl (lv_at hl 0 rfl) ?_
    refine lv_aload_n hx hb dX7_factor_84 rfl (lv_at hl 0 rfl) ?_
    refine va_get (D := D) (ci := 6) (v := .ref a_t_roll) (C := RX7) (T := TX7) (N := 10) hx hb hts hinX7 hown hK hP 0 rfl rfl 1 (by decide) hfl16 (fun _ h9 => h9) rfl dX7_factor_85 ?_
    refine va_getN (D := D) (ci := 3) (v := .int c_t_roll_size_j83) (C := RX3) (T := TX3) (N := 3) hx hb hts hinX3 hown hK hP 2 rfl rfl 2 (by decide) hfl176 (fun _ h9 => h9) rfl dX7_factor_88 ?_
    obtain ⟨r91, c_t_acts_91, hc91, h⟩ := obn2_h h
    have hPc := hP.sub (ws' := [(a_t, .inr (6, [.ref a_t_forms, .ref a_t_roll, .ref a_t_row, .ref a_t_rows, .ref a_t_factors, .ref a_t_found, .ref a_t_foundOtherwise, .int c_t_acts_j83, .int c_t_refusals_j83, .int c_t_knocks]))]) [0] rfl
    have hDc := hD.sub (ws' := [(a_t, .inr (6, [.ref a_t_forms, .ref a_t_roll, .ref a_t_row, .ref a_t_rows, .ref a_t_factors, .ref a_t_found, .ref a_t_foundOtherwise, .int c_t_acts_j83, .int c_t_refusals_j83, .int c_t_knocks]))]) [0] (by decide) rfl
    refine hp_i (w1 := [(a_t, .inr (6, [.ref a_t_forms, .ref a_t_roll, .ref a_t_row, .ref a_t_rows, .ref a_t_factors, .ref a_t_found, .ref a_t_foundOtherwise, .int c_t_acts_91, .int c_t_refusals_j83, .int c_t_knocks]))]) (wr := [(a_t_forms, .inl (cyJ, 6, .inr (.inl f_t_forms))), (a_t_roll, .inr (3, [.ref a_t_roll_held, .ref a_t_roll_before, .int c_t_roll_size_j83])), (a_t_roll_held, .inl (cyJ, 12, .inr (.inl f_t_roll_held_j83))), (a_t_roll_before, .inl (cyJ, 12, .inr (.inl f_t_roll_before_j83))), (a_t_factors, .inr (2, [.ref a_t_factors_parts])), (a_t_factors_parts, .inr (3, [.ref a_t_factors_parts_held, .ref a_t_factors_parts_before, .int c_t_factors_parts_size_j83])), (a_t_factors_parts_held, .inl (cyJ, 12, .inr (.inl f_t_factors_parts_held_j83)))]) (va_runV (As := [.int c_t_roll_size_j83]) (rest := []) hcf (c_X7_done l D cyJ H.size a_t a_t_forms a_t_roll a_t_row a_t_rows a_t_factors a_t_found a_t_foundOtherwise c_t_acts_j83 c_t_refusals_j83 c_t_knocks c_t_roll_size_j83 r91 c_t_acts_91 hc91) (cwV 1 hts gX7_factor_X7_done rfl rfl rfl ydX7_done ⟨Nat.le_of_ble_eq_true rfl, Nat.le_of_ble_eq_true rfl⟩) ⟨bl_PD, va_recv hK hP (ci := 6) (q0 := 0) rfl rfl, pr_PD hPc hK0 hDc hnw⟩ rfl rfl hl.1 rfl (lv_room (Nat.le_of_ble_eq_true rfl)) dX7_factor_91 ⟨Nat.le_of_ble_eq_true rfl, Nat.le_of_ble_eq_true rfl⟩) hP hD hS hA [0] [1, 2, 3, 4, 5, 6, 7] rfl rfl (by decide) (by decide) (fun H locs hP hD hS => ?_)
    have hP : va_P D vwCl [(a_t_forms, .inl (cyJ, 6, .inr (.inl f_t_forms))), (a_t_roll, .inr (3, [.ref a_t_roll_held, .ref a_t_roll_before, .int c_t_roll_size_j83])), (a_t_roll_held, .inl (cyJ, 12, .inr (.inl f_t_roll_held_j83))), (a_t_roll_before, .inl (cyJ, 12, .inr (.inl f_t_roll_before_j83))), (a_t_factors, .inr (2, [.ref a_t_factors_parts])), (a_t_factors_parts, .inr (3, [.ref a_t_factors_parts_held, .ref a_t_factors_parts_before, .int c_t_factors_parts_size_j83])), (a_t_factors_parts_held, .inl (cyJ, 12, .inr (.inl f_t_factors_parts_held_j83))), (a_t, .inr (6, [.ref a_t_forms, .ref a_t_roll, .ref a_t_row, .ref a_t_rows, .ref a_t_factors, .ref a_t_found, .ref a_t_foundOtherwise, .int c_t_acts_91, .int c_t_refusals_j83, .int c_t_knocks]))] H := hP
    have hD : va_D A [(a_t_forms, .inl (cyJ, 6, .inr (.inl f_t_forms))), (a_t_roll, .inr (3, [.ref a_t_roll_held, .ref a_t_roll_before, .int c_t_roll_size_j83])), (a_t_roll_held, .inl (cyJ, 12, .inr (.inl f_t_roll_held_j83))), (a_t_roll_before, .inl (cyJ, 12, .inr (.inl f_t_roll_before_j83))), (a_t_factors, .inr (2, [.ref a_t_factors_parts])), (a_t_factors_parts, .inr (3, [.ref a_t_factors_parts_held, .ref a_t_factors_parts_before, .int c_t_factors_parts_size_j83])), (a_t_factors_parts_held, .inl (cyJ, 12, .inr (.inl f_t_factors_parts_held_j83))), (a_t, .inr (6, [.ref a_t_forms, .ref a_t_roll, .ref a_t_row, .ref a_t_rows, .ref a_t_factors, .ref a_t_found, .ref a_t_foundOtherwise, .int c_t_acts_91, .int c_t_refusals_j83, .int c_t_knocks]))] := hD
    obtain ⟨e0, e1, e2, e3, e4, e5, e6, e7, e8⟩ := tup9 h
    subst e0
    subst e1
    subst e2
    subst e3
    subst e4
    subst e5
    subst e6
    subst e7
    subst e8
    have hP9 : va_P D vwCl [(a_t, .inr (6, [.ref a_t_forms, .ref a_t_roll, .ref a_t_row, .ref a_t_rows, .ref a_t_factors, .ref a_t_found, .ref a_t_foundOtherwise, .int c_t_acts_91, .int c_t_refusals_j83, .int c_t_knocks])), (a_t_forms, .inl (cyJ, 6, .inr (.inl f_t_forms))), (a_t_roll, .inr (3, [.ref a_t_roll_held, .ref a_t_roll_before, .int c_t_roll_size_j83])), (a_t_roll_held, .inl (cyJ, 12, .inr (.inl f_t_roll_held_j83))), (a_t_roll_before, .inl (cyJ, 12, .inr (.inl f_t_roll_before_j83))), (a_t_factors, .inr (2, [.ref a_t_factors_parts])), (a_t_factors_parts, .inr (3, [.ref a_t_factors_parts_held, .ref a_t_factors_parts_before, .int c_t_factors_parts_size_j83])), (a_t_factors_parts_held, .inl (cyJ, 12, .inr (.inl f_t_factors_parts_held_j83)))] H := hP.sub [7, 0, 1, 2, 3, 4, 5, 6] rfl
    have hD9 : va_D A [(a_t, .inr (6, [.ref a_t_forms, .ref a_t_roll, .ref a_t_row, .ref a_t_rows, .ref a_t_factors, .ref a_t_found, .ref a_t_foundOtherwise, .int c_t_acts_91, .int c_t_refusals_j83, .int c_t_knocks])), (a_t_forms, .inl (cyJ, 6, .inr (.inl f_t_forms))), (a_t_roll, .inr (3, [.ref a_t_roll_held, .ref a_t_roll_before, .int c_t_roll_size_j83])), (a_t_roll_held, .inl (cyJ, 12, .inr (.inl f_t_roll_held_j83))), (a_t_roll_before, .inl (cyJ, 12, .inr (.inl f_t_roll_before_j83))), (a_t_factors, .inr (2, [.ref a_t_factors_parts])), (a_t_factors_parts, .inr (3, [.ref a_t_factors_parts_held, .ref a_t_factors_parts_before, .int c_t_factors_parts_size_j83])), (a_t_factors_parts_held, .inl (cyJ, 12, .inr (.inl f_t_factors_parts_held_j83)))] := hD.sub [7, 0, 1, 2, 3, 4, 5, 6] (by decide) rfl
    refine vx_ret ?_
    exact W.iret hx hb hr (fun t ht hW => ⟨⟨_, (), rfl, ⟨rfl, rfl⟩, wQA_of ht hP9 hD9⟩, hS.F ht⟩) hS.2.2 dX7_factor_94
  refine lv_iload_n hx hb dX7_factor_0 rfl (lv_at hl 1 rfl) ?_
  obtain ⟨xc1, hc1, h⟩ := obn_h h
  have hPc := hP.sub (ws' := []) [] rfl
  have hDc := hD.sub (ws' := []) [] (by decide) rfl
  refine hx_v (w1 := []) (wr := [(a_t, .inr (6, [.ref a_t_forms, .ref a_t_roll, .ref a_t_row, .ref a_t_rows, .ref a_t_factors, .ref a_t_found, .ref a_t_foundOtherwise, .int c_t_acts, .int c_t_refusals, .int c_t_knocks])), (a_t_forms, .inl (cyJ, 6, .inr (.inl f_t_forms))), (a_t_roll, .inr (3, [.ref a_t_roll_held, .ref a_t_roll_before, .int c_t_roll_size])), (a_t_roll_held, .inl (cyJ, 12, .inr (.inl f_t_roll_held))), (a_t_roll_before, .inl (cyJ, 12, .inr (.inl f_t_roll_before))), (a_t_factors, .inr (2, [.ref a_t_factors_parts])), (a_t_factors_parts, .inr (3, [.ref a_t_factors_parts_held, .ref a_t_factors_parts_before, .int c_t_factors_parts_size])), (a_t_factors_parts_held, .inl (cyJ, 12, .inr (.inl f_t_factors_parts_held)))]) (vx_runS (As := [.int p0]) (rest := []) hcf (c_X7_testForm l hfl D cyJ s.heap.size p0 xc1 hc1) (va_cwS 1 hts gX7_factor_X7_testForm rfl rfl rfl ydX7_testForm ⟨Nat.le_of_ble_eq_true rfl, Nat.le_of_ble_eq_true rfl⟩) ⟨bl_PX, pr_PX hPc hK0 hDc hnw hE hS (va_free hD hS hA [] rfl)⟩ rfl rfl hl.1 rfl (lv_room (Nat.le_of_ble_eq_true rfl)) dX7_factor_1 ⟨Nat.le_of_ble_eq_true rfl, Nat.le_of_ble_eq_true rfl⟩) hP hD hS hA [] [0, 1, 2, 3, 4, 5, 6, 7] rfl rfl (by decide) (by decide) (fun E9 ce9 q9 H locs hx9 hE9 hP hD hS hce9 hcv9 hcl9 => ?_) (fun hx9 H locs hP hD hS => ?_)
  · have h := if_ hx9 h
    have hP : va_P D vwCl [(a_t, .inr (6, [.ref a_t_forms, .ref a_t_roll, .ref a_t_row, .ref a_t_rows, .ref a_t_factors, .ref a_t_found, .ref a_t_foundOtherwise, .int c_t_acts, .int c_t_refusals, .int c_t_knocks])), (a_t_forms, .inl (cyJ, 6, .inr (.inl f_t_forms))), (a_t_roll, .inr (3, [.ref a_t_roll_held, .ref a_t_roll_before, .int c_t_roll_size])), (a_t_roll_held, .inl (cyJ, 12, .inr (.inl f_t_roll_held))), (a_t_roll_before, .inl (cyJ, 12, .inr (.inl f_t_roll_before))), (a_t_factors, .inr (2, [.ref a_t_factors_parts])), (a_t_factors_parts, .inr (3, [.ref a_t_factors_parts_held, .ref a_t_factors_parts_before, .int c_t_factors_parts_size])), (a_t_factors_parts_held, .inl (cyJ, 12, .inr (.inl f_t_factors_parts_held)))] H := hP
    have hD : va_D A [(a_t, .inr (6, [.ref a_t_forms, .ref a_t_roll, .ref a_t_row, .ref a_t_rows, .ref a_t_factors, .ref a_t_found, .ref a_t_foundOtherwise, .int c_t_acts, .int c_t_refusals, .int c_t_knocks])), (a_t_forms, .inl (cyJ, 6, .inr (.inl f_t_forms))), (a_t_roll, .inr (3, [.ref a_t_roll_held, .ref a_t_roll_before, .int c_t_roll_size])), (a_t_roll_held, .inl (cyJ, 12, .inr (.inl f_t_roll_held))), (a_t_roll_before, .inl (cyJ, 12, .inr (.inl f_t_roll_before))), (a_t_factors, .inr (2, [.ref a_t_factors_parts])), (a_t_factors_parts, .inr (3, [.ref a_t_factors_parts_held, .ref a_t_factors_parts_before, .int c_t_factors_parts_size])), (a_t_factors_parts_held, .inl (cyJ, 12, .inr (.inl f_t_factors_parts_held)))] := hD
    obtain ⟨e0, e1, e2, e3, e4, e5, e6, e7, e8⟩ := tup9 h
    subst e0
    subst e1
    subst e2
    subst e3
    subst e4
    subst e5
    subst e6
    subst e7
    subst e8
    have hP9 : va_P D vwCl [(a_t, .inr (6, [.ref a_t_forms, .ref a_t_roll, .ref a_t_row, .ref a_t_rows, .ref a_t_factors, .ref a_t_found, .ref a_t_foundOtherwise, .int c_t_acts, .int c_t_refusals, .int c_t_knocks])), (a_t_forms, .inl (cyJ, 6, .inr (.inl f_t_forms))), (a_t_roll, .inr (3, [.ref a_t_roll_held, .ref a_t_roll_before, .int c_t_roll_size])), (a_t_roll_held, .inl (cyJ, 12, .inr (.inl f_t_roll_held))), (a_t_roll_before, .inl (cyJ, 12, .inr (.inl f_t_roll_before))), (a_t_factors, .inr (2, [.ref a_t_factors_parts])), (a_t_factors_parts, .inr (3, [.ref a_t_factors_parts_held, .ref a_t_factors_parts_before, .int c_t_factors_parts_size])), (a_t_factors_parts_held, .inl (cyJ, 12, .inr (.inl f_t_factors_parts_held)))] H := hP.sub [0, 1, 2, 3, 4, 5, 6, 7] rfl
    have hD9 : va_D A [(a_t, .inr (6, [.ref a_t_forms, .ref a_t_roll, .ref a_t_row, .ref a_t_rows, .ref a_t_factors, .ref a_t_found, .ref a_t_foundOtherwise, .int c_t_acts, .int c_t_refusals, .int c_t_knocks])), (a_t_forms, .inl (cyJ, 6, .inr (.inl f_t_forms))), (a_t_roll, .inr (3, [.ref a_t_roll_held, .ref a_t_roll_before, .int c_t_roll_size])), (a_t_roll_held, .inl (cyJ, 12, .inr (.inl f_t_roll_held))), (a_t_roll_before, .inl (cyJ, 12, .inr (.inl f_t_roll_before))), (a_t_factors, .inr (2, [.ref a_t_factors_parts])), (a_t_factors_parts, .inr (3, [.ref a_t_factors_parts_held, .ref a_t_factors_parts_before, .int c_t_factors_parts_size])), (a_t_factors_parts_held, .inl (cyJ, 12, .inr (.inl f_t_factors_parts_held)))] := hD.sub [0, 1, 2, 3, 4, 5, 6, 7] (by decide) rfl
    exact vx_out (fun x hx => (hxt x hx).elim) hlocks hce9 hcv9 hcl9 (fun t ht hW => ⟨(), hx9, ⟨hE9, wQA_of ht hP9 hD9⟩, hS.F ht⟩) hS.2.2 (Nat.le_of_ble_eq_true rfl) (Nat.le_of_ble_eq_true rfl)
  · have h := it_ hx9 h
    have hP : va_P D vwCl [(a_t, .inr (6, [.ref a_t_forms, .ref a_t_roll, .ref a_t_row, .ref a_t_rows, .ref a_t_factors, .ref a_t_found, .ref a_t_foundOtherwise, .int c_t_acts, .int c_t_refusals, .int c_t_knocks])), (a_t_forms, .inl (cyJ, 6, .inr (.inl f_t_forms))), (a_t_roll, .inr (3, [.ref a_t_roll_held, .ref a_t_roll_before, .int c_t_roll_size])), (a_t_roll_held, .inl (cyJ, 12, .inr (.inl f_t_roll_held))), (a_t_roll_before, .inl (cyJ, 12, .inr (.inl f_t_roll_before))), (a_t_factors, .inr (2, [.ref a_t_factors_parts])), (a_t_factors_parts, .inr (3, [.ref a_t_factors_parts_held, .ref a_t_factors_parts_before, .int c_t_factors_parts_size])), (a_t_factors_parts_held, .inl (cyJ, 12, .inr (.inl f_t_factors_parts_held)))] H := hP
    have hD : va_D A [(a_t, .inr (6, [.ref a_t_forms, .ref a_t_roll, .ref a_t_row, .ref a_t_rows, .ref a_t_factors, .ref a_t_found, .ref a_t_foundOtherwise, .int c_t_acts, .int c_t_refusals, .int c_t_knocks])), (a_t_forms, .inl (cyJ, 6, .inr (.inl f_t_forms))), (a_t_roll, .inr (3, [.ref a_t_roll_held, .ref a_t_roll_before, .int c_t_roll_size])), (a_t_roll_held, .inl (cyJ, 12, .inr (.inl f_t_roll_held))), (a_t_roll_before, .inl (cyJ, 12, .inr (.inl f_t_roll_before))), (a_t_factors, .inr (2, [.ref a_t_factors_parts])), (a_t_factors_parts, .inr (3, [.ref a_t_factors_parts_held, .ref a_t_factors_parts_before, .int c_t_factors_parts_size])), (a_t_factors_parts_held, .inl (cyJ, 12, .inr (.inl f_t_factors_parts_held)))] := hD
    refine lv_iload_n hx hb dX7_factor_4 rfl (lv_at hl 2 rfl) ?_
    refine lv_iconst (v := 0) hx hb dX7_factor_5 (by decide) ?_
    refine lv_iconst (v := 1) hx hb dX7_factor_6 (by decide) ?_
    obtain ⟨xc7, hc7, h⟩ := obn_h h
    have hPc := hP.sub (ws' := []) [] rfl
    have hDc := hD.sub (ws' := []) [] (by decide) rfl
    refine hx_v (w1 := []) (wr := [(a_t, .inr (6, [.ref a_t_forms, .ref a_t_roll, .ref a_t_row, .ref a_t_rows, .ref a_t_factors, .ref a_t_found, .ref a_t_foundOtherwise, .int c_t_acts, .int c_t_refusals, .int c_t_knocks])), (a_t_forms, .inl (cyJ, 6, .inr (.inl f_t_forms))), (a_t_roll, .inr (3, [.ref a_t_roll_held, .ref a_t_roll_before, .int c_t_roll_size])), (a_t_roll_held, .inl (cyJ, 12, .inr (.inl f_t_roll_held))), (a_t_roll_before, .inl (cyJ, 12, .inr (.inl f_t_roll_before))), (a_t_factors, .inr (2, [.ref a_t_factors_parts])), (a_t_factors_parts, .inr (3, [.ref a_t_factors_parts_held, .ref a_t_factors_parts_before, .int c_t_factors_parts_size])), (a_t_factors_parts_held, .inl (cyJ, 12, .inr (.inl f_t_factors_parts_held)))]) (vx_runS (As := [.int p1, .int (0 : Int32), .int (1 : Int32)]) (rest := []) hcf (c_X7_testRange l hfl D cyJ H.size p1 (0 : Int32) (1 : Int32) xc7 hc7) (va_cwS 3 hts gX7_factor_X7_testRange rfl rfl rfl ydX7_testRange ⟨Nat.le_of_ble_eq_true rfl, Nat.le_of_ble_eq_true rfl⟩) ⟨bl_PX, pr_PX hPc hK0 hDc hnw hE hS (va_free hD hS hA [] rfl)⟩ rfl rfl hl.1 rfl (lv_room (Nat.le_of_ble_eq_true rfl)) dX7_factor_7 ⟨Nat.le_of_ble_eq_true rfl, Nat.le_of_ble_eq_true rfl⟩) hP hD hS hA [] [0, 1, 2, 3, 4, 5, 6, 7] rfl rfl (by decide) (by decide) (fun E9 ce9 q9 H locs hx9 hE9 hP hD hS hce9 hcv9 hcl9 => ?_) (fun hx9 H locs hP hD hS => ?_)
    · have h := if_ hx9 h
      have hP : va_P D vwCl [(a_t, .inr (6, [.ref a_t_forms, .ref a_t_roll, .ref a_t_row, .ref a_t_rows, .ref a_t_factors, .ref a_t_found, .ref a_t_foundOtherwise, .int c_t_acts, .int c_t_refusals, .int c_t_knocks])), (a_t_forms, .inl (cyJ, 6, .inr (.inl f_t_forms))), (a_t_roll, .inr (3, [.ref a_t_roll_held, .ref a_t_roll_before, .int c_t_roll_size])), (a_t_roll_held, .inl (cyJ, 12, .inr (.inl f_t_roll_held))), (a_t_roll_before, .inl (cyJ, 12, .inr (.inl f_t_roll_before))), (a_t_factors, .inr (2, [.ref a_t_factors_parts])), (a_t_factors_parts, .inr (3, [.ref a_t_factors_parts_held, .ref a_t_factors_parts_before, .int c_t_factors_parts_size])), (a_t_factors_parts_held, .inl (cyJ, 12, .inr (.inl f_t_factors_parts_held)))] H := hP
      have hD : va_D A [(a_t, .inr (6, [.ref a_t_forms, .ref a_t_roll, .ref a_t_row, .ref a_t_rows, .ref a_t_factors, .ref a_t_found, .ref a_t_foundOtherwise, .int c_t_acts, .int c_t_refusals, .int c_t_knocks])), (a_t_forms, .inl (cyJ, 6, .inr (.inl f_t_forms))), (a_t_roll, .inr (3, [.ref a_t_roll_held, .ref a_t_roll_before, .int c_t_roll_size])), (a_t_roll_held, .inl (cyJ, 12, .inr (.inl f_t_roll_held))), (a_t_roll_before, .inl (cyJ, 12, .inr (.inl f_t_roll_before))), (a_t_factors, .inr (2, [.ref a_t_factors_parts])), (a_t_factors_parts, .inr (3, [.ref a_t_factors_parts_held, .ref a_t_factors_parts_before, .int c_t_factors_parts_size])), (a_t_factors_parts_held, .inl (cyJ, 12, .inr (.inl f_t_factors_parts_held)))] := hD
      obtain ⟨e0, e1, e2, e3, e4, e5, e6, e7, e8⟩ := tup9 h
      subst e0
      subst e1
      subst e2
      subst e3
      subst e4
      subst e5
      subst e6
      subst e7
      subst e8
      have hP9 : va_P D vwCl [(a_t, .inr (6, [.ref a_t_forms, .ref a_t_roll, .ref a_t_row, .ref a_t_rows, .ref a_t_factors, .ref a_t_found, .ref a_t_foundOtherwise, .int c_t_acts, .int c_t_refusals, .int c_t_knocks])), (a_t_forms, .inl (cyJ, 6, .inr (.inl f_t_forms))), (a_t_roll, .inr (3, [.ref a_t_roll_held, .ref a_t_roll_before, .int c_t_roll_size])), (a_t_roll_held, .inl (cyJ, 12, .inr (.inl f_t_roll_held))), (a_t_roll_before, .inl (cyJ, 12, .inr (.inl f_t_roll_before))), (a_t_factors, .inr (2, [.ref a_t_factors_parts])), (a_t_factors_parts, .inr (3, [.ref a_t_factors_parts_held, .ref a_t_factors_parts_before, .int c_t_factors_parts_size])), (a_t_factors_parts_held, .inl (cyJ, 12, .inr (.inl f_t_factors_parts_held)))] H := hP.sub [0, 1, 2, 3, 4, 5, 6, 7] rfl
      have hD9 : va_D A [(a_t, .inr (6, [.ref a_t_forms, .ref a_t_roll, .ref a_t_row, .ref a_t_rows, .ref a_t_factors, .ref a_t_found, .ref a_t_foundOtherwise, .int c_t_acts, .int c_t_refusals, .int c_t_knocks])), (a_t_forms, .inl (cyJ, 6, .inr (.inl f_t_forms))), (a_t_roll, .inr (3, [.ref a_t_roll_held, .ref a_t_roll_before, .int c_t_roll_size])), (a_t_roll_held, .inl (cyJ, 12, .inr (.inl f_t_roll_held))), (a_t_roll_before, .inl (cyJ, 12, .inr (.inl f_t_roll_before))), (a_t_factors, .inr (2, [.ref a_t_factors_parts])), (a_t_factors_parts, .inr (3, [.ref a_t_factors_parts_held, .ref a_t_factors_parts_before, .int c_t_factors_parts_size])), (a_t_factors_parts_held, .inl (cyJ, 12, .inr (.inl f_t_factors_parts_held)))] := hD.sub [0, 1, 2, 3, 4, 5, 6, 7] (by decide) rfl
      exact vx_out (fun x hx => (hxt x hx).elim) hlocks hce9 hcv9 hcl9 (fun t ht hW => ⟨(), hx9, ⟨hE9, wQA_of ht hP9 hD9⟩, hS.F ht⟩) hS.2.2 (Nat.le_of_ble_eq_true rfl) (Nat.le_of_ble_eq_true rfl)
    · have h := it_ hx9 h
      have hP : va_P D vwCl [(a_t, .inr (6, [.ref a_t_forms, .ref a_t_roll, .ref a_t_row, .ref a_t_rows, .ref a_t_factors, .ref a_t_found, .ref a_t_foundOtherwise, .int c_t_acts, .int c_t_refusals, .int c_t_knocks])), (a_t_forms, .inl (cyJ, 6, .inr (.inl f_t_forms))), (a_t_roll, .inr (3, [.ref a_t_roll_held, .ref a_t_roll_before, .int c_t_roll_size])), (a_t_roll_held, .inl (cyJ, 12, .inr (.inl f_t_roll_held))), (a_t_roll_before, .inl (cyJ, 12, .inr (.inl f_t_roll_before))), (a_t_factors, .inr (2, [.ref a_t_factors_parts])), (a_t_factors_parts, .inr (3, [.ref a_t_factors_parts_held, .ref a_t_factors_parts_before, .int c_t_factors_parts_size])), (a_t_factors_parts_held, .inl (cyJ, 12, .inr (.inl f_t_factors_parts_held)))] H := hP
      have hD : va_D A [(a_t, .inr (6, [.ref a_t_forms, .ref a_t_roll, .ref a_t_row, .ref a_t_rows, .ref a_t_factors, .ref a_t_found, .ref a_t_foundOtherwise, .int c_t_acts, .int c_t_refusals, .int c_t_knocks])), (a_t_forms, .inl (cyJ, 6, .inr (.inl f_t_forms))), (a_t_roll, .inr (3, [.ref a_t_roll_held, .ref a_t_roll_before, .int c_t_roll_size])), (a_t_roll_held, .inl (cyJ, 12, .inr (.inl f_t_roll_held))), (a_t_roll_before, .inl (cyJ, 12, .inr (.inl f_t_roll_before))), (a_t_factors, .inr (2, [.ref a_t_factors_parts])), (a_t_factors_parts, .inr (3, [.ref a_t_factors_parts_held, .ref a_t_factors_parts_before, .int c_t_factors_parts_size])), (a_t_factors_parts_held, .inl (cyJ, 12, .inr (.inl f_t_factors_parts_held)))] := hD
      refine lv_aload_n hx hb dX7_factor_10 rfl (lv_at hl 0 rfl) ?_
      refine va_get (D := D) (ci := 6) (v := .ref a_t_forms) (C := RX7) (T := TX7) (N := 10) hx hb hts hinX7 hown hK hP 0 rfl rfl 0 (by decide) hfl9 (fun _ h9 => h9) rfl dX7_factor_11 ?_
      refine lv_iload_n hx hb dX7_factor_14 rfl (lv_at hl 1 rfl) ?_
      obtain ⟨hq15, h⟩ := chk_h h
      refine va_lald hx hb hK hP 1 0 rfl rfl hq15 dX7_factor_15 ?_
      obtain ⟨r16, hc16, h⟩ := obn_h h
      refine pz_callS (As := [.long (f_t_forms p0.toNatClampNeg)]) (rest := []) hcf (c_X0_degreeOf l (f_t_forms p0.toNatClampNeg) r16 hc16) (va_cwS 1 hts gX7_factor_X0_degreeOf rfl rfl rfl ydX0_degreeOf ⟨Nat.le_of_ble_eq_true rfl, Nat.le_of_ble_eq_true rfl⟩) hnw rfl hl.1 rfl (Nat.le_of_ble_eq_true rfl) dX7_factor_16 ⟨Nat.le_of_ble_eq_true rfl, Nat.le_of_ble_eq_true rfl⟩ ?_
      refine lv_iconst (v := 1) hx hb dX7_factor_19 (by decide) ?_
      refine lv_bipush (v := 10) hx hb dX7_factor_20 (by decide) ?_
      obtain ⟨r22, hc22, h⟩ := obn_h h
      refine pz_callS (As := [.int r16, .int (1 : Int32), .int (10 : Int32)]) (rest := []) hcf (c_X7_isBetween l r16 (1 : Int32) (10 : Int32) r22 hc22) (va_cwS 3 hts gX7_factor_X7_isBetween rfl rfl rfl ydX7_isBetween ⟨Nat.le_of_ble_eq_true rfl, Nat.le_of_ble_eq_true rfl⟩) hnw rfl hl.1 rfl (Nat.le_of_ble_eq_true rfl) dX7_factor_22 ⟨Nat.le_of_ble_eq_true rfl, Nat.le_of_ble_eq_true rfl⟩ ?_
      refine lv_if_ne (tgt := 33) hx hb dX7_factor_25 (by decide) (fun c25 => ?_) (fun c25 => ?_)
      · have h := if_ c25 h
        refine lv_iload_n hx hb dX7_factor_33 rfl (lv_at hl 2 rfl) ?_
        refine lv_if_ne (tgt := 57) hx hb dX7_factor_34 (by decide) (fun c34 => ?_) (fun c34 => ?_)
        · have h := if_ c34 h
          refine lv_aload_n hx hb dX7_factor_57 rfl (lv_at hl 0 rfl) ?_
          refine va_get (D := D) (ci := 6) (v := .ref a_t_factors) (C := RX7) (T := TX7) (N := 10) hx hb hts hinX7 hown hK hP 0 rfl rfl 4 (by decide) hfl37 (fun _ h9 => h9) rfl dX7_factor_58 ?_
          refine lv_aload_n hx hb dX7_factor_61 rfl (lv_at hl 0 rfl) ?_
          refine va_get (D := D) (ci := 6) (v := .ref a_t_forms) (C := RX7) (T := TX7) (N := 10) hx hb hts hinX7 hown hK hP 0 rfl rfl 0 (by decide) hfl9 (fun _ h9 => h9) rfl dX7_factor_62 ?_
          refine lv_iload_n hx hb dX7_factor_65 rfl (lv_at hl 1 rfl) ?_
          obtain ⟨hq66, h⟩ := chk_h h
          refine va_lald hx hb hK hP 1 0 rfl rfl hq66 dX7_factor_66 ?_
          refine lv_aload_n hx hb dX7_factor_67 rfl (lv_at hl 0 rfl) ?_
          refine va_get (D := D) (ci := 6) (v := .ref a_t_roll) (C := RX7) (T := TX7) (N := 10) hx hb hts hinX7 hown hK hP 0 rfl rfl 1 (by decide) hfl16 (fun _ h9 => h9) rfl dX7_factor_68 ?_
          obtain ⟨c_t_factors_parts_size_71, f_t_factors_parts_held_71, c_t_roll_size_71, f_t_roll_held_71, hc71, h⟩ := obn4_h h
          have hPc := hP.sub (ws' := [(a_t_factors, .inr (2, [.ref a_t_factors_parts])), (a_t_factors_parts, .inr (3, [.ref a_t_factors_parts_held, .ref a_t_factors_parts_before, .int c_t_factors_parts_size])), (a_t_factors_parts_held, .inl (cyJ, 12, .inr (.inl f_t_factors_parts_held))), (a_t_roll, .inr (3, [.ref a_t_roll_held, .ref a_t_roll_before, .int c_t_roll_size])), (a_t_roll_held, .inl (cyJ, 12, .inr (.inl f_t_roll_held)))]) [5, 6, 7, 2, 3] rfl
          have hDc := hD.sub (ws' := [(a_t_factors, .inr (2, [.ref a_t_factors_parts])), (a_t_factors_parts, .inr (3, [.ref a_t_factors_parts_held, .ref a_t_factors_parts_before, .int c_t_factors_parts_size])), (a_t_factors_parts_held, .inl (cyJ, 12, .inr (.inl f_t_factors_parts_held))), (a_t_roll, .inr (3, [.ref a_t_roll_held, .ref a_t_roll_before, .int c_t_roll_size])), (a_t_roll_held, .inl (cyJ, 12, .inr (.inl f_t_roll_held)))]) [5, 6, 7, 2, 3] (by decide) rfl
          refine hp_v (w1 := [(a_t_factors, .inr (2, [.ref a_t_factors_parts])), (a_t_factors_parts, .inr (3, [.ref a_t_factors_parts_held, .ref a_t_factors_parts_before, .int c_t_factors_parts_size_71])), (a_t_factors_parts_held, .inl (cyJ, 12, .inr (.inl f_t_factors_parts_held_71))), (a_t_roll, .inr (3, [.ref a_t_roll_held, .ref a_t_roll_before, .int c_t_roll_size_71])), (a_t_roll_held, .inl (cyJ, 12, .inr (.inl f_t_roll_held_71)))]) (wr := [(a_t, .inr (6, [.ref a_t_forms, .ref a_t_roll, .ref a_t_row, .ref a_t_rows, .ref a_t_factors, .ref a_t_found, .ref a_t_foundOtherwise, .int c_t_acts, .int c_t_refusals, .int c_t_knocks])), (a_t_forms, .inl (cyJ, 6, .inr (.inl f_t_forms))), (a_t_roll_before, .inl (cyJ, 12, .inr (.inl f_t_roll_before)))]) (va_runV (As := [.long (f_t_forms p0.toNatClampNeg), .ref a_t_roll]) (rest := []) hcf (c_X1_findByDegrees l D cyJ H.size a_t_factors a_t_roll a_t_factors_parts a_t_factors_parts_held a_t_factors_parts_before a_t_roll_held a_t_roll_before c_t_factors_parts_size f_t_factors_parts_held c_t_roll_size f_t_roll_held (f_t_forms p0.toNatClampNeg) c_t_factors_parts_size_71 f_t_factors_parts_held_71 c_t_roll_size_71 f_t_roll_held_71 hc71) (cwV 2 hts gX7_factor_X1_findByDegrees rfl rfl rfl ydX1_findByDegrees ⟨Nat.le_of_ble_eq_true rfl, Nat.le_of_ble_eq_true rfl⟩) ⟨bl_PD, va_recv hK hP (ci := 2) (q0 := 5) rfl rfl, pr_PD hPc hK0 hDc hnw⟩ rfl rfl hl.1 rfl (lv_room (Nat.le_of_ble_eq_true rfl)) dX7_factor_71 ⟨Nat.le_of_ble_eq_true rfl, Nat.le_of_ble_eq_true rfl⟩) hP hD hS hA [5, 6, 7, 2, 3] [0, 1, 4] rfl rfl (by decide) (by decide) (fun H locs hP hD hS => ?_)
          have hP : va_P D vwCl [(a_t, .inr (6, [.ref a_t_forms, .ref a_t_roll, .ref a_t_row, .ref a_t_rows, .ref a_t_factors, .ref a_t_found, .ref a_t_foundOtherwise, .int c_t_acts, .int c_t_refusals, .int c_t_knocks])), (a_t_forms, .inl (cyJ, 6, .inr (.inl f_t_forms))), (a_t_roll_before, .inl (cyJ, 12, .inr (.inl f_t_roll_before))), (a_t_factors, .inr (2, [.ref a_t_factors_parts])), (a_t_factors_parts, .inr (3, [.ref a_t_factors_parts_held, .ref a_t_factors_parts_before, .int c_t_factors_parts_size_71])), (a_t_factors_parts_held, .inl (cyJ, 12, .inr (.inl f_t_factors_parts_held_71))), (a_t_roll, .inr (3, [.ref a_t_roll_held, .ref a_t_roll_before, .int c_t_roll_size_71])), (a_t_roll_held, .inl (cyJ, 12, .inr (.inl f_t_roll_held_71)))] H := hP
          have hD : va_D A [(a_t, .inr (6, [.ref a_t_forms, .ref a_t_roll, .ref a_t_row, .ref a_t_rows, .ref a_t_factors, .ref a_t_found, .ref a_t_foundOtherwise, .int c_t_acts, .int c_t_refusals, .int c_t_knocks])), (a_t_forms, .inl (cyJ, 6, .inr (.inl f_t_forms))), (a_t_roll_before, .inl (cyJ, 12, .inr (.inl f_t_roll_before))), (a_t_factors, .inr (2, [.ref a_t_factors_parts])), (a_t_factors_parts, .inr (3, [.ref a_t_factors_parts_held, .ref a_t_factors_parts_before, .int c_t_factors_parts_size_71])), (a_t_factors_parts_held, .inl (cyJ, 12, .inr (.inl f_t_factors_parts_held_71))), (a_t_roll, .inr (3, [.ref a_t_roll_held, .ref a_t_roll_before, .int c_t_roll_size_71])), (a_t_roll_held, .inl (cyJ, 12, .inr (.inl f_t_roll_held_71)))] := hD
          refine lv_aload_n hx hb dX7_factor_74 rfl (lv_at hl 0 rfl) ?_
          refine va_get (D := D) (ci := 6) (v := .ref a_t_roll) (C := RX7) (T := TX7) (N := 10) hx hb hts hinX7 hown hK hP 0 rfl rfl 1 (by decide) hfl16 (fun _ h9 => h9) rfl dX7_factor_75 ?_
          refine lv_iconst (v := 1) hx hb dX7_factor_78 (by decide) ?_
          obtain ⟨r79, f_t_roll_held_79, f_t_roll_before_79, hc79, h⟩ := obn3_h h
          have hPc := hP.sub (ws' := [(a_t_roll, .inr (3, [.ref a_t_roll_held, .ref a_t_roll_before, .int c_t_roll_size_71])), (a_t_roll_held, .inl (cyJ, 12, .inr (.inl f_t_roll_held_71))), (a_t_roll_before, .inl (cyJ, 12, .inr (.inl f_t_roll_before)))]) [6, 7, 2] rfl
          have hDc := hD.sub (ws' := [(a_t_roll, .inr (3, [.ref a_t_roll_held, .ref a_t_roll_before, .int c_t_roll_size_71])), (a_t_roll_held, .inl (cyJ, 12, .inr (.inl f_t_roll_held_71))), (a_t_roll_before, .inl (cyJ, 12, .inr (.inl f_t_roll_before)))]) [6, 7, 2] (by decide) rfl
          refine hp_i (w1 := [(a_t_roll, .inr (3, [.ref a_t_roll_held, .ref a_t_roll_before, .int c_t_roll_size_71])), (a_t_roll_held, .inl (cyJ, 12, .inr (.inl f_t_roll_held_79))), (a_t_roll_before, .inl (cyJ, 12, .inr (.inl f_t_roll_before_79)))]) (wr := [(a_t, .inr (6, [.ref a_t_forms, .ref a_t_roll, .ref a_t_row, .ref a_t_rows, .ref a_t_factors, .ref a_t_found, .ref a_t_foundOtherwise, .int c_t_acts, .int c_t_refusals, .int c_t_knocks])), (a_t_forms, .inl (cyJ, 6, .inr (.inl f_t_forms))), (a_t_factors, .inr (2, [.ref a_t_factors_parts])), (a_t_factors_parts, .inr (3, [.ref a_t_factors_parts_held, .ref a_t_factors_parts_before, .int c_t_factors_parts_size_71])), (a_t_factors_parts_held, .inl (cyJ, 12, .inr (.inl f_t_factors_parts_held_71)))]) (va_runV (As := [.int (1 : Int32)]) (rest := []) hcf (c_X3_arrange l D cyJ H.size a_t_roll a_t_roll_held a_t_roll_before c_t_roll_size_71 f_t_roll_held_71 f_t_roll_before (1 : Int32) r79 f_t_roll_held_79 f_t_roll_before_79 hc79) (cwV 1 hts gX7_factor_X3_arrange rfl rfl rfl ydX3_arrange ⟨Nat.le_of_ble_eq_true rfl, Nat.le_of_ble_eq_true rfl⟩) ⟨bl_PD, va_recv hK hP (ci := 3) (q0 := 6) rfl rfl, pr_PD hPc hK0 hDc hnw⟩ rfl rfl hl.1 rfl (lv_room (Nat.le_of_ble_eq_true rfl)) dX7_factor_79 ⟨Nat.le_of_ble_eq_true rfl, Nat.le_of_ble_eq_true rfl⟩) hP hD hS hA [6, 7, 2] [0, 1, 3, 4, 5] rfl rfl (by decide) (by decide) (fun H locs hP hD hS => ?_)
          have hP : va_P D vwCl [(a_t, .inr (6, [.ref a_t_forms, .ref a_t_roll, .ref a_t_row, .ref a_t_rows, .ref a_t_factors, .ref a_t_found, .ref a_t_foundOtherwise, .int c_t_acts, .int c_t_refusals, .int c_t_knocks])), (a_t_forms, .inl (cyJ, 6, .inr (.inl f_t_forms))), (a_t_factors, .inr (2, [.ref a_t_factors_parts])), (a_t_factors_parts, .inr (3, [.ref a_t_factors_parts_held, .ref a_t_factors_parts_before, .int c_t_factors_parts_size_71])), (a_t_factors_parts_held, .inl (cyJ, 12, .inr (.inl f_t_factors_parts_held_71))), (a_t_roll, .inr (3, [.ref a_t_roll_held, .ref a_t_roll_before, .int c_t_roll_size_71])), (a_t_roll_held, .inl (cyJ, 12, .inr (.inl f_t_roll_held_79))), (a_t_roll_before, .inl (cyJ, 12, .inr (.inl f_t_roll_before_79)))] H := hP
          have hD : va_D A [(a_t, .inr (6, [.ref a_t_forms, .ref a_t_roll, .ref a_t_row, .ref a_t_rows, .ref a_t_factors, .ref a_t_found, .ref a_t_foundOtherwise, .int c_t_acts, .int c_t_refusals, .int c_t_knocks])), (a_t_forms, .inl (cyJ, 6, .inr (.inl f_t_forms))), (a_t_factors, .inr (2, [.ref a_t_factors_parts])), (a_t_factors_parts, .inr (3, [.ref a_t_factors_parts_held, .ref a_t_factors_parts_before, .int c_t_factors_parts_size_71])), (a_t_factors_parts_held, .inl (cyJ, 12, .inr (.inl f_t_factors_parts_held_71))), (a_t_roll, .inr (3, [.ref a_t_roll_held, .ref a_t_roll_before, .int c_t_roll_size_71])), (a_t_roll_held, .inl (cyJ, 12, .inr (.inl f_t_roll_held_79))), (a_t_roll_before, .inl (cyJ, 12, .inr (.inl f_t_roll_before_79)))] := hD
          refine lv_pop hx hb dX7_factor_82 rfl ?_
          exact hj83 c_t_acts c_t_refusals c_t_roll_size_71 f_t_roll_held_79 f_t_roll_before_79 c_t_factors_parts_size_71 f_t_factors_parts_held_71 h _ _ (hP.sub [0, 1, 5, 6, 7, 2, 3, 4] rfl) (hD.sub [0, 1, 5, 6, 7, 2, 3, 4] (by decide) rfl) hS ls (lv_sub hl [0] rfl)
        · have h := it_ c34 h
          refine lv_aload_n hx hb dX7_factor_37 rfl (lv_at hl 0 rfl) ?_
          refine va_get (D := D) (ci := 6) (v := .ref a_t_factors) (C := RX7) (T := TX7) (N := 10) hx hb hts hinX7 hown hK hP 0 rfl rfl 4 (by decide) hfl37 (fun _ h9 => h9) rfl dX7_factor_38 ?_
          refine lv_aload_n hx hb dX7_factor_41 rfl (lv_at hl 0 rfl) ?_
          refine va_get (D := D) (ci := 6) (v := .ref a_t_forms) (C := RX7) (T := TX7) (N := 10) hx hb hts hinX7 hown hK hP 0 rfl rfl 0 (by decide) hfl9 (fun _ h9 => h9) rfl dX7_factor_42 ?_
          refine lv_iload_n hx hb dX7_factor_45 rfl (lv_at hl 1 rfl) ?_
          obtain ⟨hq46, h⟩ := chk_h h
          refine va_lald hx hb hK hP 1 0 rfl rfl hq46 dX7_factor_46 ?_
          refine lv_aload_n hx hb dX7_factor_47 rfl (lv_at hl 0 rfl) ?_
          refine va_get (D := D) (ci := 6) (v := .ref a_t_roll) (C := RX7) (T := TX7) (N := 10) hx hb hts hinX7 hown hK hP 0 rfl rfl 1 (by decide) hfl16 (fun _ h9 => h9) rfl dX7_factor_48 ?_
          obtain ⟨c_t_roll_size_51, f_t_roll_held_51, hc51, h⟩ := obn2_h h
          have hPc := hP.sub (ws' := [(a_t_roll, .inr (3, [.ref a_t_roll_held, .ref a_t_roll_before, .int c_t_roll_size])), (a_t_roll_held, .inl (cyJ, 12, .inr (.inl f_t_roll_held)))]) [2, 3] rfl
          have hDc := hD.sub (ws' := [(a_t_roll, .inr (3, [.ref a_t_roll_held, .ref a_t_roll_before, .int c_t_roll_size])), (a_t_roll_held, .inl (cyJ, 12, .inr (.inl f_t_roll_held)))]) [2, 3] (by decide) rfl
          refine hp_v (w1 := [(a_t_roll, .inr (3, [.ref a_t_roll_held, .ref a_t_roll_before, .int c_t_roll_size_51])), (a_t_roll_held, .inl (cyJ, 12, .inr (.inl f_t_roll_held_51)))]) (wr := [(a_t, .inr (6, [.ref a_t_forms, .ref a_t_roll, .ref a_t_row, .ref a_t_rows, .ref a_t_factors, .ref a_t_found, .ref a_t_foundOtherwise, .int c_t_acts, .int c_t_refusals, .int c_t_knocks])), (a_t_forms, .inl (cyJ, 6, .inr (.inl f_t_forms))), (a_t_roll_before, .inl (cyJ, 12, .inr (.inl f_t_roll_before))), (a_t_factors, .inr (2, [.ref a_t_factors_parts])), (a_t_factors_parts, .inr (3, [.ref a_t_factors_parts_held, .ref a_t_factors_parts_before, .int c_t_factors_parts_size])), (a_t_factors_parts_held, .inl (cyJ, 12, .inr (.inl f_t_factors_parts_held)))]) (va_runV (As := [.long (f_t_forms p0.toNatClampNeg), .ref a_t_roll]) (rest := []) hcf (c_X1_findByTrying l D cyJ H.size a_t_factors a_t_roll a_t_roll_held a_t_roll_before c_t_roll_size f_t_roll_held (f_t_forms p0.toNatClampNeg) c_t_roll_size_51 f_t_roll_held_51 hc51) (cwV 2 hts gX7_factor_X1_findByTrying rfl rfl rfl ydX1_findByTrying ⟨Nat.le_of_ble_eq_true rfl, Nat.le_of_ble_eq_true rfl⟩) ⟨bl_PD, va_recv hK hP (ci := 2) (q0 := 5) rfl rfl, pr_PD hPc hK0 hDc hnw⟩ rfl rfl hl.1 rfl (lv_room (Nat.le_of_ble_eq_true rfl)) dX7_factor_51 ⟨Nat.le_of_ble_eq_true rfl, Nat.le_of_ble_eq_true rfl⟩) hP hD hS hA [2, 3] [0, 1, 4, 5, 6, 7] rfl rfl (by decide) (by decide) (fun H locs hP hD hS => ?_)
          have hP : va_P D vwCl [(a_t, .inr (6, [.ref a_t_forms, .ref a_t_roll, .ref a_t_row, .ref a_t_rows, .ref a_t_factors, .ref a_t_found, .ref a_t_foundOtherwise, .int c_t_acts, .int c_t_refusals, .int c_t_knocks])), (a_t_forms, .inl (cyJ, 6, .inr (.inl f_t_forms))), (a_t_roll_before, .inl (cyJ, 12, .inr (.inl f_t_roll_before))), (a_t_factors, .inr (2, [.ref a_t_factors_parts])), (a_t_factors_parts, .inr (3, [.ref a_t_factors_parts_held, .ref a_t_factors_parts_before, .int c_t_factors_parts_size])), (a_t_factors_parts_held, .inl (cyJ, 12, .inr (.inl f_t_factors_parts_held))), (a_t_roll, .inr (3, [.ref a_t_roll_held, .ref a_t_roll_before, .int c_t_roll_size_51])), (a_t_roll_held, .inl (cyJ, 12, .inr (.inl f_t_roll_held_51)))] H := hP
          have hD : va_D A [(a_t, .inr (6, [.ref a_t_forms, .ref a_t_roll, .ref a_t_row, .ref a_t_rows, .ref a_t_factors, .ref a_t_found, .ref a_t_foundOtherwise, .int c_t_acts, .int c_t_refusals, .int c_t_knocks])), (a_t_forms, .inl (cyJ, 6, .inr (.inl f_t_forms))), (a_t_roll_before, .inl (cyJ, 12, .inr (.inl f_t_roll_before))), (a_t_factors, .inr (2, [.ref a_t_factors_parts])), (a_t_factors_parts, .inr (3, [.ref a_t_factors_parts_held, .ref a_t_factors_parts_before, .int c_t_factors_parts_size])), (a_t_factors_parts_held, .inl (cyJ, 12, .inr (.inl f_t_factors_parts_held))), (a_t_roll, .inr (3, [.ref a_t_roll_held, .ref a_t_roll_before, .int c_t_roll_size_51])), (a_t_roll_held, .inl (cyJ, 12, .inr (.inl f_t_roll_held_51)))] := hD
          refine lv_goto (tgt := 83) hx hb dX7_factor_54 (by decide) ?_
          exact hj83 c_t_acts c_t_refusals c_t_roll_size_51 f_t_roll_held_51 f_t_roll_before c_t_factors_parts_size f_t_factors_parts_held h _ _ (hP.sub [0, 1, 6, 7, 2, 3, 4, 5] rfl) (hD.sub [0, 1, 6, 7, 2, 3, 4, 5] (by decide) rfl) hS ls (lv_sub hl [0] rfl)
      · have h := it_ c25 h
        refine lv_aload_n hx hb dX7_factor_28 rfl (lv_at hl 0 rfl) ?_
        obtain ⟨r29, c_t_refusals_29, hc29, h⟩ := obn2_h h
        have hPc := hP.sub (ws' := [(a_t, .inr (6, [.ref a_t_forms, .ref a_t_roll, .ref a_t_row, .ref a_t_rows, .ref a_t_factors, .ref a_t_found, .ref a_t_foundOtherwise, .int c_t_acts, .int c_t_refusals, .int c_t_knocks]))]) [0] rfl
        have hDc := hD.sub (ws' := [(a_t, .inr (6, [.ref a_t_forms, .ref a_t_roll, .ref a_t_row, .ref a_t_rows, .ref a_t_factors, .ref a_t_found, .ref a_t_foundOtherwise, .int c_t_acts, .int c_t_refusals, .int c_t_knocks]))]) [0] (by decide) rfl
        refine hp_i (w1 := [(a_t, .inr (6, [.ref a_t_forms, .ref a_t_roll, .ref a_t_row, .ref a_t_rows, .ref a_t_factors, .ref a_t_found, .ref a_t_foundOtherwise, .int c_t_acts, .int c_t_refusals_29, .int c_t_knocks]))]) (wr := [(a_t_forms, .inl (cyJ, 6, .inr (.inl f_t_forms))), (a_t_roll, .inr (3, [.ref a_t_roll_held, .ref a_t_roll_before, .int c_t_roll_size])), (a_t_roll_held, .inl (cyJ, 12, .inr (.inl f_t_roll_held))), (a_t_roll_before, .inl (cyJ, 12, .inr (.inl f_t_roll_before))), (a_t_factors, .inr (2, [.ref a_t_factors_parts])), (a_t_factors_parts, .inr (3, [.ref a_t_factors_parts_held, .ref a_t_factors_parts_before, .int c_t_factors_parts_size])), (a_t_factors_parts_held, .inl (cyJ, 12, .inr (.inl f_t_factors_parts_held)))]) (va_runV (As := []) (rest := []) hcf (c_X7_refuse l D cyJ H.size a_t a_t_forms a_t_roll a_t_row a_t_rows a_t_factors a_t_found a_t_foundOtherwise c_t_acts c_t_refusals c_t_knocks r29 c_t_refusals_29 hc29) (cwV 0 hts gX7_factor_X7_refuse rfl rfl rfl ydX7_refuse ⟨Nat.le_of_ble_eq_true rfl, Nat.le_of_ble_eq_true rfl⟩) ⟨bl_PD, va_recv hK hP (ci := 6) (q0 := 0) rfl rfl, pr_PD hPc hK0 hDc hnw⟩ rfl rfl hl.1 rfl (lv_room (Nat.le_of_ble_eq_true rfl)) dX7_factor_29 ⟨Nat.le_of_ble_eq_true rfl, Nat.le_of_ble_eq_true rfl⟩) hP hD hS hA [0] [1, 2, 3, 4, 5, 6, 7] rfl rfl (by decide) (by decide) (fun H locs hP hD hS => ?_)
        have hP : va_P D vwCl [(a_t_forms, .inl (cyJ, 6, .inr (.inl f_t_forms))), (a_t_roll, .inr (3, [.ref a_t_roll_held, .ref a_t_roll_before, .int c_t_roll_size])), (a_t_roll_held, .inl (cyJ, 12, .inr (.inl f_t_roll_held))), (a_t_roll_before, .inl (cyJ, 12, .inr (.inl f_t_roll_before))), (a_t_factors, .inr (2, [.ref a_t_factors_parts])), (a_t_factors_parts, .inr (3, [.ref a_t_factors_parts_held, .ref a_t_factors_parts_before, .int c_t_factors_parts_size])), (a_t_factors_parts_held, .inl (cyJ, 12, .inr (.inl f_t_factors_parts_held))), (a_t, .inr (6, [.ref a_t_forms, .ref a_t_roll, .ref a_t_row, .ref a_t_rows, .ref a_t_factors, .ref a_t_found, .ref a_t_foundOtherwise, .int c_t_acts, .int c_t_refusals_29, .int c_t_knocks]))] H := hP
        have hD : va_D A [(a_t_forms, .inl (cyJ, 6, .inr (.inl f_t_forms))), (a_t_roll, .inr (3, [.ref a_t_roll_held, .ref a_t_roll_before, .int c_t_roll_size])), (a_t_roll_held, .inl (cyJ, 12, .inr (.inl f_t_roll_held))), (a_t_roll_before, .inl (cyJ, 12, .inr (.inl f_t_roll_before))), (a_t_factors, .inr (2, [.ref a_t_factors_parts])), (a_t_factors_parts, .inr (3, [.ref a_t_factors_parts_held, .ref a_t_factors_parts_before, .int c_t_factors_parts_size])), (a_t_factors_parts_held, .inl (cyJ, 12, .inr (.inl f_t_factors_parts_held))), (a_t, .inr (6, [.ref a_t_forms, .ref a_t_roll, .ref a_t_row, .ref a_t_rows, .ref a_t_factors, .ref a_t_found, .ref a_t_foundOtherwise, .int c_t_acts, .int c_t_refusals_29, .int c_t_knocks]))] := hD
        obtain ⟨e0, e1, e2, e3, e4, e5, e6, e7, e8⟩ := tup9 h
        subst e0
        subst e1
        subst e2
        subst e3
        subst e4
        subst e5
        subst e6
        subst e7
        subst e8
        have hP9 : va_P D vwCl [(a_t, .inr (6, [.ref a_t_forms, .ref a_t_roll, .ref a_t_row, .ref a_t_rows, .ref a_t_factors, .ref a_t_found, .ref a_t_foundOtherwise, .int c_t_acts, .int c_t_refusals_29, .int c_t_knocks])), (a_t_forms, .inl (cyJ, 6, .inr (.inl f_t_forms))), (a_t_roll, .inr (3, [.ref a_t_roll_held, .ref a_t_roll_before, .int c_t_roll_size])), (a_t_roll_held, .inl (cyJ, 12, .inr (.inl f_t_roll_held))), (a_t_roll_before, .inl (cyJ, 12, .inr (.inl f_t_roll_before))), (a_t_factors, .inr (2, [.ref a_t_factors_parts])), (a_t_factors_parts, .inr (3, [.ref a_t_factors_parts_held, .ref a_t_factors_parts_before, .int c_t_factors_parts_size])), (a_t_factors_parts_held, .inl (cyJ, 12, .inr (.inl f_t_factors_parts_held)))] H := hP.sub [7, 0, 1, 2, 3, 4, 5, 6] rfl
        have hD9 : va_D A [(a_t, .inr (6, [.ref a_t_forms, .ref a_t_roll, .ref a_t_row, .ref a_t_rows, .ref a_t_factors, .ref a_t_found, .ref a_t_foundOtherwise, .int c_t_acts, .int c_t_refusals_29, .int c_t_knocks])), (a_t_forms, .inl (cyJ, 6, .inr (.inl f_t_forms))), (a_t_roll, .inr (3, [.ref a_t_roll_held, .ref a_t_roll_before, .int c_t_roll_size])), (a_t_roll_held, .inl (cyJ, 12, .inr (.inl f_t_roll_held))), (a_t_roll_before, .inl (cyJ, 12, .inr (.inl f_t_roll_before))), (a_t_factors, .inr (2, [.ref a_t_factors_parts])), (a_t_factors_parts, .inr (3, [.ref a_t_factors_parts_held, .ref a_t_factors_parts_before, .int c_t_factors_parts_size])), (a_t_factors_parts_held, .inl (cyJ, 12, .inr (.inl f_t_factors_parts_held)))] := hD.sub [7, 0, 1, 2, 3, 4, 5, 6] (by decide) rfl
        refine vx_ret ?_
        exact W.iret hx hb hr (fun t ht hW => ⟨⟨_, (), rfl, ⟨rfl, rfl⟩, wQA_of ht hP9 hD9⟩, hS.F ht⟩) hS.2.2 dX7_factor_32
