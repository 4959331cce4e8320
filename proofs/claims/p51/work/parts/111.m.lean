noncomputable abbrev rmX5_cellDigits : Room := { frames := 6, cells := 70, slots := 20408, locals := 191 }
theorem ydX5_cellDigits : yX5_cellDigits.cls = RX5 ∧ yX5_cellDigits.cls ≠ "java/lang/invoke/MethodHandle" ∧ yX5_cellDigits.cls ≠ "java/lang/invoke/VarHandle" ∧ (parseMethodDescriptor yX5_cellDigits.desc).map (fun d => d.parameters.length) = some 0 := by decide +kernel
noncomputable def S_X5_cellDigits_18 (z2_18 : Int32) (c_t_cells_z18 : Int64) (c_n0_coder_z18 : Int32) (k52 : Int32 → Nat → (Nat → Int32) → Option (Unit)) (ih18 : Int32 → Int32 → Nat → (Nat → Int32) → Option (Unit)) (y3_18 : Int32) (c_n0_count_18 : Int32) (n_n0_value_18 : Nat) (f_n0_value_18 : Nat → Int32) : Option (Unit) :=
 (if z2_18 ≤ y3_18 then
 k52 c_n0_count_18 n_n0_value_18 f_n0_value_18
else
 obn (F_X0_hasOne c_t_cells_z18 y3_18) (fun r29 =>
 (if r29 = 0 then
 obn3 (F_J4_append_cf468 c_n0_coder_z18 c_n0_count_18 n_n0_value_18 f_n0_value_18 (48 : Int32)) (fun c_n0_count_42 n_n0_value_42 f_n0_value_42 =>
 bnd (y3_18 + 1) (fun x3_46 =>
 ih18 x3_46 c_n0_count_42 n_n0_value_42 f_n0_value_42))
else
 obn3 (F_J4_append_cf468 c_n0_coder_z18 c_n0_count_18 n_n0_value_18 f_n0_value_18 (49 : Int32)) (fun c_n0_count_42 n_n0_value_42 f_n0_value_42 =>
 bnd (y3_18 + 1) (fun x3_46 =>
 ih18 x3_46 c_n0_count_42 n_n0_value_42 f_n0_value_42)))))
noncomputable def F_X5_cellDigits (c_t_taps : Int64) (c_t_cells : Int64) : Option (Unit) :=
 obn3 (F_J4_init_da8c8 ) (fun c_n0_coder_4 n_n0_value_4 f_n0_value_4 =>
 obn (F_X0_degreeOf c_t_taps) (fun r12 =>
 LQ4 (S_X5_cellDigits_18 r12 c_t_cells c_n0_coder_4 (fun c_n0_count_18_52 n_n0_value_18_52 f_n0_value_18_52 =>
 obn (F_J4_toString_0e30d c_n0_coder_4 c_n0_count_18_52 n_n0_value_18_52 f_n0_value_18_52) (fun u53 =>
 some ()))) 66 (0 : Int32) 0 n_n0_value_4 f_n0_value_4))
set_option maxHeartbeats 4000000 in
set_option maxRecDepth 100000 in
theorem c_X5_cellDigits (l : Launch) (D : va_G) (cyJ cyB : ClassId) (adK adV : Nat → Nat) (sz : Nat) (a_t : Nat) (c_t_taps : Int64) (c_t_cells : Int64) (hF : F_X5_cellDigits c_t_taps c_t_cells = some ()) : Met l yX5_cellDigits wsX5_cellDigits rmX5_cellDigits (va_Pc [.ref a_t] (wPDT D [(cyJ, .long), (cyB, .byte)] [(a_t, .inr (5, [.long c_t_taps, .long c_t_cells]))] adK adV sz)) (va_Qr (fun (_ : Unit) => True) (fun u r t => wQA D [(a_t, .inr (5, [.long c_t_taps, .long c_t_cells]))] (va_A [(a_t, .inr (5, [.long c_t_taps, .long c_t_cells]))] sz) t) (va_A [(a_t, .inr (5, [.long c_t_taps, .long c_t_cells]))] sz)) 70 20408 (va_A [(a_t, .inr (5, [.long c_t_taps, .long c_t_cells]))] sz) := by
  refine Met.ofW (cc := cX5_cellDigits) (maxL := 4) (ret := (some (.object "java/lang/String"))) (by decide) rfl ?_
  intro p e s m args below meth c s₁ B hml hv
  obtain ⟨rfl, ⟨⟨hsz, hP, hK, hD0, hnw⟩, hT⟩⟩ := hv
  have hx := B.exec
  have hb := B.bytes
  have hr := B.returns
  have hts := atoms_spec (ws := wsX5_cellDigits) B.pre
  have hown : s.vm.findClass RX5 = some m.cls := findClass_of_methodNamed B.named
  have hlocks := B.notSynchronized
  have hcf : CallFix _ _ _ _ _ _ _ _ _ := ⟨hx, hb, hml, hown, hts⟩
  have hinX5 : ∀ w ∈ u_ws RX5 TX5 2, w ∈ wsX5_cellDigits := by decide +kernel
  have hfl11 := hts (.fieldLink RX5 11 "Formwheel$ShiftRow" "taps" "J") (by decide +kernel)
  have hfl17 := hts (.fieldLink RX5 17 "Formwheel$ShiftRow" "cells" "J") (by decide +kernel)
  subst hsz
  have hD := hD0.self (sz := s.heap.size)
  generalize hAe : va_A [(a_t, .inr (5, [.long c_t_taps, .long c_t_cells]))] s.heap.size = A at hD hT ⊢
  have hA : ∀ q : Nat, s.heap.size ≤ q → A q := fun q h => by rw [← hAe]; exact Or.inr h
  have hS : va_S A s.heap s.heap [] := va_S.rf
  have hP : va_P D vwCl [(a_t, .inr (5, [.long c_t_taps, .long c_t_cells]))] s.heap := hP
  have hK0 := hK
  have hcB : s.vm.findClass "[B" = some cyB := (hK.2 1 _ rfl).2
  have hl := lv_entry ([.ref a_t]) (n := 4) (Nat.le_of_ble_eq_true rfl)
  rw [lg_entry_eq]
  generalize (lg_sl ([.ref a_t]) ++ List.replicate (4 - (lg_sl ([.ref a_t])).length) Slot.unset).toArray = ls at hl ⊢
  have hl : lv_has ls 4 [(0, .ref a_t)] := hl
  have h := hF
  clear hF
  unfold F_X5_cellDigits at h
  refine va_new (ci := 1) (fs := [.null, .int 0, .int 0, .int 0]) (C := RJ4) (T := TJ4) (N := 4) hx hb hts (by decide +kernel) tyJ4 tyJ4_ok hown (hts (.classLink RX5 37 RJ4) (by decide +kernel)) (hts (.instantiable RJ4 4) (by decide +kernel)) (hts (.initialized RJ4) (by decide +kernel)) hK hP hD hS hA rfl (fun j hj => by rcases (show j = 0 ∨ j = 1 ∨ j = 2 ∨ j = 3 by omega) with rfl | rfl | rfl | rfl <;> rfl) (Nat.le_of_ble_eq_true rfl) (Nat.le_of_ble_eq_true rfl) dX5_cellDigits_0 (fun a_n0 H hP hD hS => ?_)
  have hP : va_P D vwCl [(a_t, .inr (5, [.long c_t_taps, .long c_t_cells])), (a_n0, .inr (1, [.null, .int 0, .int 0, .int 0]))] H := hP
  have hD : va_D A [(a_t, .inr (5, [.long c_t_taps, .long c_t_cells])), (a_n0, .inr (1, [.null, .int 0, .int 0, .int 0]))] := hD
  refine lv_dup hx hb dX5_cellDigits_3 rfl ?_
  obtain ⟨c_n0_coder_4, n_n0_value_4, f_n0_value_4, hc4, h⟩ := obn3_h h
  have hPc := hP.sub (ws' := [(a_n0, .inr (1, [.null, .int 0, .int 0, .int 0]))]) [1] rfl
  have hDc := hD.sub (ws' := [(a_n0, .inr (1, [.null, .int 0, .int 0, .int 0]))]) [1] (by decide) rfl
  refine hp_n (wr := [(a_t, .inr (5, [.long c_t_taps, .long c_t_cells]))]) (va_runI (As := []) (rest := [.ref a_n0]) hcf (c_J4_init_da8c8 l D cyJ cyB adK adV H.size a_n0 0 0 0 c_n0_coder_4 n_n0_value_4 f_n0_value_4 hc4) (cwI 0 hts gX5_cellDigits_J4_init_da8c8 rfl rfl rfl (hts (.initialized RJ4) (by decide +kernel)) (hts (.methodLink RX5 39 yJ4_init_da8c8) (by decide +kernel)) (hts (.instanceMethod yJ4_init_da8c8) (by decide +kernel)) rfl (by decide +kernel) ⟨Nat.le_of_ble_eq_true rfl, Nat.le_of_ble_eq_true rfl⟩) ⟨bl_PDT, pr_PDT hPc hK0 hDc hnw hT hS (va_free hD hS hA [1] rfl)⟩ rfl rfl hl.1 rfl (lv_room (Nat.le_of_ble_eq_true rfl)) dX5_cellDigits_4 ⟨Nat.le_of_ble_eq_true rfl, Nat.le_of_ble_eq_true rfl⟩) hP hD hS hA [1] [0] rfl rfl (by decide) (by decide) (fun u4 H locs hP hD hS => ?_)
  obtain ⟨b_n0_value_4, rfl⟩ : ∃ z : Nat, z = u4 := ⟨_, rfl⟩
  have hP : va_P D vwCl [(a_t, .inr (5, [.long c_t_taps, .long c_t_cells])), (a_n0, .inr (1, [.ref b_n0_value_4, .int c_n0_coder_4, .int 0, .int 0])), (b_n0_value_4, .inl (cyB, n_n0_value_4, .inl f_n0_value_4))] H := hP
  have hD : va_D A [(a_t, .inr (5, [.long c_t_taps, .long c_t_cells])), (a_n0, .inr (1, [.ref b_n0_value_4, .int c_n0_coder_4, .int 0, .int 0])), (b_n0_value_4, .inl (cyB, n_n0_value_4, .inl f_n0_value_4))] := hD
  refine lv_astore_n (lv' := [(1, .ref a_n0), (0, .ref a_t)]) hx hb dX5_cellDigits_7 rfl hl (by decide) rfl (fun ls hl => ?_)
  refine lv_aload_n hx hb dX5_cellDigits_8 rfl (lv_at hl 1 rfl) ?_
  refine va_get (D := D) (ci := 5) (v := .long c_t_taps) (C := RX5) (T := TX5) (N := 2) hx hb hts hinX5 hown hK hP 0 rfl rfl 0 (by decide) hfl11 (fun _ h9 => h9) rfl dX5_cellDigits_9 ?_
  obtain ⟨r12, hc12, h⟩ := obn_h h
  refine pz_callS (As := [.long c_t_taps]) (rest := []) hcf (c_X0_degreeOf l c_t_taps r12 hc12) (va_cwS 1 hts gX5_cellDigits_X0_degreeOf rfl rfl rfl ydX0_degreeOf ⟨Nat.le_of_ble_eq_true rfl, Nat.le_of_ble_eq_true rfl⟩) hnw rfl hl.1 rfl (Nat.le_of_ble_eq_true rfl) dX5_cellDigits_12 ⟨Nat.le_of_ble_eq_true rfl, Nat.le_of_ble_eq_true rfl⟩ ?_
  refine lv_istore_n (lv' := [(2, .int r12), (1, .ref a_n0), (0, .ref a_t)]) hx hb dX5_cellDigits_15 rfl hl (by decide) rfl (fun ls hl => ?_)
  refine lv_iconst (v := 0) hx hb dX5_cellDigits_16 (by decide) ?_
  refine lv_istore_n (lv' := [(3, .int (0 : Int32)), (2, .int r12), (1, .ref a_n0), (0, .ref a_t)]) hx hb dX5_cellDigits_17 rfl hl (by decide) rfl (fun ls hl => ?_)
  refine LQ4_f1 (M := fun nf18 (y3_18 : Int32) (c_n0_count_18 : Int32) (n_n0_value_18 : Nat) (f_n0_value_18 : Nat → Int32) => ∀ (cn18 sn18 : Nat), cn18 + 1 * nf18 ≤ 68 → sn18 + 300 * nf18 ≤ 20104 → ∀ (q_n0_value_18 : Nat) (H : Heap) (locs : List Loc), va_P D vwCl [(a_t, .inr (5, [.long c_t_taps, .long c_t_cells])), (a_n0, .inr (1, [.ref q_n0_value_18, .int c_n0_coder_4, .int 0, .int c_n0_count_18])), (q_n0_value_18, .inl (cyB, n_n0_value_18, .inl f_n0_value_18))] H → va_D A [(a_t, .inr (5, [.long c_t_taps, .long c_t_cells])), (a_n0, .inr (1, [.ref q_n0_value_18, .int c_n0_coder_4, .int 0, .int c_n0_count_18])), (q_n0_value_18, .inl (cyB, n_n0_value_18, .inl f_n0_value_18))] → va_S A s.heap H locs → ∀ (ls : Array Slot), lv_has ls 4 [(0, .ref a_t), (1, .ref a_n0), (2, .int r12), (3, .int y3_18)] → W p l e rmX5_cellDigits s m ([.ref a_t] : List Value).toArray below meth c H locs (cn18 + 0) (sn18 + 0) (MQ below (va_Qr (fun (_ : Unit) => True) (fun u r t => wQA D [(a_t, .inr (5, [.long c_t_taps, .long c_t_cells]))] A t) A) ([.ref a_t] : List Value).toArray s 70 20408 A) (F0 m 18 ls [])) ?_ 66 _ _ _ _ h 2 304 (Nat.le_of_ble_eq_true rfl) (Nat.le_of_ble_eq_true rfl) _ _ _ hP hD hS ls (lv_sub hl [3, 2, 1, 0] rfl)
  intro nf18 k52 hk52 ih18 hih18 y3_18 c_n0_count_18 n_n0_value_18 f_n0_value_18 h cn18 sn18 hcn18 hsn18 q_n0_value_18 H locs hP hD hS ls hl
  unfold S_X5_cellDigits_18 at h
  refine lv_iload_n hx hb dX5_cellDigits_18 rfl (lv_at hl 3 rfl) ?_
  refine lv_iload_n hx hb dX5_cellDigits_19 rfl (lv_at hl 2 rfl) ?_
  refine lv_icmp_ge (tgt := 52) hx hb dX5_cellDigits_20 (by decide) (fun c20 => ?_) (fun c20 => ?_)
  · have h := it_ c20 h
    rw [hk52] at h
    refine W.widen (k := 68) (n := 20104) (by omega) (by omega) ?_
    refine lv_aload_n hx hb dX5_cellDigits_52 rfl (lv_at hl 1 rfl) ?_
    obtain ⟨u53, hc53, h⟩ := obn_h h
    have hPc := hP.sub (ws' := [(a_n0, .inr (1, [.ref q_n0_value_18, .int c_n0_coder_4, .int 0, .int c_n0_count_18])), (q_n0_value_18, .inl (cyB, n_n0_value_18, .inl f_n0_value_18))]) [1, 2] rfl
    have hDc := hD.sub (ws' := [(a_n0, .inr (1, [.ref q_n0_value_18, .int c_n0_coder_4, .int 0, .int c_n0_count_18])), (q_n0_value_18, .inl (cyB, n_n0_value_18, .inl f_n0_value_18))]) [1, 2] (by decide) rfl
    refine hp_r (wr := [(a_t, .inr (5, [.long c_t_taps, .long c_t_cells]))]) (va_runV (As := []) (rest := []) hcf (c_J4_toString_0e30d l D cyJ cyB adK adV H.size a_n0 q_n0_value_18 c_n0_coder_4 0 c_n0_count_18 n_n0_value_18 f_n0_value_18 hc53) (cwV 0 hts gX5_cellDigits_J4_toString_0e30d rfl rfl rfl ydJ4_toString_0e30d ⟨Nat.le_of_ble_eq_true rfl, Nat.le_of_ble_eq_true rfl⟩) ⟨bl_PDT, (va_recv hK hP (ci := 1) (q0 := 1) rfl rfl), pr_PDT hPc hK0 hDc hnw hT hS (va_free hD hS hA [1, 2] rfl)⟩ rfl rfl hl.1 rfl (lv_room (Nat.le_of_ble_eq_true rfl)) dX5_cellDigits_53 ⟨Nat.le_of_ble_eq_true rfl, Nat.le_of_ble_eq_true rfl⟩) hP hD hS hA [1, 2] [0] rfl rfl (by decide) (by decide) (fun u53 b_ret53_53 H locs hP hD hS => ?_)
    have hP : va_P D vwCl [(a_t, .inr (5, [.long c_t_taps, .long c_t_cells])), (a_n0, .inr (1, [.ref q_n0_value_18, .int c_n0_coder_4, .int 0, .int c_n0_count_18])), (q_n0_value_18, .inl (cyB, n_n0_value_18, .inl f_n0_value_18))] H := hP
    have hD : va_D A [(a_t, .inr (5, [.long c_t_taps, .long c_t_cells])), (a_n0, .inr (1, [.ref q_n0_value_18, .int c_n0_coder_4, .int 0, .int c_n0_count_18])), (q_n0_value_18, .inl (cyB, n_n0_value_18, .inl f_n0_value_18))] := hD
    have hP9 : va_P D vwCl [(a_t, .inr (5, [.long c_t_taps, .long c_t_cells]))] H := hP.sub [0] rfl
    have hD9 : va_D A [(a_t, .inr (5, [.long c_t_taps, .long c_t_cells]))] := hD.sub [0] (by decide) rfl
    exact W.aret (v := .ref b_ret53_53) hx hb hr (Or.inl ⟨_, rfl⟩) (Or.inr ⟨_, rfl⟩) (fun t ht hW => ⟨⟨(), b_ret53_53, rfl, trivial, wQA_of ht hP9 hD9⟩, hS.F ht⟩) hS.2.2 dX5_cellDigits_56
  · have h := if_ c20 h
    refine lv_aload_n hx hb dX5_cellDigits_23 rfl (lv_at hl 1 rfl) ?_
    refine lv_aload_n hx hb dX5_cellDigits_24 rfl (lv_at hl 0 rfl) ?_
    refine va_get (D := D) (ci := 5) (v := .long c_t_cells) (C := RX5) (T := TX5) (N := 2) hx hb hts hinX5 hown hK hP 0 rfl rfl 1 (by decide) hfl17 (fun _ h9 => h9) rfl dX5_cellDigits_25 ?_
    refine lv_iload_n hx hb dX5_cellDigits_28 rfl (lv_at hl 3 rfl) ?_
    obtain ⟨r29, hc29, h⟩ := obn_h h
    refine pz_callS (As := [.long c_t_cells, .int y3_18]) (rest := [.ref a_n0]) hcf (c_X0_hasOne l c_t_cells y3_18 r29 hc29) (va_cwS 2 hts gX5_cellDigits_X0_hasOne rfl rfl rfl ydX0_hasOne ⟨Nat.le_of_ble_eq_true rfl, Nat.le_of_ble_eq_true rfl⟩) hnw rfl hl.1 rfl (Nat.le_of_ble_eq_true rfl) dX5_cellDigits_29 ⟨Nat.le_trans (m := 68) (by omega) (Nat.le_of_ble_eq_true rfl), Nat.le_trans (m := 20104) (by omega) (Nat.le_of_ble_eq_true rfl)⟩ ?_
    refine lv_if_eq (tgt := 40) hx hb dX5_cellDigits_32 (by decide) (fun c32 => ?_) (fun c32 => ?_)
    · have h := it_ c32 h
      refine lv_bipush (v := 48) hx hb dX5_cellDigits_40 (by decide) ?_
      obtain ⟨c_n0_count_42, n_n0_value_42, f_n0_value_42, hc42, h⟩ := obn3_h h
      have hPc := hP.sub (ws' := [(a_n0, .inr (1, [.ref q_n0_value_18, .int c_n0_coder_4, .int 0, .int c_n0_count_18])), (q_n0_value_18, .inl (cyB, n_n0_value_18, .inl f_n0_value_18))]) [1, 2] rfl
      have hDc := hD.sub (ws' := [(a_n0, .inr (1, [.ref q_n0_value_18, .int c_n0_coder_4, .int 0, .int c_n0_count_18])), (q_n0_value_18, .inl (cyB, n_n0_value_18, .inl f_n0_value_18))]) [1, 2] (by decide) rfl
      refine hp_t (wr := [(a_t, .inr (5, [.long c_t_taps, .long c_t_cells]))]) (va_runV (As := [.int (48 : Int32)]) (rest := []) hcf (c_J4_append_cf468 l D cyJ cyB adK adV H.size a_n0 q_n0_value_18 c_n0_coder_4 0 c_n0_count_18 n_n0_value_18 f_n0_value_18 (48 : Int32) c_n0_count_42 n_n0_value_42 f_n0_value_42 hc42) (cwV 1 hts gX5_cellDigits_J4_append_cf468 rfl rfl rfl ydJ4_append_cf468 ⟨Nat.le_of_ble_eq_true rfl, Nat.le_of_ble_eq_true rfl⟩) ⟨bl_PDT, (va_recv hK hP (ci := 1) (q0 := 1) rfl rfl), pr_PDT hPc hK0 hDc hnw hT hS (va_free hD hS hA [1, 2] rfl)⟩ rfl rfl hl.1 rfl (lv_room (Nat.le_of_ble_eq_true rfl)) dX5_cellDigits_42 ⟨Nat.le_trans (m := 68) (by omega) (Nat.le_of_ble_eq_true rfl), Nat.le_trans (m := 20104) (by omega) (Nat.le_of_ble_eq_true rfl)⟩) hP hD hS hA [1, 2] [0] rfl rfl (by decide) (by decide) (fun u42 H locs hP hD hS => ?_)
      obtain ⟨b_n0_value_42, rfl⟩ : ∃ z : Nat, z = u42 := ⟨_, rfl⟩
      have hP : va_P D vwCl [(a_t, .inr (5, [.long c_t_taps, .long c_t_cells])), (a_n0, .inr (1, [.ref b_n0_value_42, .int c_n0_coder_4, .int 0, .int c_n0_count_42])), (b_n0_value_42, .inl (cyB, n_n0_value_42, .inl f_n0_value_42))] H := hP
      have hD : va_D A [(a_t, .inr (5, [.long c_t_taps, .long c_t_cells])), (a_n0, .inr (1, [.ref b_n0_value_42, .int c_n0_coder_4, .int 0, .int c_n0_count_42])), (b_n0_value_42, .inl (cyB, n_n0_value_42, .inl f_n0_value_42))] := hD
      refine lv_pop hx hb dX5_cellDigits_45 rfl ?_
      obtain ⟨x3_46, e_x3_46⟩ : ∃ z : Int32, z = y3_18 + 1 := ⟨_, rfl⟩
      have h := bnd_h e_x3_46 h
      refine lv_iinc (v := x3_46) (lv' := [(3, .int x3_46), (0, .ref a_t), (1, .ref a_n0), (2, .int r12)]) hx hb dX5_cellDigits_46 hl (k := 3) rfl (by rw [e_x3_46]; rfl) (by decide) rfl (fun ls hl => ?_)
      refine lv_goto (tgt := 18) hx hb dX5_cellDigits_49 (by decide) ?_
      exact hih18 x3_46 c_n0_count_42 n_n0_value_42 f_n0_value_42 h _ _ (by omega) (by omega) _ _ _ (hP.sub [0, 1, 2] rfl) (hD.sub [0, 1, 2] (by decide) rfl) hS ls (lv_sub hl [1, 2, 3, 0] rfl)
    · have h := if_ c32 h
      refine lv_bipush (v := 49) hx hb dX5_cellDigits_35 (by decide) ?_
      refine lv_goto (tgt := 42) hx hb dX5_cellDigits_37 (by decide) ?_
      obtain ⟨c_n0_count_42, n_n0_value_42, f_n0_value_42, hc42, h⟩ := obn3_h h
      have hPc := hP.sub (ws' := [(a_n0, .inr (1, [.ref q_n0_value_18, .int c_n0_coder_4, .int 0, .int c_n0_count_18])), (q_n0_value_18, .inl (cyB, n_n0_value_18, .inl f_n0_value_18))]) [1, 2] rfl
      have hDc := hD.sub (ws' := [(a_n0, .inr (1, [.ref q_n0_value_18, .int c_n0_coder_4, .int 0, .int c_n0_count_18])), (q_n0_value_18, .inl (cyB, n_n0_value_18, .inl f_n0_value_18))]) [1, 2] (by decide) rfl
      refine hp_t (wr := [(a_t, .inr (5, [.long c_t_taps, .long c_t_cells]))]) (va_runV (As := [.int (49 : Int32)]) (rest := []) hcf (c_J4_append_cf468 l D cyJ cyB adK adV H.size a_n0 q_n0_value_18 c_n0_coder_4 0 c_n0_count_18 n_n0_value_18 f_n0_value_18 (49 : Int32) c_n0_count_42 n_n0_value_42 f_n0_value_42 hc42) (cwV 1 hts gX5_cellDigits_J4_append_cf468 rfl rfl rfl ydJ4_append_cf468 ⟨Nat.le_of_ble_eq_true rfl, Nat.le_of_ble_eq_true rfl⟩) ⟨bl_PDT, (va_recv hK hP (ci := 1) (q0 := 1) rfl rfl), pr_PDT hPc hK0 hDc hnw hT hS (va_free hD hS hA [1, 2] rfl)⟩ rfl rfl hl.1 rfl (lv_room (Nat.le_of_ble_eq_true rfl)) dX5_cellDigits_42 ⟨Nat.le_trans (m := 68) (by omega) (Nat.le_of_ble_eq_true rfl), Nat.le_trans (m := 20104) (by omega) (Nat.le_of_ble_eq_true rfl)⟩) hP hD hS hA [1, 2] [0] rfl rfl (by decide) (by decide) (fun u42 H locs hP hD hS => ?_)
      obtain ⟨b_n0_value_42, rfl⟩ : ∃ z : Nat, z = u42 := ⟨_, rfl⟩
      have hP : va_P D vwCl [(a_t, .inr (5, [.long c_t_taps, .long c_t_cells])), (a_n0, .inr (1, [.ref b_n0_value_42, .int c_n0_coder_4, .int 0, .int c_n0_count_42])), (b_n0_value_42, .inl (cyB, n_n0_value_42, .inl f_n0_value_42))] H := hP
      have hD : va_D A [(a_t, .inr (5, [.long c_t_taps, .long c_t_cells])), (a_n0, .inr (1, [.ref b_n0_value_42, .int c_n0_coder_4, .int 0, .int c_n0_count_42])), (b_n0_value_42, .inl (cyB, n_n0_value_42, .inl f_n0_value_42))] := hD
      refine lv_pop hx hb dX5_cellDigits_45 rfl ?_
      obtain ⟨x3_46, e_x3_46⟩ : ∃ z : Int32, z = y3_18 + 1 := ⟨_, rfl⟩
      have h := bnd_h e_x3_46 h
      refine lv_iinc (v := x3_46) (lv' := [(3, .int x3_46), (0, .ref a_t), (1, .ref a_n0), (2, .int r12)]) hx hb dX5_cellDigits_46 hl (k := 3) rfl (by rw [e_x3_46]; rfl) (by decide) rfl (fun ls hl => ?_)
      refine lv_goto (tgt := 18) hx hb dX5_cellDigits_49 (by decide) ?_
      exact hih18 x3_46 c_n0_count_42 n_n0_value_42 f_n0_value_42 h _ _ (by omega) (by omega) _ _ _ (hP.sub [0, 1, 2] rfl) (hD.sub [0, 1, 2] (by decide) rfl) hS ls (lv_sub hl [1, 2, 3, 0] rfl)

noncomputable abbrev rmX7_rowText : Room := { frames := 7, cells := 70, slots := 20408, locals := 214 }
theorem ydX7_rowText : yX7_rowText.cls = RX7 ∧ yX7_rowText.cls ≠ "java/lang/invoke/MethodHandle" ∧ yX7_rowText.cls ≠ "java/lang/invoke/VarHandle" ∧ (parseMethodDescriptor yX7_rowText.desc).map (fun d => d.parameters.length) = some 0 := by decide +kernel
noncomputable def F_X7_rowText (c_t_row_taps : Int64) (c_t_row_cells : Int64) : Option (Unit) :=
 obn (F_X5_cellDigits c_t_row_taps c_t_row_cells) (fun u4 =>
 some ())
set_option maxHeartbeats 4000000 in
set_option maxRecDepth 100000 in
theorem c_X7_rowText (l : Launch) (D : va_G) (cyJ cyB : ClassId) (adK adV : Nat → Nat) (sz : Nat) (a_t : Nat) (a_t_forms : Nat) (a_t_roll : Nat) (a_t_row : Nat) (a_t_rows : Nat) (a_t_factors : Nat) (a_t_found : Nat) (a_t_foundOtherwise : Nat) (c_t_acts : Int32) (c_t_refusals : Int32) (c_t_knocks : Int32) (c_t_row_taps : Int64) (c_t_row_cells : Int64) (hF : F_X7_rowText c_t_row_taps c_t_row_cells = some ()) : Met l yX7_rowText wsX7_rowText rmX7_rowText (va_Pc [.ref a_t] (wPDT D [(cyJ, .long), (cyB, .byte)] [(a_t, .inr (6, [.ref a_t_forms, .ref a_t_roll, .ref a_t_row, .ref a_t_rows, .ref a_t_factors, .ref a_t_found, .ref a_t_foundOtherwise, .int c_t_acts, .int c_t_refusals, .int c_t_knocks])), (a_t_row, .inr (5, [.long c_t_row_taps, .long c_t_row_cells]))] adK adV sz)) (va_Qr (fun (_ : Unit) => True) (fun u r t => wQA D [(a_t, .inr (6, [.ref a_t_forms, .ref a_t_roll, .ref a_t_row, .ref a_t_rows, .ref a_t_factors, .ref a_t_found, .ref a_t_foundOtherwise, .int c_t_acts, .int c_t_refusals, .int c_t_knocks])), (a_t_row, .inr (5, [.long c_t_row_taps, .long c_t_row_cells]))] (va_A [(a_t, .inr (6, [.ref a_t_forms, .ref a_t_roll, .ref a_t_row, .ref a_t_rows, .ref a_t_factors, .ref a_t_found, .ref a_t_foundOtherwise, .int c_t_acts, .int c_t_refusals, .int c_t_knocks])), (a_t_row, .inr (5, [.long c_t_row_taps, .long c_t_row_cells]))] sz) t) (va_A [(a_t, .inr (6, [.ref a_t_forms, .ref a_t_roll, .ref a_t_row, .ref a_t_rows, .ref a_t_factors, .ref a_t_found, .ref a_t_foundOtherwise, .int c_t_acts, .int c_t_refusals, .int c_t_knocks])), (a_t_row, .inr (5, [.long c_t_row_taps, .long c_t_row_cells]))] sz)) 70 20408 (va_A [(a_t, .inr (6, [.ref a_t_forms, .ref a_t_roll, .ref a_t_row, .ref a_t_rows, .ref a_t_factors, .ref a_t_found, .ref a_t_foundOtherwise, .int c_t_acts, .int c_t_refusals, .int c_t_knocks])), (a_t_row, .inr (5, [.long c_t_row_taps, .long c_t_row_cells]))] sz) := by
  refine Met.ofW (cc := cX7_rowText) (maxL := 1) (ret := (some (.object "java/lang/String"))) (by decide) rfl ?_
  intro p e s m args below meth c s₁ B hml hv
  obtain ⟨rfl, ⟨⟨hsz, hP, hK, hD0, hnw⟩, hT⟩⟩ := hv
  have hx := B.exec
  have hb := B.bytes
  have hr := B.returns
  have hts := atoms_spec (ws := wsX7_rowText) B.pre
  have hown : s.vm.findClass RX7 = some m.cls := findClass_of_methodNamed B.named
  have hlocks := B.notSynchronized
  have hcf : CallFix _ _ _ _ _ _ _ _ _ := ⟨hx, hb, hml, hown, hts⟩
  have hinX7 : ∀ w ∈ u_ws RX7 TX7 10, w ∈ wsX7_rowText := by decide +kernel
  have hfl23 := hts (.fieldLink RX7 23 "Formwheel" "row" "LFormwheel$ShiftRow;") (by decide +kernel)
  subst hsz
  have hD := hD0.self (sz := s.heap.size)
  generalize hAe : va_A [(a_t, .inr (6, [.ref a_t_forms, .ref a_t_roll, .ref a_t_row, .ref a_t_rows, .ref a_t_factors, .ref a_t_found, .ref a_t_foundOtherwise, .int c_t_acts, .int c_t_refusals, .int c_t_knocks])), (a_t_row, .inr (5, [.long c_t_row_taps, .long c_t_row_cells]))] s.heap.size = A at hD hT ⊢
  have hA : ∀ q : Nat, s.heap.size ≤ q → A q := fun q h => by rw [← hAe]; exact Or.inr h
  have hS : va_S A s.heap s.heap [] := va_S.rf
  have hP : va_P D vwCl [(a_t, .inr (6, [.ref a_t_forms, .ref a_t_roll, .ref a_t_row, .ref a_t_rows, .ref a_t_factors, .ref a_t_found, .ref a_t_foundOtherwise, .int c_t_acts, .int c_t_refusals, .int c_t_knocks])), (a_t_row, .inr (5, [.long c_t_row_taps, .long c_t_row_cells]))] s.heap := hP
  have hK0 := hK
  have hcB : s.vm.findClass "[B" = some cyB := (hK.2 1 _ rfl).2
  have hl := lv_entry ([.ref a_t]) (n := 1) (Nat.le_of_ble_eq_true rfl)
  rw [lg_entry_eq]
  generalize (lg_sl ([.ref a_t]) ++ List.replicate (1 - (lg_sl ([.ref a_t])).length) Slot.unset).toArray = ls at hl ⊢
  have hl : lv_has ls 1 [(0, .ref a_t)] := hl
  have h := hF
  clear hF
  unfold F_X7_rowText at h
  refine lv_aload_n hx hb dX7_rowText_0 rfl (lv_at hl 0 rfl) ?_
  refine va_get (D := D) (ci := 6) (v := .ref a_t_row) (C := RX7) (T := TX7) (N := 10) hx hb hts hinX7 hown hK hP 0 rfl rfl 2 (by decide) hfl23 (fun _ h9 => h9) rfl dX7_rowText_1 ?_
  obtain ⟨u4, hc4, h⟩ := obn_h h
  have hPc := hP.sub (ws' := [(a_t_row, .inr (5, [.long c_t_row_taps, .long c_t_row_cells]))]) [1] rfl
  have hDc := hD.sub (ws' := [(a_t_row, .inr (5, [.long c_t_row_taps, .long c_t_row_cells]))]) [1] (by decide) rfl
  refine hp_r (wr := [(a_t, .inr (6, [.ref a_t_forms, .ref a_t_roll, .ref a_t_row, .ref a_t_rows, .ref a_t_factors, .ref a_t_found, .ref a_t_foundOtherwise, .int c_t_acts, .int c_t_refusals, .int c_t_knocks]))]) (va_runV (As := []) (rest := []) hcf (c_X5_cellDigits l D cyJ cyB adK adV s.heap.size a_t_row c_t_row_taps c_t_row_cells hc4) (cwV 0 hts gX7_rowText_X5_cellDigits rfl rfl rfl ydX5_cellDigits ⟨Nat.le_of_ble_eq_true rfl, Nat.le_of_ble_eq_true rfl⟩) ⟨bl_PDT, (va_recv hK hP (ci := 5) (q0 := 1) rfl rfl), pr_PDT hPc hK0 hDc hnw hT hS (va_free hD hS hA [1] rfl)⟩ rfl rfl hl.1 rfl (lv_room (Nat.le_of_ble_eq_true rfl)) dX7_rowText_4 ⟨Nat.le_of_ble_eq_true rfl, Nat.le_of_ble_eq_true rfl⟩) hP hD hS hA [1] [0] rfl rfl (by decide) (by decide) (fun u4 b_ret4_4 H locs hP hD hS => ?_)
  have hP : va_P D vwCl [(a_t, .inr (6, [.ref a_t_forms, .ref a_t_roll, .ref a_t_row, .ref a_t_rows, .ref a_t_factors, .ref a_t_found, .ref a_t_foundOtherwise, .int c_t_acts, .int c_t_refusals, .int c_t_knocks])), (a_t_row, .inr (5, [.long c_t_row_taps, .long c_t_row_cells]))] H := hP
  have hD : va_D A [(a_t, .inr (6, [.ref a_t_forms, .ref a_t_roll, .ref a_t_row, .ref a_t_rows, .ref a_t_factors, .ref a_t_found, .ref a_t_foundOtherwise, .int c_t_acts, .int c_t_refusals, .int c_t_knocks])), (a_t_row, .inr (5, [.long c_t_row_taps, .long c_t_row_cells]))] := hD
  have hP9 : va_P D vwCl [(a_t, .inr (6, [.ref a_t_forms, .ref a_t_roll, .ref a_t_row, .ref a_t_rows, .ref a_t_factors, .ref a_t_found, .ref a_t_foundOtherwise, .int c_t_acts, .int c_t_refusals, .int c_t_knocks])), (a_t_row, .inr (5, [.long c_t_row_taps, .long c_t_row_cells]))] H := hP.sub [0, 1] rfl
  have hD9 : va_D A [(a_t, .inr (6, [.ref a_t_forms, .ref a_t_roll, .ref a_t_row, .ref a_t_rows, .ref a_t_factors, .ref a_t_found, .ref a_t_foundOtherwise, .int c_t_acts, .int c_t_refusals, .int c_t_knocks])), (a_t_row, .inr (5, [.long c_t_row_taps, .long c_t_row_cells]))] := hD.sub [0, 1] (by decide) rfl
  exact W.aret (v := .ref b_ret4_4) hx hb hr (Or.inl ⟨_, rfl⟩) (Or.inr ⟨_, rfl⟩) (fun t ht hW => ⟨⟨(), b_ret4_4, rfl, trivial, wQA_of ht hP9 hD9⟩, hS.F ht⟩) hS.2.2 dX7_rowText_7

noncomputable abbrev rmX7_again : Room := { frames := 4, cells := 0, slots := 0, locals := 95 }
theorem ydX7_again : yX7_again.cls = RX7 ∧ yX7_again.cls ≠ "java/lang/invoke/MethodHandle" ∧ yX7_again.cls ≠ "java/lang/invoke/VarHandle" ∧ (parseMethodDescriptor yX7_again.desc).map (fun d => d.parameters.length) = some 0 := by decide +kernel
noncomputable def F_X7_again (c_t_row_taps : Int64) (c_t_row_cells : Int64) : Option (Int32) :=
 obn (F_X5_stepsTillSame c_t_row_cells c_t_row_taps) (fun r14 =>
 some r14)
set_option maxHeartbeats 4000000 in
set_option maxRecDepth 100000 in
theorem c_X7_again (l : Launch) (D : va_G) (cyJ : ClassId) (a_t : Nat) (a_t_forms : Nat) (a_t_roll : Nat) (a_t_row : Nat) (a_t_rows : Nat) (a_t_factors : Nat) (a_t_found : Nat) (a_t_foundOtherwise : Nat) (c_t_acts : Int32) (c_t_refusals : Int32) (c_t_knocks : Int32) (c_t_row_taps : Int64) (c_t_row_cells : Int64) (r0 : Int32) (hF : F_X7_again c_t_row_taps c_t_row_cells = some r0) : Met l yX7_again wsX7_again rmX7_again (va_Pc [.ref a_t] (wPK D [(cyJ, .long)] [(a_t, .inr (6, [.ref a_t_forms, .ref a_t_roll, .ref a_t_row, .ref a_t_rows, .ref a_t_factors, .ref a_t_found, .ref a_t_foundOtherwise, .int c_t_acts, .int c_t_refusals, .int c_t_knocks])), (a_t_row, .inr (5, [.long c_t_row_taps, .long c_t_row_cells]))])) (k2_QcV (.int r0)) 0 0 (fun _ => False) := by
  refine Met.ofW (cc := cX7_again) (maxL := 1) (ret := (some .int)) (by decide) rfl ?_
  intro p e s m args below meth c s₁ B hml hv
  obtain ⟨rfl, hP, hK, hnw⟩ := hv
  have hx := B.exec
  have hb := B.bytes
  have hr := B.returns
  have hts := atoms_spec (ws := wsX7_again) B.pre
  have hown : s.vm.findClass RX7 = some m.cls := findClass_of_methodNamed B.named
  have hlocks := B.notSynchronized
  have hcf : CallFix _ _ _ _ _ _ _ _ _ := ⟨hx, hb, hml, hown, hts⟩
  have hinX7 : ∀ w ∈ u_ws RX7 TX7 10, w ∈ wsX7_again := by decide +kernel
  have hfl23 := hts (.fieldLink RX7 23 "Formwheel" "row" "LFormwheel$ShiftRow;") (by decide +kernel)
  have hinX5 : ∀ w ∈ u_ws RX5 TX5 2, w ∈ wsX7_again := by decide +kernel
  have hfl224 := hnw.use (A := ([.ref a_t] : List Value).toArray) (w := .fieldLinkNest RX7 224 "Formwheel$ShiftRow" "cells" "J" "Formwheel") (by decide +kernel)
  have hfl218 := hnw.use (A := ([.ref a_t] : List Value).toArray) (w := .fieldLinkNest RX7 218 "Formwheel$ShiftRow" "taps" "J" "Formwheel") (by decide +kernel)
  have hK0 := hK
  have hl := lv_entry ([.ref a_t]) (n := 1) (Nat.le_of_ble_eq_true rfl)
  rw [lg_entry_eq]
  generalize (lg_sl ([.ref a_t]) ++ List.replicate (1 - (lg_sl ([.ref a_t])).length) Slot.unset).toArray = ls at hl ⊢
  have hl : lv_has ls 1 [(0, .ref a_t)] := hl
  have h := hF
  clear hF
  unfold F_X7_again at h
  refine lv_aload_n hx hb dX7_again_0 rfl (lv_at hl 0 rfl) ?_
  refine va_get (D := D) (ci := 6) (v := .ref a_t_row) (C := RX7) (T := TX7) (N := 10) hx hb hts hinX7 hown hK hP 0 rfl rfl 2 (by decide) hfl23 (fun _ h9 => h9) rfl dX7_again_1 ?_
  refine va_getN (D := D) (ci := 5) (v := .long c_t_row_cells) (C := RX5) (T := TX5) (N := 2) hx hb hts hinX5 hown hK hP 1 rfl rfl 1 (by decide) hfl224 (fun _ h9 => h9) rfl dX7_again_4 ?_
  refine lv_aload_n hx hb dX7_again_7 rfl (lv_at hl 0 rfl) ?_
  refine va_get (D := D) (ci := 6) (v := .ref a_t_row) (C := RX7) (T := TX7) (N := 10) hx hb hts hinX7 hown hK hP 0 rfl rfl 2 (by decide) hfl23 (fun _ h9 => h9) rfl dX7_again_8 ?_
  refine va_getN (D := D) (ci := 5) (v := .long c_t_row_taps) (C := RX5) (T := TX5) (N := 2) hx hb hts hinX5 hown hK hP 1 rfl rfl 0 (by decide) hfl218 (fun _ h9 => h9) rfl dX7_again_11 ?_
  obtain ⟨r14, hc14, h⟩ := obn_h h
  refine pz_callS (As := [.long c_t_row_cells, .long c_t_row_taps]) (rest := []) hcf (c_X5_stepsTillSame l c_t_row_cells c_t_row_taps r14 hc14) (va_cwS 2 hts gX7_again_X5_stepsTillSame rfl rfl rfl ydX5_stepsTillSame ⟨Nat.le_of_ble_eq_true rfl, Nat.le_of_ble_eq_true rfl⟩) hnw rfl hl.1 rfl (Nat.le_of_ble_eq_true rfl) dX7_again_14 ⟨Nat.le_of_ble_eq_true rfl, Nat.le_of_ble_eq_true rfl⟩ ?_
  have e1 := Option.some.inj h
  subst e1
  exact W.iret hx hb hr (fun t ht _ => ⟨rfl, ht⟩) no_q dX7_again_17

noncomputable abbrev rmX7_onesOfAll : Room := { frames := 2, cells := 0, slots := 0, locals := 42 }
theorem ydX7_onesOfAll : yX7_onesOfAll.cls = RX7 ∧ yX7_onesOfAll.cls ≠ "java/lang/invoke/MethodHandle" ∧ yX7_onesOfAll.cls ≠ "java/lang/invoke/VarHandle" ∧ (parseMethodDescriptor yX7_onesOfAll.desc).map (fun d => d.parameters.length) = some 0 := by decide +kernel
noncomputable def S_X7_onesOfAll_4 (f_t_forms_z4 : Nat → Int64) (k28 : Int32 → Option (Int32)) (ih4 : Int32 → Int32 → Option (Int32)) (y1_4 : Int32) (y2_4 : Int32) : Option (Int32) :=
 (if (6 : Int32) ≤ y2_4 then
 k28 y1_4
else
 chk (¬ (y2_4 < 0 ∨ 6 ≤ y2_4.toNatClampNeg)) (
 obn (F_X0_onesOf (f_t_forms_z4 y2_4.toNatClampNeg)) (fun r17 =>
 bnd (y1_4 + r17) (fun x1_21 =>
 bnd (y2_4 + 1) (fun x2_22 =>
 ih4 x1_21 x2_22)))))
noncomputable def F_X7_onesOfAll (f_t_forms : Nat → Int64) : Option (Int32) :=
 LQ2 (S_X7_onesOfAll_4 f_t_forms (fun y1_4_28 =>
 some y1_4_28)) 20000 (0 : Int32) (0 : Int32)
set_option maxHeartbeats 4000000 in
set_option maxRecDepth 100000 in
theorem c_X7_onesOfAll (l : Launch) (D : va_G) (cyJ : ClassId) (a_t : Nat) (a_t_forms : Nat) (a_t_roll : Nat) (a_t_row : Nat) (a_t_rows : Nat) (a_t_factors : Nat) (a_t_found : Nat) (a_t_foundOtherwise : Nat) (c_t_acts : Int32) (c_t_refusals : Int32) (c_t_knocks : Int32) (f_t_forms : Nat → Int64) (r0 : Int32) (hF : F_X7_onesOfAll f_t_forms = some r0) : Met l yX7_onesOfAll wsX7_onesOfAll rmX7_onesOfAll (va_Pc [.ref a_t] (wPK D [(cyJ, .long)] [(a_t, .inr (6, [.ref a_t_forms, .ref a_t_roll, .ref a_t_row, .ref a_t_rows, .ref a_t_factors, .ref a_t_found, .ref a_t_foundOtherwise, .int c_t_acts, .int c_t_refusals, .int c_t_knocks])), (a_t_forms, .inl (cyJ, 6, .inr (.inl f_t_forms)))])) (k2_QcV (.int r0)) 0 0 (fun _ => False) := by
  refine Met.ofW (cc := cX7_onesOfAll) (maxL := 3) (ret := (some .int)) (by decide) rfl ?_
  intro p e s m args below meth c s₁ B hml hv
  obtain ⟨rfl, hP, hK, hnw⟩ := hv
  have hx := B.exec
  have hb := B.bytes
  have hr := B.returns
  have hts := atoms_spec (ws := wsX7_onesOfAll) B.pre
  have hown : s.vm.findClass RX7 = some m.cls := findClass_of_methodNamed B.named
  have hlocks := B.notSynchronized
  have hcf : CallFix _ _ _ _ _ _ _ _ _ := ⟨hx, hb, hml, hown, hts⟩
  have hinX7 : ∀ w ∈ u_ws RX7 TX7 10, w ∈ wsX7_onesOfAll := by decide +kernel
  have hfl9 := hts (.fieldLink RX7 9 "Formwheel" "forms" "[J") (by decide +kernel)
  have hK0 := hK
  have hl := lv_entry ([.ref a_t]) (n := 3) (Nat.le_of_ble_eq_true rfl)
  rw [lg_entry_eq]
  generalize (lg_sl ([.ref a_t]) ++ List.replicate (3 - (lg_sl ([.ref a_t])).length) Slot.unset).toArray = ls at hl ⊢
  have hl : lv_has ls 3 [(0, .ref a_t)] := hl
  have h := hF
  clear hF
  unfold F_X7_onesOfAll at h
  refine lv_iconst (v := 0) hx hb dX7_onesOfAll_0 (by decide) ?_
  refine lv_istore_n (lv' := [(1, .int (0 : Int32)), (0, .ref a_t)]) hx hb dX7_onesOfAll_1 rfl hl (by decide) rfl (fun ls hl => ?_)
  refine lv_iconst (v := 0) hx hb dX7_onesOfAll_2 (by decide) ?_
  refine lv_istore_n (lv' := [(2, .int (0 : Int32)), (1, .int (0 : Int32)), (0, .ref a_t)]) hx hb dX7_onesOfAll_3 rfl hl (by decide) rfl (fun ls hl => ?_)
  refine LQ2_k1 (M := fun (y1_4 : Int32) (y2_4 : Int32) => ∀ (ls : Array Slot), lv_has ls 3 [(0, .ref a_t), (1, .int y1_4), (2, .int y2_4)] → W p l e rmX7_onesOfAll s m ([.ref a_t] : List Value).toArray below meth c s.heap [] 0 0 (MQ below (k2_QcV (.int r0)) ([.ref a_t] : List Value).toArray s 0 0 (fun _ => False)) (F0 m 4 ls [])) ?_ _ _ _ h ls (lv_sub hl [2, 1, 0] rfl)
  intro k28 hk28 ih4 hih4 y1_4 y2_4 h ls hl
  unfold S_X7_onesOfAll_4 at h
  refine lv_iload_n hx hb dX7_onesOfAll_4 rfl (lv_at hl 2 rfl) ?_
  refine lv_bipush (v := 6) hx hb dX7_onesOfAll_5 (by decide) ?_
  refine lv_icmp_ge (tgt := 28) hx hb dX7_onesOfAll_7 (by decide) (fun c7 => ?_) (fun c7 => ?_)
  · have h := it_ c7 h
    rw [hk28] at h
    refine lv_iload_n hx hb dX7_onesOfAll_28 rfl (lv_at hl 1 rfl) ?_
    have e1 := Option.some.inj h
    subst e1
    exact W.iret hx hb hr (fun t ht _ => ⟨rfl, ht⟩) no_q dX7_onesOfAll_29
  · have h := if_ c7 h
    refine lv_iload_n hx hb dX7_onesOfAll_10 rfl (lv_at hl 1 rfl) ?_
    refine lv_aload_n hx hb dX7_onesOfAll_11 rfl (lv_at hl 0 rfl) ?_
    refine va_get (D := D) (ci := 6) (v := .ref a_t_forms) (C := RX7) (T := TX7) (N := 10) hx hb hts hinX7 hown hK hP 0 rfl rfl 0 (by decide) hfl9 (fun _ h9 => h9) rfl dX7_onesOfAll_12 ?_
    refine lv_iload_n hx hb dX7_onesOfAll_15 rfl (lv_at hl 2 rfl) ?_
    obtain ⟨hq16, h⟩ := chk_h h
    refine va_lald hx hb hK hP 1 0 rfl rfl hq16 dX7_onesOfAll_16 ?_
    obtain ⟨r17, hc17, h⟩ := obn_h h
    refine pz_callS (As := [.long (f_t_forms y2_4.toNatClampNeg)]) (rest := [.int y1_4]) hcf (c_X0_onesOf l (f_t_forms y2_4.toNatClampNeg) r17 hc17) (va_cwS 1 hts gX7_onesOfAll_X0_onesOf rfl rfl rfl ydX0_onesOf ⟨Nat.le_of_ble_eq_true rfl, Nat.le_of_ble_eq_true rfl⟩) hnw rfl hl.1 rfl (Nat.le_of_ble_eq_true rfl) dX7_onesOfAll_17 ⟨Nat.le_of_ble_eq_true rfl, Nat.le_of_ble_eq_true rfl⟩ ?_
    refine lv_iadd hx hb dX7_onesOfAll_20 ?_
    refine lv_topi (fun x1_21 e_x1_21 => ?_)
    have h := bnd_h e_x1_21 h
    refine lv_istore_n (lv' := [(1, .int x1_21), (0, .ref a_t), (2, .int y2_4)]) hx hb dX7_onesOfAll_21 rfl hl (by decide) rfl (fun ls hl => ?_)
    obtain ⟨x2_22, e_x2_22⟩ : ∃ z : Int32, z = y2_4 + 1 := ⟨_, rfl⟩
    have h := bnd_h e_x2_22 h
    refine lv_iinc (v := x2_22) (lv' := [(2, .int x2_22), (1, .int x1_21), (0, .ref a_t)]) hx hb dX7_onesOfAll_22 hl (k := 2) rfl (by rw [e_x2_22]; rfl) (by decide) rfl (fun ls hl => ?_)
    refine lv_goto (tgt := 4) hx hb dX7_onesOfAll_25 (by decide) ?_
    exact hih4 x1_21 x2_22 h ls (lv_sub hl [2, 1, 0] rfl)

noncomputable abbrev rmX7_house : Room := { frames := 9, cells := 1, slots := 6, locals := 122 }
theorem ydX7_house : yX7_house.cls = RX7 ∧ yX7_house.cls ≠ "java/lang/invoke/MethodHandle" ∧ yX7_house.cls ≠ "java/lang/invoke/VarHandle" ∧ (parseMethodDescriptor yX7_house.desc).map (fun d => d.parameters.length) = some 1 := by decide +kernel
noncomputable def F_X7_house (c_t_acts : Int32) (c_t_refusals : Int32) (c_t_knocks : Int32) (f_t_forms : Nat → Int64) (c_t_roll_size : Int32) (c_t_row_taps : Int64) (p0 : Int32) : Option (Nat × Int32) :=
 obn (F_X7_testRange p0 (0 : Int32) (5 : Int32)) (fun xc3 =>
 if xc3 = 0 then
 (if p0 = 0 then
 some (0, c_t_acts)
else
(if p0 = 1 then
 some (0, c_t_refusals)
else
(if p0 = 2 then
 some (0, c_t_knocks)
else
(if p0 = 3 then
 some (0, c_t_roll_size)
else
(if p0 = 4 then
 some (0, c_t_row_taps.toInt32)
else
obn (F_X7_onesOfAll f_t_forms) (fun r73 =>
 some (0, r73)))))))
else
 some (xc3, 0))
set_option maxHeartbeats 4000000 in
set_option maxRecDepth 100000 in
theorem c_X7_house (l : Launch) (hfl : l.stackTraces = false) (D : va_G) (cyJ : ClassId) (sz : Nat) (a_t : Nat) (a_t_forms : Nat) (a_t_roll : Nat) (a_t_row : Nat) (a_t_rows : Nat) (a_t_factors : Nat) (a_t_found : Nat) (a_t_foundOtherwise : Nat) (a_t_roll_held : Nat) (a_t_roll_before : Nat) (c_t_acts : Int32) (c_t_refusals : Int32) (c_t_knocks : Int32) (f_t_forms : Nat → Int64) (c_t_roll_size : Int32) (c_t_row_taps : Int64) (c_t_row_cells : Int64) (p0 : Int32) (xc : Nat) (r0 : Int32) (hF : F_X7_house c_t_acts c_t_refusals c_t_knocks f_t_forms c_t_roll_size c_t_row_taps p0 = some (xc, r0)) : vx_Met l yX7_house wsX7_house rmX7_house (va_Pc [.ref a_t, .int p0] (wPX D [(cyJ, .long)] [(a_t, .inr (6, [.ref a_t_forms, .ref a_t_roll, .ref a_t_row, .ref a_t_rows, .ref a_t_factors, .ref a_t_found, .ref a_t_foundOtherwise, .int c_t_acts, .int c_t_refusals, .int c_t_knocks])), (a_t_forms, .inl (cyJ, 6, .inr (.inl f_t_forms))), (a_t_roll, .inr (3, [.ref a_t_roll_held, .ref a_t_roll_before, .int c_t_roll_size])), (a_t_row, .inr (5, [.long c_t_row_taps, .long c_t_row_cells]))] sz)) (va_Qi (fun (r : Int32) (_ : Unit) => xc = 0 ∧ r = r0) (fun _ t => wQA D [(a_t, .inr (6, [.ref a_t_forms, .ref a_t_roll, .ref a_t_row, .ref a_t_rows, .ref a_t_factors, .ref a_t_found, .ref a_t_foundOtherwise, .int c_t_acts, .int c_t_refusals, .int c_t_knocks])), (a_t_forms, .inl (cyJ, 6, .inr (.inl f_t_forms))), (a_t_roll, .inr (3, [.ref a_t_roll_held, .ref a_t_roll_before, .int c_t_roll_size])), (a_t_row, .inr (5, [.long c_t_row_taps, .long c_t_row_cells]))] (va_A [(a_t, .inr (6, [.ref a_t_forms, .ref a_t_roll, .ref a_t_row, .ref a_t_rows, .ref a_t_factors, .ref a_t_found, .ref a_t_foundOtherwise, .int c_t_acts, .int c_t_refusals, .int c_t_knocks])), (a_t_forms, .inl (cyJ, 6, .inr (.inl f_t_forms))), (a_t_roll, .inr (3, [.ref a_t_roll_held, .ref a_t_roll_before, .int c_t_roll_size])), (a_t_row, .inr (5, [.long c_t_row_taps, .long c_t_row_cells]))] sz) t) (va_A [(a_t, .inr (6, [.ref a_t_forms, .ref a_t_roll, .ref a_t_row, .ref a_t_rows, .ref a_t_factors, .ref a_t_found, .ref a_t_foundOtherwise, .int c_t_acts, .int c_t_refusals, .int c_t_knocks])), (a_t_forms, .inl (cyJ, 6, .inr (.inl f_t_forms))), (a_t_roll, .inr (3, [.ref a_t_roll_held, .ref a_t_roll_before, .int c_t_roll_size])), (a_t_row, .inr (5, [.long c_t_row_taps, .long c_t_row_cells]))] sz)) (vx_X (fun (_ : Unit) => ¬ xc = 0) (fun E _ t => E = xcls xc ∧ wQA D [(a_t, .inr (6, [.ref a_t_forms, .ref a_t_roll, .ref a_t_row, .ref a_t_rows, .ref a_t_factors, .ref a_t_found, .ref a_t_foundOtherwise, .int c_t_acts, .int c_t_refusals, .int c_t_knocks])), (a_t_forms, .inl (cyJ, 6, .inr (.inl f_t_forms))), (a_t_roll, .inr (3, [.ref a_t_roll_held, .ref a_t_roll_before, .int c_t_roll_size])), (a_t_row, .inr (5, [.long c_t_row_taps, .long c_t_row_cells]))] (va_A [(a_t, .inr (6, [.ref a_t_forms, .ref a_t_roll, .ref a_t_row, .ref a_t_rows, .ref a_t_factors, .ref a_t_found, .ref a_t_foundOtherwise, .int c_t_acts, .int c_t_refusals, .int c_t_knocks])), (a_t_forms, .inl (cyJ, 6, .inr (.inl f_t_forms))), (a_t_roll, .inr (3, [.ref a_t_roll_held, .ref a_t_roll_before, .int c_t_roll_size])), (a_t_row, .inr (5, [.long c_t_row_taps, .long c_t_row_cells]))] sz) t) (va_A [(a_t, .inr (6, [.ref a_t_forms, .ref a_t_roll, .ref a_t_row, .ref a_t_rows, .ref a_t_factors, .ref a_t_found, .ref a_t_foundOtherwise, .int c_t_acts, .int c_t_refusals, .int c_t_knocks])), (a_t_forms, .inl (cyJ, 6, .inr (.inl f_t_forms))), (a_t_roll, .inr (3, [.ref a_t_roll_held, .ref a_t_roll_before, .int c_t_roll_size])), (a_t_row, .inr (5, [.long c_t_row_taps, .long c_t_row_cells]))] sz)) 1 6 (va_A [(a_t, .inr (6, [.ref a_t_forms, .ref a_t_roll, .ref a_t_row, .ref a_t_rows, .ref a_t_factors, .ref a_t_found, .ref a_t_foundOtherwise, .int c_t_acts, .int c_t_refusals, .int c_t_knocks])), (a_t_forms, .inl (cyJ, 6, .inr (.inl f_t_forms))), (a_t_roll, .inr (3, [.ref a_t_roll_held, .ref a_t_roll_before, .int c_t_roll_size])), (a_t_row, .inr (5, [.long c_t_row_taps, .long c_t_row_cells]))] sz) := by
  refine vx_ofW (cc := cX7_house) (maxL := 2) (ret := (some .int)) (by decide) rfl ?_
  intro p e s m args below meth c s₁ B hml hxt hv
  obtain ⟨rfl, ⟨⟨hsz, hP, hK, hD0, hnw⟩, hE⟩⟩ := hv
  have hx := B.exec
  have hb := B.bytes
  have hr := B.returns
  have hts := atoms_spec (ws := wsX7_house) B.pre
  have hown : s.vm.findClass RX7 = some m.cls := findClass_of_methodNamed B.named
  have hlocks := B.notSynchronized
  have hcf : CallFix _ _ _ _ _ _ _ _ _ := ⟨hx, hb, hml, hown, hts⟩
  have hinX7 : ∀ w ∈ u_ws RX7 TX7 10, w ∈ wsX7_house := by decide +kernel
  have hfl47 := hts (.fieldLink RX7 47 "Formwheel" "acts" "I") (by decide +kernel)
  have hfl51 := hts (.fieldLink RX7 51 "Formwheel" "refusals" "I") (by decide +kernel)
  have hfl54 := hts (.fieldLink RX7 54 "Formwheel" "knocks" "I") (by decide +kernel)
  have hfl16 := hts (.fieldLink RX7 16 "Formwheel" "roll" "LFormwheel$Roll;") (by decide +kernel)
  have hinX3 : ∀ w ∈ u_ws RX3 TX3 3, w ∈ wsX7_house := by decide +kernel
  have hfl176 := hnw.use (A := ([.ref a_t, .int p0] : List Value).toArray) (w := .fieldLinkNest RX7 176 "Formwheel$Roll" "size" "I" "Formwheel") (by decide +kernel)
  have hfl23 := hts (.fieldLink RX7 23 "Formwheel" "row" "LFormwheel$ShiftRow;") (by decide +kernel)
  have hinX5 : ∀ w ∈ u_ws RX5 TX5 2, w ∈ wsX7_house := by decide +kernel
  have hfl218 := hnw.use (A := ([.ref a_t, .int p0] : List Value).toArray) (w := .fieldLinkNest RX7 218 "Formwheel$ShiftRow" "taps" "J" "Formwheel") (by decide +kernel)
  subst hsz
  have hD := hD0.self (sz := s.heap.size)
  generalize hAe : va_A [(a_t, .inr (6, [.ref a_t_forms, .ref a_t_roll, .ref a_t_row, .ref a_t_rows, .ref a_t_factors, .ref a_t_found, .ref a_t_foundOtherwise, .int c_t_acts, .int c_t_refusals, .int c_t_knocks])), (a_t_forms, .inl (cyJ, 6, .inr (.inl f_t_forms))), (a_t_roll, .inr (3, [.ref a_t_roll_held, .ref a_t_roll_before, .int c_t_roll_size])), (a_t_row, .inr (5, [.long c_t_row_taps, .long c_t_row_cells]))] s.heap.size = A at hD hE ⊢
  have hA : ∀ q : Nat, s.heap.size ≤ q → A q := fun q h => by rw [← hAe]; exact Or.inr h
  have hS : va_S A s.heap s.heap [] := va_S.rf
  have hP : va_P D vwCl [(a_t, .inr (6, [.ref a_t_forms, .ref a_t_roll, .ref a_t_row, .ref a_t_rows, .ref a_t_factors, .ref a_t_found, .ref a_t_foundOtherwise, .int c_t_acts, .int c_t_refusals, .int c_t_knocks])), (a_t_forms, .inl (cyJ, 6, .inr (.inl f_t_forms))), (a_t_roll, .inr (3, [.ref a_t_roll_held, .ref a_t_roll_before, .int c_t_roll_size])), (a_t_row, .inr (5, [.long c_t_row_taps, .long c_t_row_cells]))] s.heap := hP
  have hK0 := hK
  have hl := lv_entry ([.ref a_t, .int p0]) (n := 2) (Nat.le_of_ble_eq_true rfl)
  rw [lg_entry_eq]
  generalize (lg_sl ([.ref a_t, .int p0]) ++ List.replicate (2 - (lg_sl ([.ref a_t, .int p0])).length) Slot.unset).toArray = ls at hl ⊢
  have hl : lv_has ls 2 [(0, .ref a_t), (1, .int p0)] := hl
  have h := hF
  clear hF
  unfold F_X7_house at h
  refine lv_iload_n hx hb dX7_house_0 rfl (lv_at hl 1 rfl) ?_
  refine lv_iconst (v := 0) hx hb dX7_house_1 (by decide) ?_
  refine lv_iconst (v := 5) hx hb dX7_house_2 (by decide) ?_
  obtain ⟨xc3, hc3, h⟩ := obn_h h
  have hPc := hP.sub (ws' := []) [] rfl
  have hDc := hD.sub (ws' := []) [] (by decide) rfl
  refine hx_v (w1 := []) (wr := [(a_t, .inr (6, [.ref a_t_forms, .ref a_t_roll, .ref a_t_row, .ref a_t_rows, .ref a_t_factors, .ref a_t_found, .ref a_t_foundOtherwise, .int c_t_acts, .int c_t_refusals, .int c_t_knocks])), (a_t_forms, .inl (cyJ, 6, .inr (.inl f_t_forms))), (a_t_roll, .inr (3, [.ref a_t_roll_held, .ref a_t_roll_before, .int c_t_roll_size])), (a_t_row, .inr (5, [.long c_t_row_taps, .long c_t_row_cells]))]) (vx_runS (As := [.int p0, .int (0 : Int32), .int (5 : Int32)]) (rest := []) hcf (c_X7_testRange l hfl D cyJ s.heap.size p0 (0 : Int32) (5 : Int32) xc3 hc3) (va_cwS 3 hts gX7_house_X7_testRange rfl rfl rfl ydX7_testRange ⟨Nat.le_of_ble_eq_true rfl, Nat.le_of_ble_eq_true rfl⟩) ⟨bl_PX, pr_PX hPc hK0 hDc hnw hE hS (va_free hD hS hA [] rfl)⟩ rfl rfl hl.1 rfl (lv_room (Nat.le_of_ble_eq_true rfl)) dX7_house_3 ⟨Nat.le_of_ble_eq_true rfl, Nat.le_of_ble_eq_true rfl⟩) hP hD hS hA [] [0, 1, 2, 3] rfl rfl (by decide) (by decide) (fun E9 ce9 q9 H locs hx9 hE9 hP hD hS hce9 hcv9 hcl9 => ?_) (fun hx9 H locs hP hD hS => ?_)
  · have h := if_ hx9 h
    have hP : va_P D vwCl [(a_t, .inr (6, [.ref a_t_forms, .ref a_t_roll, .ref a_t_row, .ref a_t_rows, .ref a_t_factors, .ref a_t_found, .ref a_t_foundOtherwise, .int c_t_acts, .int c_t_refusals, .int c_t_knocks])), (a_t_forms, .inl (cyJ, 6, .inr (.inl f_t_forms))), (a_t_roll, .inr (3, [.ref a_t_roll_held, .ref a_t_roll_before, .int c_t_roll_size])), (a_t_row, .inr (5, [.long c_t_row_taps, .long c_t_row_cells]))] H := hP
    have hD : va_D A [(a_t, .inr (6, [.ref a_t_forms, .ref a_t_roll, .ref a_t_row, .ref a_t_rows, .ref a_t_factors, .ref a_t_found, .ref a_t_foundOtherwise, .int c_t_acts, .int c_t_refusals, .int c_t_knocks])), (a_t_forms, .inl (cyJ, 6, .inr (.inl f_t_forms))), (a_t_roll, .inr (3, [.ref a_t_roll_held, .ref a_t_roll_before, .int c_t_roll_size])), (a_t_row, .inr (5, [.long c_t_row_taps, .long c_t_row_cells]))] := hD
    obtain ⟨e0, e1⟩ := tup2 h
    subst e0
    subst e1
    have hP9 : va_P D vwCl [(a_t, .inr (6, [.ref a_t_forms, .ref a_t_roll, .ref a_t_row, .ref a_t_rows, .ref a_t_factors, .ref a_t_found, .ref a_t_foundOtherwise, .int c_t_acts, .int c_t_refusals, .int c_t_knocks])), (a_t_forms, .inl (cyJ, 6, .inr (.inl f_t_forms))), (a_t_roll, .inr (3, [.ref a_t_roll_held, .ref a_t_roll_before, .int c_t_roll_size])), (a_t_row, .inr (5, [.long c_t_row_taps, .long c_t_row_cells]))] H := hP.sub [0, 1, 2, 3] rfl
    have hD9 : va_D A [(a_t, .inr (6, [.ref a_t_forms, .ref a_t_roll, .ref a_t_row, .ref a_t_rows, .ref a_t_factors, .ref a_t_found, .ref a_t_foundOtherwise, .int c_t_acts, .int c_t_refusals, .int c_t_knocks])), (a_t_forms, .inl (cyJ, 6, .inr (.inl f_t_forms))), (a_t_roll, .inr (3, [.ref a_t_roll_held, .ref a_t_roll_before, .int c_t_roll_size])), (a_t_row, .inr (5, [.long c_t_row_taps, .long c_t_row_cells]))] := hD.sub [0, 1, 2, 3] (by decide) rfl
    exact vx_out (fun x hx => (hxt x hx).elim) hlocks hce9 hcv9 hcl9 (fun t ht hW => ⟨(), hx9, ⟨hE9, wQA_of ht hP9 hD9⟩, hS.F ht⟩) hS.2.2 (Nat.le_of_ble_eq_true rfl) (Nat.le_of_ble_eq_true rfl)
  · have h := it_ hx9 h
    have hP : va_P D vwCl [(a_t, .inr (6, [.ref a_t_forms, .ref a_t_roll, .ref a_t_row, .ref a_t_rows, .ref a_t_factors, .ref a_t_found, .ref a_t_foundOtherwise, .int c_t_acts, .int c_t_refusals, .int c_t_knocks])), (a_t_forms, .inl (cyJ, 6, .inr (.inl f_t_forms))), (a_t_roll, .inr (3, [.ref a_t_roll_held, .ref a_t_roll_before, .int c_t_roll_size])), (a_t_row, .inr (5, [.long c_t_row_taps, .long c_t_row_cells]))] H := hP
    have hD : va_D A [(a_t, .inr (6, [.ref a_t_forms, .ref a_t_roll, .ref a_t_row, .ref a_t_rows, .ref a_t_factors, .ref a_t_found, .ref a_t_foundOtherwise, .int c_t_acts, .int c_t_refusals, .int c_t_knocks])), (a_t_forms, .inl (cyJ, 6, .inr (.inl f_t_forms))), (a_t_roll, .inr (3, [.ref a_t_roll_held, .ref a_t_roll_before, .int c_t_roll_size])), (a_t_row, .inr (5, [.long c_t_row_taps, .long c_t_row_cells]))] := hD
    refine lv_iload_n hx hb dX7_house_6 rfl (lv_at hl 1 rfl) ?_
    by_cases c7_0 : p0 = 0
    · have h := it_ c7_0 h
      refine lv_tableIn (off := 33) (tgt := 40) hx hb dX7_house_7 (by rw [c7_0]; decide) (by rw [c7_0]; decide) (by rw [c7_0]; rfl) (by decide) ?_
      refine lv_aload_n hx hb dX7_house_40 rfl (lv_at hl 0 rfl) ?_
      refine va_get (D := D) (ci := 6) (v := .int c_t_acts) (C := RX7) (T := TX7) (N := 10) hx hb hts hinX7 hown hK hP 0 rfl rfl 7 (by decide) hfl47 (fun _ h9 => h9) rfl dX7_house_41 ?_
      obtain ⟨e0, e1⟩ := tup2 h
      subst e0
      subst e1
      have hP9 : va_P D vwCl [(a_t, .inr (6, [.ref a_t_forms, .ref a_t_roll, .ref a_t_row, .ref a_t_rows, .ref a_t_factors, .ref a_t_found, .ref a_t_foundOtherwise, .int c_t_acts, .int c_t_refusals, .int c_t_knocks])), (a_t_forms, .inl (cyJ, 6, .inr (.inl f_t_forms))), (a_t_roll, .inr (3, [.ref a_t_roll_held, .ref a_t_roll_before, .int c_t_roll_size])), (a_t_row, .inr (5, [.long c_t_row_taps, .long c_t_row_cells]))] H := hP.sub [0, 1, 2, 3] rfl
      have hD9 : va_D A [(a_t, .inr (6, [.ref a_t_forms, .ref a_t_roll, .ref a_t_row, .ref a_t_rows, .ref a_t_factors, .ref a_t_found, .ref a_t_foundOtherwise, .int c_t_acts, .int c_t_refusals, .int c_t_knocks])), (a_t_forms, .inl (cyJ, 6, .inr (.inl f_t_forms))), (a_t_roll, .inr (3, [.ref a_t_roll_held, .ref a_t_roll_before, .int c_t_roll_size])), (a_t_row, .inr (5, [.long c_t_row_taps, .long c_t_row_cells]))] := hD.sub [0, 1, 2, 3] (by decide) rfl
      refine vx_ret ?_
      exact W.iret hx hb hr (fun t ht hW => ⟨⟨_, (), rfl, ⟨rfl, rfl⟩, wQA_of ht hP9 hD9⟩, hS.F ht⟩) hS.2.2 dX7_house_44
    have h := if_ c7_0 h
    by_cases c7_1 : p0 = 1
    · have h := it_ c7_1 h
      refine lv_tableIn (off := 38) (tgt := 45) hx hb dX7_house_7 (by rw [c7_1]; decide) (by rw [c7_1]; decide) (by rw [c7_1]; rfl) (by decide) ?_
      refine lv_aload_n hx hb dX7_house_45 rfl (lv_at hl 0 rfl) ?_
      refine va_get (D := D) (ci := 6) (v := .int c_t_refusals) (C := RX7) (T := TX7) (N := 10) hx hb hts hinX7 hown hK hP 0 rfl rfl 8 (by decide) hfl51 (fun _ h9 => h9) rfl dX7_house_46 ?_
      obtain ⟨e0, e1⟩ := tup2 h
      subst e0
      subst e1
      have hP9 : va_P D vwCl [(a_t, .inr (6, [.ref a_t_forms, .ref a_t_roll, .ref a_t_row, .ref a_t_rows, .ref a_t_factors, .ref a_t_found, .ref a_t_foundOtherwise, .int c_t_acts, .int c_t_refusals, .int c_t_knocks])), (a_t_forms, .inl (cyJ, 6, .inr (.inl f_t_forms))), (a_t_roll, .inr (3, [.ref a_t_roll_held, .ref a_t_roll_before, .int c_t_roll_size])), (a_t_row, .inr (5, [.long c_t_row_taps, .long c_t_row_cells]))] H := hP.sub [0, 1, 2, 3] rfl
      have hD9 : va_D A [(a_t, .inr (6, [.ref a_t_forms, .ref a_t_roll, .ref a_t_row, .ref a_t_rows, .ref a_t_factors, .ref a_t_found, .ref a_t_foundOtherwise, .int c_t_acts, .int c_t_refusals, .int c_t_knocks])), (a_t_forms, .inl (cyJ, 6, .inr (.inl f_t_forms))), (a_t_roll, .inr (3, [.ref a_t_roll_held, .ref a_t_roll_before, .int c_t_roll_size])), (a_t_row, .inr (5, [.long c_t_row_taps, .long c_t_row_cells]))] := hD.sub [0, 1, 2, 3] (by decide) rfl
      refine vx_ret ?_
      exact W.iret hx hb hr (fun t ht hW => ⟨⟨_, (), rfl, ⟨rfl, rfl⟩, wQA_of ht hP9 hD9⟩, hS.F ht⟩) hS.2.2 dX7_house_49
    have h := if_ c7_1 h
    by_cases c7_2 : p0 = 2
    · have h := it_ c7_2 h
      refine lv_tableIn (off := 43) (tgt := 50) hx hb dX7_house_7 (by rw [c7_2]; decide) (by rw [c7_2]; decide) (by rw [c7_2]; rfl) (by decide) ?_
      refine lv_aload_n hx hb dX7_house_50 rfl (lv_at hl 0 rfl) ?_
      refine va_get (D := D) (ci := 6) (v := .int c_t_knocks) (C := RX7) (T := TX7) (N := 10) hx hb hts hinX7 hown hK hP 0 rfl rfl 9 (by decide) hfl54 (fun _ h9 => h9) rfl dX7_house_51 ?_
      obtain ⟨e0, e1⟩ := tup2 h
      subst e0
      subst e1
      have hP9 : va_P D vwCl [(a_t, .inr (6, [.ref a_t_forms, .ref a_t_roll, .ref a_t_row, .ref a_t_rows, .ref a_t_factors, .ref a_t_found, .ref a_t_foundOtherwise, .int c_t_acts, .int c_t_refusals, .int c_t_knocks])), (a_t_forms, .inl (cyJ, 6, .inr (.inl f_t_forms))), (a_t_roll, .inr (3, [.ref a_t_roll_held, .ref a_t_roll_before, .int c_t_roll_size])), (a_t_row, .inr (5, [.long c_t_row_taps, .long c_t_row_cells]))] H := hP.sub [0, 1, 2, 3] rfl
      have hD9 : va_D A [(a_t, .inr (6, [.ref a_t_forms, .ref a_t_roll, .ref a_t_row, .ref a_t_rows, .ref a_t_factors, .ref a_t_found, .ref a_t_foundOtherwise, .int c_t_acts, .int c_t_refusals, .int c_t_knocks])), (a_t_forms, .inl (cyJ, 6, .inr (.inl f_t_forms))), (a_t_roll, .inr (3, [.ref a_t_roll_held, .ref a_t_roll_before, .int c_t_roll_size])), (a_t_row, .inr (5, [.long c_t_row_taps, .long c_t_row_cells]))] := hD.sub [0, 1, 2, 3] (by decide) rfl
      refine vx_ret ?_
      exact W.iret hx hb hr (fun t ht hW => ⟨⟨_, (), rfl, ⟨rfl, rfl⟩, wQA_of ht hP9 hD9⟩, hS.F ht⟩) hS.2.2 dX7_house_54
    have h := if_ c7_2 h
    by_cases c7_3 : p0 = 3
    · have h := it_ c7_3 h
      refine lv_tableIn (off := 48) (tgt := 55) hx hb dX7_house_7 (by rw [c7_3]; decide) (by rw [c7_3]; decide) (by rw [c7_3]; rfl) (by decide) ?_
      refine lv_aload_n hx hb dX7_house_55 rfl (lv_at hl 0 rfl) ?_
      refine va_get (D := D) (ci := 6) (v := .ref a_t_roll) (C := RX7) (T := TX7) (N := 10) hx hb hts hinX7 hown hK hP 0 rfl rfl 1 (by decide) hfl16 (fun _ h9 => h9) rfl dX7_house_56 ?_
      refine va_getN (D := D) (ci := 3) (v := .int c_t_roll_size) (C := RX3) (T := TX3) (N := 3) hx hb hts hinX3 hown hK hP 2 rfl rfl 2 (by decide) hfl176 (fun _ h9 => h9) rfl dX7_house_59 ?_
      obtain ⟨e0, e1⟩ := tup2 h
      subst e0
      subst e1
      have hP9 : va_P D vwCl [(a_t, .inr (6, [.ref a_t_forms, .ref a_t_roll, .ref a_t_row, .ref a_t_rows, .ref a_t_factors, .ref a_t_found, .ref a_t_foundOtherwise, .int c_t_acts, .int c_t_refusals, .int c_t_knocks])), (a_t_forms, .inl (cyJ, 6, .inr (.inl f_t_forms))), (a_t_roll, .inr (3, [.ref a_t_roll_held, .ref a_t_roll_before, .int c_t_roll_size])), (a_t_row, .inr (5, [.long c_t_row_taps, .long c_t_row_cells]))] H := hP.sub [0, 1, 2, 3] rfl
      have hD9 : va_D A [(a_t, .inr (6, [.ref a_t_forms, .ref a_t_roll, .ref a_t_row, .ref a_t_rows, .ref a_t_factors, .ref a_t_found, .ref a_t_foundOtherwise, .int c_t_acts, .int c_t_refusals, .int c_t_knocks])), (a_t_forms, .inl (cyJ, 6, .inr (.inl f_t_forms))), (a_t_roll, .inr (3, [.ref a_t_roll_held, .ref a_t_roll_before, .int c_t_roll_size])), (a_t_row, .inr (5, [.long c_t_row_taps, .long c_t_row_cells]))] := hD.sub [0, 1, 2, 3] (by decide) rfl
      refine vx_ret ?_
      exact W.iret hx hb hr (fun t ht hW => ⟨⟨_, (), rfl, ⟨rfl, rfl⟩, wQA_of ht hP9 hD9⟩, hS.F ht⟩) hS.2.2 dX7_house_62
    have h := if_ c7_3 h
    by_cases c7_4 : p0 = 4
    · have h := it_ c7_4 h
      refine lv_tableIn (off := 56) (tgt := 63) hx hb dX7_house_7 (by rw [c7_4]; decide) (by rw [c7_4]; decide) (by rw [c7_4]; rfl) (by decide) ?_
      refine lv_aload_n hx hb dX7_house_63 rfl (lv_at hl 0 rfl) ?_
      refine va_get (D := D) (ci := 6) (v := .ref a_t_row) (C := RX7) (T := TX7) (N := 10) hx hb hts hinX7 hown hK hP 0 rfl rfl 2 (by decide) hfl23 (fun _ h9 => h9) rfl dX7_house_64 ?_
      refine va_getN (D := D) (ci := 5) (v := .long c_t_row_taps) (C := RX5) (T := TX5) (N := 2) hx hb hts hinX5 hown hK hP 3 rfl rfl 0 (by decide) hfl218 (fun _ h9 => h9) rfl dX7_house_67 ?_
      refine lv_l2i (v := c_t_row_taps.toInt32) hx hb dX7_house_70 rfl ?_
      obtain ⟨e0, e1⟩ := tup2 h
      subst e0
      subst e1
      have hP9 : va_P D vwCl [(a_t, .inr (6, [.ref a_t_forms, .ref a_t_roll, .ref a_t_row, .ref a_t_rows, .ref a_t_factors, .ref a_t_found, .ref a_t_foundOtherwise, .int c_t_acts, .int c_t_refusals, .int c_t_knocks])), (a_t_forms, .inl (cyJ, 6, .inr (.inl f_t_forms))), (a_t_roll, .inr (3, [.ref a_t_roll_held, .ref a_t_roll_before, .int c_t_roll_size])), (a_t_row, .inr (5, [.long c_t_row_taps, .long c_t_row_cells]))] H := hP.sub [0, 1, 2, 3] rfl
      have hD9 : va_D A [(a_t, .inr (6, [.ref a_t_forms, .ref a_t_roll, .ref a_t_row, .ref a_t_rows, .ref a_t_factors, .ref a_t_found, .ref a_t_foundOtherwise, .int c_t_acts, .int c_t_refusals, .int c_t_knocks])), (a_t_forms, .inl (cyJ, 6, .inr (.inl f_t_forms))), (a_t_roll, .inr (3, [.ref a_t_roll_held, .ref a_t_roll_before, .int c_t_roll_size])), (a_t_row, .inr (5, [.long c_t_row_taps, .long c_t_row_cells]))] := hD.sub [0, 1, 2, 3] (by decide) rfl
      refine vx_ret ?_
      exact W.iret hx hb hr (fun t ht hW => ⟨⟨_, (), rfl, ⟨rfl, rfl⟩, wQA_of ht hP9 hD9⟩, hS.F ht⟩) hS.2.2 dX7_house_71
    have h := if_ c7_4 h
    refine lv_tableOut (tgt := 72) hx hb dX7_house_7 (by have q0 := lv_neT (a := 0) c7_0 rfl; have q1 := lv_neT (a := 1) c7_1 rfl; have q2 := lv_neT (a := 2) c7_2 rfl; have q3 := lv_neT (a := 3) c7_3 rfl; have q4 := lv_neT (a := 4) c7_4 rfl; omega) (by decide) ?_
    refine lv_aload_n hx hb dX7_house_72 rfl (lv_at hl 0 rfl) ?_
    obtain ⟨r73, hc73, h⟩ := obn_h h
    have hPc : va_P D vwCl [(a_t, .inr (6, [.ref a_t_forms, .ref a_t_roll, .ref a_t_row, .ref a_t_rows, .ref a_t_factors, .ref a_t_found, .ref a_t_foundOtherwise, .int c_t_acts, .int c_t_refusals, .int c_t_knocks])), (a_t_forms, .inl (cyJ, 6, .inr (.inl f_t_forms)))] H := hP.sub [0, 1] rfl
    refine rd_callV (As := []) (rest := []) hcf (c_X7_onesOfAll l D cyJ a_t a_t_forms a_t_roll a_t_row a_t_rows a_t_factors a_t_found a_t_foundOtherwise c_t_acts c_t_refusals c_t_knocks f_t_forms r73 hc73) (cwV 0 hts gX7_house_X7_onesOfAll rfl rfl rfl ydX7_onesOfAll ⟨Nat.le_of_ble_eq_true rfl, Nat.le_of_ble_eq_true rfl⟩) hnw hPc hK0 (va_recv hK hP (ci := 6) (q0 := 0) rfl rfl) rfl hl.1 rfl (Nat.le_of_ble_eq_true rfl) dX7_house_73 ⟨Nat.le_of_ble_eq_true rfl, Nat.le_of_ble_eq_true rfl⟩ ?_
    obtain ⟨e0, e1⟩ := tup2 h
    subst e0
    subst e1
    have hP9 : va_P D vwCl [(a_t, .inr (6, [.ref a_t_forms, .ref a_t_roll, .ref a_t_row, .ref a_t_rows, .ref a_t_factors, .ref a_t_found, .ref a_t_foundOtherwise, .int c_t_acts, .int c_t_refusals, .int c_t_knocks])), (a_t_forms, .inl (cyJ, 6, .inr (.inl f_t_forms))), (a_t_roll, .inr (3, [.ref a_t_roll_held, .ref a_t_roll_before, .int c_t_roll_size])), (a_t_row, .inr (5, [.long c_t_row_taps, .long c_t_row_cells]))] H := hP.sub [0, 1, 2, 3] rfl
    have hD9 : va_D A [(a_t, .inr (6, [.ref a_t_forms, .ref a_t_roll, .ref a_t_row, .ref a_t_rows, .ref a_t_factors, .ref a_t_found, .ref a_t_foundOtherwise, .int c_t_acts, .int c_t_refusals, .int c_t_knocks])), (a_t_forms, .inl (cyJ, 6, .inr (.inl f_t_forms))), (a_t_roll, .inr (3, [.ref a_t_roll_held, .ref a_t_roll_before, .int c_t_roll_size])), (a_t_row, .inr (5, [.long c_t_row_taps, .long c_t_row_cells]))] := hD.sub [0, 1, 2, 3] (by decide) rfl
    refine vx_ret ?_
    exact W.iret hx hb hr (fun t ht hW => ⟨⟨_, (), rfl, ⟨rfl, rfl⟩, wQA_of ht hP9 hD9⟩, hS.F ht⟩) hS.2.2 dX7_house_76

noncomputable abbrev rmX7_knock : Room := { frames := 0, cells := 0, slots := 0, locals := 0 }
theorem ydX7_knock : yX7_knock.cls = RX7 ∧ yX7_knock.cls ≠ "java/lang/invoke/MethodHandle" ∧ yX7_knock.cls ≠ "java/lang/invoke/VarHandle" ∧ (parseMethodDescriptor yX7_knock.desc).map (fun d => d.parameters.length) = some 0 := by decide +kernel
noncomputable def F_X7_knock (c_t_knocks : Int32) : Option (Int32 × Int32) :=
 bnd (c_t_knocks + (1 : Int32)) (fun c_t_knocks_7 =>
 some (c_t_knocks_7, c_t_knocks_7))
set_option maxHeartbeats 4000000 in
set_option maxRecDepth 100000 in
theorem c_X7_knock (l : Launch) (D : va_G) (cyJ : ClassId) (sz : Nat) (a_t : Nat) (a_t_forms : Nat) (a_t_roll : Nat) (a_t_row : Nat) (a_t_rows : Nat) (a_t_factors : Nat) (a_t_found : Nat) (a_t_foundOtherwise : Nat) (c_t_acts : Int32) (c_t_refusals : Int32) (c_t_knocks : Int32) (r0 : Int32) (o_c_t_knocks : Int32) (hF : F_X7_knock c_t_knocks = some (r0, o_c_t_knocks)) : Met l yX7_knock wsX7_knock rmX7_knock (va_Pc [.ref a_t] (wPD D [(cyJ, .long)] [(a_t, .inr (6, [.ref a_t_forms, .ref a_t_roll, .ref a_t_row, .ref a_t_rows, .ref a_t_factors, .ref a_t_found, .ref a_t_foundOtherwise, .int c_t_acts, .int c_t_refusals, .int c_t_knocks]))] sz)) (va_Qi (fun (r : Int32) (_ : Unit) => r = r0) (fun _ t => wQA D [(a_t, .inr (6, [.ref a_t_forms, .ref a_t_roll, .ref a_t_row, .ref a_t_rows, .ref a_t_factors, .ref a_t_found, .ref a_t_foundOtherwise, .int c_t_acts, .int c_t_refusals, .int o_c_t_knocks]))] (va_A [(a_t, .inr (6, [.ref a_t_forms, .ref a_t_roll, .ref a_t_row, .ref a_t_rows, .ref a_t_factors, .ref a_t_found, .ref a_t_foundOtherwise, .int c_t_acts, .int c_t_refusals, .int c_t_knocks]))] sz) t) (va_A [(a_t, .inr (6, [.ref a_t_forms, .ref a_t_roll, .ref a_t_row, .ref a_t_rows, .ref a_t_factors, .ref a_t_found, .ref a_t_foundOtherwise, .int c_t_acts, .int c_t_refusals, .int c_t_knocks]))] sz)) 0 0 (va_A [(a_t, .inr (6, [.ref a_t_forms, .ref a_t_roll, .ref a_t_row, .ref a_t_rows, .ref a_t_factors, .ref a_t_found, .ref a_t_foundOtherwise, .int c_t_acts, .int c_t_refusals, .int c_t_knocks]))] sz) := by
  refine Met.ofW (cc := cX7_knock) (maxL := 1) (ret := (some .int)) (by decide) rfl ?_
  intro p e s m args below meth c s₁ B hml hv
  obtain ⟨rfl, hsz, hP, hK, hD0, hnw⟩ := hv
  have hx := B.exec
  have hb := B.bytes
  have hr := B.returns
  have hts := atoms_spec (ws := wsX7_knock) B.pre
  have hown : s.vm.findClass RX7 = some m.cls := findClass_of_methodNamed B.named
  have hlocks := B.notSynchronized
  have hcf : CallFix _ _ _ _ _ _ _ _ _ := ⟨hx, hb, hml, hown, hts⟩
  have hinX7 : ∀ w ∈ u_ws RX7 TX7 10, w ∈ wsX7_knock := by decide +kernel
  have hfl54 := hts (.fieldLink RX7 54 "Formwheel" "knocks" "I") (by decide +kernel)
  subst hsz
  have hD := hD0.self (sz := s.heap.size)
  generalize hAe : va_A [(a_t, .inr (6, [.ref a_t_forms, .ref a_t_roll, .ref a_t_row, .ref a_t_rows, .ref a_t_factors, .ref a_t_found, .ref a_t_foundOtherwise, .int c_t_acts, .int c_t_refusals, .int c_t_knocks]))] s.heap.size = A at hD ⊢
  have hA : ∀ q : Nat, s.heap.size ≤ q → A q := fun q h => by rw [← hAe]; exact Or.inr h
  have hS : va_S A s.heap s.heap [] := va_S.rf
  have hP : va_P D vwCl [(a_t, .inr (6, [.ref a_t_forms, .ref a_t_roll, .ref a_t_row, .ref a_t_rows, .ref a_t_factors, .ref a_t_found, .ref a_t_foundOtherwise, .int c_t_acts, .int c_t_refusals, .int c_t_knocks]))] s.heap := hP
  have hK0 := hK
  have hl := lv_entry ([.ref a_t]) (n := 1) (Nat.le_of_ble_eq_true rfl)
  rw [lg_entry_eq]
  generalize (lg_sl ([.ref a_t]) ++ List.replicate (1 - (lg_sl ([.ref a_t])).length) Slot.unset).toArray = ls at hl ⊢
  have hl : lv_has ls 1 [(0, .ref a_t)] := hl
  have h := hF
  clear hF
  unfold F_X7_knock at h
  refine lv_aload_n hx hb dX7_knock_0 rfl (lv_at hl 0 rfl) ?_
  refine lv_dup hx hb dX7_knock_1 rfl ?_
  refine va_get (D := D) (ci := 6) (v := .int c_t_knocks) (C := RX7) (T := TX7) (N := 10) hx hb hts hinX7 hown hK hP 0 rfl rfl 9 (by decide) hfl54 (fun _ h9 => h9) rfl dX7_knock_2 ?_
  refine lv_iconst (v := 1) hx hb dX7_knock_5 (by decide) ?_
  refine lv_iadd hx hb dX7_knock_6 ?_
  refine lv_topi (fun c_t_knocks_7 e_c_t_knocks_7 => ?_)
  have h := bnd_h e_c_t_knocks_7 h
  refine va_put (D := D) (ci := 6) (v := .int c_t_knocks_7) (ty := .int) (C := RX7) (T := TX7) (N := 10) hx hb hts hinX7 tyX7 tyX7_ok nmX7 hown hK hP hD hS 0 rfl rfl 9 (by decide) hfl54 (fun _ h9 => h9) rfl (by decide +kernel) rfl rfl (Nat.le_of_ble_eq_true rfl) dX7_knock_7 (fun H locs hP hD hS => ?_)
  have hP : va_P D vwCl [(a_t, .inr (6, [.ref a_t_forms, .ref a_t_roll, .ref a_t_row, .ref a_t_rows, .ref a_t_factors, .ref a_t_found, .ref a_t_foundOtherwise, .int c_t_acts, .int c_t_refusals, .int c_t_knocks_7]))] H := hP
  have hD : va_D A [(a_t, .inr (6, [.ref a_t_forms, .ref a_t_roll, .ref a_t_row, .ref a_t_rows, .ref a_t_factors, .ref a_t_found, .ref a_t_foundOtherwise, .int c_t_acts, .int c_t_refusals, .int c_t_knocks_7]))] := hD
  refine lv_aload_n hx hb dX7_knock_10 rfl (lv_at hl 0 rfl) ?_
  refine va_get (D := D) (ci := 6) (v := .int c_t_knocks_7) (C := RX7) (T := TX7) (N := 10) hx hb hts hinX7 hown hK hP 0 rfl rfl 9 (by decide) hfl54 (fun _ h9 => h9) rfl dX7_knock_11 ?_
  obtain ⟨e0, e1⟩ := tup2 h
  subst e0
  subst e1
  have hP9 : va_P D vwCl [(a_t, .inr (6, [.ref a_t_forms, .ref a_t_roll, .ref a_t_row, .ref a_t_rows, .ref a_t_factors, .ref a_t_found, .ref a_t_foundOtherwise, .int c_t_acts, .int c_t_refusals, .int c_t_knocks_7]))] H := hP.sub [0] rfl
  have hD9 : va_D A [(a_t, .inr (6, [.ref a_t_forms, .ref a_t_roll, .ref a_t_row, .ref a_t_rows, .ref a_t_factors, .ref a_t_found, .ref a_t_foundOtherwise, .int c_t_acts, .int c_t_refusals, .int c_t_knocks_7]))] := hD.sub [0] (by decide) rfl
  exact W.iret hx hb hr (fun t ht hW => ⟨⟨_, (), rfl, rfl, wQA_of ht hP9 hD9⟩, hS.F ht⟩) hS.2.2 dX7_knock_14

noncomputable abbrev rmX7_isProductSound : Room := { frames := 3, cells := 0, slots := 0, locals := 73 }
theorem ydX7_isProductSound : yX7_isProductSound.cls = RX7 ∧ yX7_isProductSound.cls ≠ "java/lang/invoke/MethodHandle" ∧ yX7_isProductSound.cls ≠ "java/lang/invoke/VarHandle" ∧ (parseMethodDescriptor yX7_isProductSound.desc).map (fun d => d.parameters.length) = some 2 := by decide +kernel
noncomputable def F_X7_isProductSound (p0 : Int64) (p1 : Int64) : Option (Int32) :=
 obn (F_X0_multiplied p0 p1) (fun r2 =>
 obn (F_X0_multiplied p1 p0) (fun r11 =>
 (if r2 = r11 then
 obn (F_X0_multiplied p0 p0) (fun r20 =>
 obn (F_X0_squared p0) (fun r24 =>
 (if r20 = r24 then
 (if p1 = (0 : Int64) then
 some (1 : Int32)
else
 obn (F_X0_quotient r2 p1) (fun r42 =>
 (if r42 = p0 then
 obn (F_X0_rest r2 p1) (fun r53 =>
 (if r53 = (0 : Int64) then
 some (1 : Int32)
else
 some (0 : Int32)))
else
 some (0 : Int32))))
else
 some (0 : Int32))))
else
 some (0 : Int32))))
set_option maxHeartbeats 4000000 in
set_option maxRecDepth 100000 in
theorem c_X7_isProductSound (l : Launch) (D : va_G) (cyJ : ClassId) (a_t : Nat) (p0 : Int64) (p1 : Int64) (r0 : Int32) (hF : F_X7_isProductSound p0 p1 = some r0) : Met l yX7_isProductSound wsX7_isProductSound rmX7_isProductSound (va_Pc [.ref a_t, .long p0, .long p1] (wPK D [(cyJ, .long)] [])) (k2_QcV (.int r0)) 0 0 (fun _ => False) := by
  refine Met.ofW (cc := cX7_isProductSound) (maxL := 7) (ret := (some .boolean)) (by decide) rfl ?_
  intro p e s m args below meth c s₁ B hml hv
  obtain ⟨rfl, hP, hK, hnw⟩ := hv
  have hx := B.exec
  have hb := B.bytes
  have hr := B.returns
  have hts := atoms_spec (ws := wsX7_isProductSound) B.pre
  have hown : s.vm.findClass RX7 = some m.cls := findClass_of_methodNamed B.named
  have hlocks := B.notSynchronized
  have hcf : CallFix _ _ _ _ _ _ _ _ _ := ⟨hx, hb, hml, hown, hts⟩
  have hK0 := hK
  have hl := lv_entry ([.ref a_t, .long p0, .long p1]) (n := 7) (Nat.le_of_ble_eq_true rfl)
  rw [lg_entry_eq]
  generalize (lg_sl ([.ref a_t, .long p0, .long p1]) ++ List.replicate (7 - (lg_sl ([.ref a_t, .long p0, .long p1])).length) Slot.unset).toArray = ls at hl ⊢
  have hl : lv_has ls 7 [(0, .ref a_t), (1, .long p0), (3, .long p1)] := hl
  have h := hF
  clear hF
  unfold F_X7_isProductSound at h
  refine lv_lload_n hx hb dX7_isProductSound_0 rfl (lv_at hl 1 rfl) ?_
  refine lv_lload_n hx hb dX7_isProductSound_1 rfl (lv_at hl 2 rfl) ?_
  obtain ⟨r2, hc2, h⟩ := obn_h h
  refine pz_callS (As := [.long p0, .long p1]) (rest := []) hcf (c_X0_multiplied l p0 p1 r2 hc2) (va_cwS 2 hts gX7_isProductSound_X0_multiplied rfl rfl rfl ydX0_multiplied ⟨Nat.le_of_ble_eq_true rfl, Nat.le_of_ble_eq_true rfl⟩) hnw rfl hl.1 rfl (Nat.le_of_ble_eq_true rfl) dX7_isProductSound_2 ⟨Nat.le_of_ble_eq_true rfl, Nat.le_of_ble_eq_true rfl⟩ ?_
  refine lv_lstore (lv' := [(5, .long r2), (0, .ref a_t), (1, .long p0), (3, .long p1)]) hx hb dX7_isProductSound_5 hl (by decide) rfl (fun ls hl => ?_)
  refine lv_lload hx hb dX7_isProductSound_7 (lv_at hl 0 rfl) ?_
  refine lv_lload_n hx hb dX7_isProductSound_9 rfl (lv_at hl 3 rfl) ?_
  refine lv_lload_n hx hb dX7_isProductSound_10 rfl (lv_at hl 2 rfl) ?_
  obtain ⟨r11, hc11, h⟩ := obn_h h
  refine pz_callS (As := [.long p1, .long p0]) (rest := [.long r2]) hcf (c_X0_multiplied l p1 p0 r11 hc11) (va_cwS 2 hts gX7_isProductSound_X0_multiplied rfl rfl rfl ydX0_multiplied ⟨Nat.le_of_ble_eq_true rfl, Nat.le_of_ble_eq_true rfl⟩) hnw rfl hl.1 rfl (Nat.le_of_ble_eq_true rfl) dX7_isProductSound_11 ⟨Nat.le_of_ble_eq_true rfl, Nat.le_of_ble_eq_true rfl⟩ ?_
  refine W.lcmp hx hb dX7_isProductSound_14 ?_
  refine lv_if_ne (tgt := 31) hx hb dX7_isProductSound_15 (by decide) (fun c15 => ?_) (fun c15 => ?_)
  · have c15 := fun z => c15 ((lg_cmp_eq _ _).mpr z)
    have h := if_ c15 h
    refine lv_iconst (v := 0) hx hb dX7_isProductSound_31 (by decide) ?_
    have e1 := Option.some.inj h
    subst e1
    exact W.zret hx hb hr narrow_b0 (fun t ht _ => ⟨rfl, ht⟩) no_q dX7_isProductSound_32
  · have c15 := (lg_cmp_eq _ _).mp c15
    have h := it_ c15 h
    refine lv_lload_n hx hb dX7_isProductSound_18 rfl (lv_at hl 2 rfl) ?_
    refine lv_lload_n hx hb dX7_isProductSound_19 rfl (lv_at hl 2 rfl) ?_
    obtain ⟨r20, hc20, h⟩ := obn_h h
    refine pz_callS (As := [.long p0, .long p0]) (rest := []) hcf (c_X0_multiplied l p0 p0 r20 hc20) (va_cwS 2 hts gX7_isProductSound_X0_multiplied rfl rfl rfl ydX0_multiplied ⟨Nat.le_of_ble_eq_true rfl, Nat.le_of_ble_eq_true rfl⟩) hnw rfl hl.1 rfl (Nat.le_of_ble_eq_true rfl) dX7_isProductSound_20 ⟨Nat.le_of_ble_eq_true rfl, Nat.le_of_ble_eq_true rfl⟩ ?_
    refine lv_lload_n hx hb dX7_isProductSound_23 rfl (lv_at hl 2 rfl) ?_
    obtain ⟨r24, hc24, h⟩ := obn_h h
    refine pz_callS (As := [.long p0]) (rest := [.long r20]) hcf (c_X0_squared l p0 r24 hc24) (va_cwS 1 hts gX7_isProductSound_X0_squared rfl rfl rfl ydX0_squared ⟨Nat.le_of_ble_eq_true rfl, Nat.le_of_ble_eq_true rfl⟩) hnw rfl hl.1 rfl (Nat.le_of_ble_eq_true rfl) dX7_isProductSound_24 ⟨Nat.le_of_ble_eq_true rfl, Nat.le_of_ble_eq_true rfl⟩ ?_
    refine W.lcmp hx hb dX7_isProductSound_27 ?_
    refine lv_if_eq (tgt := 33) hx hb dX7_isProductSound_28 (by decide) (fun c28 => ?_) (fun c28 => ?_)
    · have c28 := (lg_cmp_eq _ _).mp c28
      have h := it_ c28 h
      refine lv_lload_n hx hb dX7_isProductSound_33 rfl (lv_at hl 3 rfl) ?_
      refine lv_lconst (v := 0) hx hb dX7_isProductSound_34 (by decide) ?_
      refine W.lcmp hx hb dX7_isProductSound_35 ?_
      refine lv_if_eq (tgt := 61) hx hb dX7_isProductSound_36 (by decide) (fun c36 => ?_) (fun c36 => ?_)
      · have c36 := (lg_cmp_eq _ _).mp c36
        have h := it_ c36 h
        refine lv_iconst (v := 1) hx hb dX7_isProductSound_61 (by decide) ?_
        refine lv_goto (tgt := 66) hx hb dX7_isProductSound_62 (by decide) ?_
        have e1 := Option.some.inj h
        subst e1
        exact W.zret hx hb hr narrow_b1 (fun t ht _ => ⟨rfl, ht⟩) no_q dX7_isProductSound_66
      · have c36 := fun z => c36 ((lg_cmp_eq _ _).mpr z)
        have h := if_ c36 h
        refine lv_lload hx hb dX7_isProductSound_39 (lv_at hl 0 rfl) ?_
        refine lv_lload_n hx hb dX7_isProductSound_41 rfl (lv_at hl 3 rfl) ?_
        obtain ⟨r42, hc42, h⟩ := obn_h h
        refine pz_callS (As := [.long r2, .long p1]) (rest := []) hcf (c_X0_quotient l r2 p1 r42 hc42) (va_cwS 2 hts gX7_isProductSound_X0_quotient rfl rfl rfl ydX0_quotient ⟨Nat.le_of_ble_eq_true rfl, Nat.le_of_ble_eq_true rfl⟩) hnw rfl hl.1 rfl (Nat.le_of_ble_eq_true rfl) dX7_isProductSound_42 ⟨Nat.le_of_ble_eq_true rfl, Nat.le_of_ble_eq_true rfl⟩ ?_
        refine lv_lload_n hx hb dX7_isProductSound_45 rfl (lv_at hl 2 rfl) ?_
        refine W.lcmp hx hb dX7_isProductSound_46 ?_
        refine lv_if_ne (tgt := 65) hx hb dX7_isProductSound_47 (by decide) (fun c47 => ?_) (fun c47 => ?_)
        · have c47 := fun z => c47 ((lg_cmp_eq _ _).mpr z)
          have h := if_ c47 h
          refine lv_iconst (v := 0) hx hb dX7_isProductSound_65 (by decide) ?_
          have e1 := Option.some.inj h
          subst e1
          exact W.zret hx hb hr narrow_b0 (fun t ht _ => ⟨rfl, ht⟩) no_q dX7_isProductSound_66
        · have c47 := (lg_cmp_eq _ _).mp c47
          have h := it_ c47 h
          refine lv_lload hx hb dX7_isProductSound_50 (lv_at hl 0 rfl) ?_
          refine lv_lload_n hx hb dX7_isProductSound_52 rfl (lv_at hl 3 rfl) ?_
          obtain ⟨r53, hc53, h⟩ := obn_h h
          refine pz_callS (As := [.long r2, .long p1]) (rest := []) hcf (c_X0_rest l r2 p1 r53 hc53) (va_cwS 2 hts gX7_isProductSound_X0_rest rfl rfl rfl ydX0_rest ⟨Nat.le_of_ble_eq_true rfl, Nat.le_of_ble_eq_true rfl⟩) hnw rfl hl.1 rfl (Nat.le_of_ble_eq_true rfl) dX7_isProductSound_53 ⟨Nat.le_of_ble_eq_true rfl, Nat.le_of_ble_eq_true rfl⟩ ?_
          refine lv_lconst (v := 0) hx hb dX7_isProductSound_56 (by decide) ?_
          refine W.lcmp hx hb dX7_isProductSound_57 ?_
          refine lv_if_ne (tgt := 65) hx hb dX7_isProductSound_58 (by decide) (fun c58 => ?_) (fun c58 => ?_)
          · have c58 := fun z => c58 ((lg_cmp_eq _ _).mpr z)
            have h := if_ c58 h
            refine lv_iconst (v := 0) hx hb dX7_isProductSound_65 (by decide) ?_
            have e1 := Option.some.inj h
            subst e1
            exact W.zret hx hb hr narrow_b0 (fun t ht _ => ⟨rfl, ht⟩) no_q dX7_isProductSound_66
          · have c58 := (lg_cmp_eq _ _).mp c58
            have h := it_ c58 h
            refine lv_iconst (v := 1) hx hb dX7_isProductSound_61 (by decide) ?_
            refine lv_goto (tgt := 66) hx hb dX7_isProductSound_62 (by decide) ?_
            have e1 := Option.some.inj h
            subst e1
            exact W.zret hx hb hr narrow_b1 (fun t ht _ => ⟨rfl, ht⟩) no_q dX7_isProductSound_66
    · have c28 := fun z => c28 ((lg_cmp_eq _ _).mpr z)
      have h := if_ c28 h
      refine lv_iconst (v := 0) hx hb dX7_isProductSound_31 (by decide) ?_
      have e1 := Option.some.inj h
      subst e1
      exact W.zret hx hb hr narrow_b0 (fun t ht _ => ⟨rfl, ht⟩) no_q dX7_isProductSound_32

noncomputable abbrev rmX7_isCommonSound : Room := { frames := 5, cells := 0, slots := 0, locals := 123 }
theorem ydX7_isCommonSound : yX7_isCommonSound.cls = RX7 ∧ yX7_isCommonSound.cls ≠ "java/lang/invoke/MethodHandle" ∧ yX7_isCommonSound.cls ≠ "java/lang/invoke/VarHandle" ∧ (parseMethodDescriptor yX7_isCommonSound.desc).map (fun d => d.parameters.length) = some 2 := by decide +kernel
noncomputable def F_X7_isCommonSound (p0 : Int64) (p1 : Int64) : Option (Int32 × Int64 × Int64 × Int64 × Int64 × Int64 × Int64) :=
 obn (F_X0_greatestBoth p0 p1) (fun r2 =>
 obn6 (F_X4_workOut p0 p1) (fun c_t_rows_first_13 c_t_rows_ofOne_13 c_t_rows_ofOther_13 c_t_rows_second_13 c_t_rows_secondOfOne_13 c_t_rows_secondOfOther_13 =>
 obn (F_X0_multiplied p0 c_t_rows_ofOne_13) (fun r24 =>
 obn (F_X0_multiplied p1 c_t_rows_ofOther_13) (fun r35 =>
 bnd (r24 ^^^ r35) (fun x7_39 =>
 obn (F_X0_goesInto r2 p0) (fun r44 =>
 (if r44 = 0 then
 some ((0 : Int32), c_t_rows_first_13, c_t_rows_ofOne_13, c_t_rows_ofOther_13, c_t_rows_second_13, c_t_rows_secondOfOne_13, c_t_rows_secondOfOther_13)
else
 obn (F_X0_goesInto r2 p1) (fun r53 =>
 (if r53 = 0 then
 some ((0 : Int32), c_t_rows_first_13, c_t_rows_ofOne_13, c_t_rows_ofOther_13, c_t_rows_second_13, c_t_rows_secondOfOne_13, c_t_rows_secondOfOther_13)
else
 (if x7_39 = r2 then
 some ((1 : Int32), c_t_rows_first_13, c_t_rows_ofOne_13, c_t_rows_ofOther_13, c_t_rows_second_13, c_t_rows_secondOfOne_13, c_t_rows_secondOfOther_13)
else
 some ((0 : Int32), c_t_rows_first_13, c_t_rows_ofOne_13, c_t_rows_ofOther_13, c_t_rows_second_13, c_t_rows_secondOfOne_13, c_t_rows_secondOfOther_13)))))))))))
set_option maxHeartbeats 4000000 in
set_option maxRecDepth 100000 in
theorem c_X7_isCommonSound (l : Launch) (D : va_G) (cyJ : ClassId) (sz : Nat) (a_t : Nat) (a_t_forms : Nat) (a_t_roll : Nat) (a_t_row : Nat) (a_t_rows : Nat) (a_t_factors : Nat) (a_t_found : Nat) (a_t_foundOtherwise : Nat) (c_t_acts : Int32) (c_t_refusals : Int32) (c_t_knocks : Int32) (c_t_rows_first : Int64) (c_t_rows_ofOne : Int64) (c_t_rows_ofOther : Int64) (c_t_rows_second : Int64) (c_t_rows_secondOfOne : Int64) (c_t_rows_secondOfOther : Int64) (p0 : Int64) (p1 : Int64) (r0 : Int32) (o_c_t_rows_first : Int64) (o_c_t_rows_ofOne : Int64) (o_c_t_rows_ofOther : Int64) (o_c_t_rows_second : Int64) (o_c_t_rows_secondOfOne : Int64) (o_c_t_rows_secondOfOther : Int64) (hF : F_X7_isCommonSound p0 p1 = some (r0, o_c_t_rows_first, o_c_t_rows_ofOne, o_c_t_rows_ofOther, o_c_t_rows_second, o_c_t_rows_secondOfOne, o_c_t_rows_secondOfOther)) : Met l yX7_isCommonSound wsX7_isCommonSound rmX7_isCommonSound (va_Pc [.ref a_t, .long p0, .long p1] (wPD D [(cyJ, .long)] [(a_t, .inr (6, [.ref a_t_forms, .ref a_t_roll, .ref a_t_row, .ref a_t_rows, .ref a_t_factors, .ref a_t_found, .ref a_t_foundOtherwise, .int c_t_acts, .int c_t_refusals, .int c_t_knocks])), (a_t_rows, .inr (4, [.long c_t_rows_first, .long c_t_rows_ofOne, .long c_t_rows_ofOther, .long c_t_rows_second, .long c_t_rows_secondOfOne, .long c_t_rows_secondOfOther]))] sz)) (va_Qi (fun (r : Int32) (_ : Unit) => r = r0) (fun _ t => wQA D [(a_t, .inr (6, [.ref a_t_forms, .ref a_t_roll, .ref a_t_row, .ref a_t_rows, .ref a_t_factors, .ref a_t_found, .ref a_t_foundOtherwise, .int c_t_acts, .int c_t_refusals, .int c_t_knocks])), (a_t_rows, .inr (4, [.long o_c_t_rows_first, .long o_c_t_rows_ofOne, .long o_c_t_rows_ofOther, .long o_c_t_rows_second, .long o_c_t_rows_secondOfOne, .long o_c_t_rows_secondOfOther]))] (va_A [(a_t, .inr (6, [.ref a_t_forms, .ref a_t_roll, .ref a_t_row, .ref a_t_rows, .ref a_t_factors, .ref a_t_found, .ref a_t_foundOtherwise, .int c_t_acts, .int c_t_refusals, .int c_t_knocks])), (a_t_rows, .inr (4, [.long c_t_rows_first, .long c_t_rows_ofOne, .long c_t_rows_ofOther, .long c_t_rows_second, .long c_t_rows_secondOfOne, .long c_t_rows_secondOfOther]))] sz) t) (va_A [(a_t, .inr (6, [.ref a_t_forms, .ref a_t_roll, .ref a_t_row, .ref a_t_rows, .ref a_t_factors, .ref a_t_found, .ref a_t_foundOtherwise, .int c_t_acts, .int c_t_refusals, .int c_t_knocks])), (a_t_rows, .inr (4, [.long c_t_rows_first, .long c_t_rows_ofOne, .long c_t_rows_ofOther, .long c_t_rows_second, .long c_t_rows_secondOfOne, .long c_t_rows_secondOfOther]))] sz)) 0 0 (va_A [(a_t, .inr (6, [.ref a_t_forms, .ref a_t_roll, .ref a_t_row, .ref a_t_rows, .ref a_t_factors, .ref a_t_found, .ref a_t_foundOtherwise, .int c_t_acts, .int c_t_refusals, .int c_t_knocks])), (a_t_rows, .inr (4, [.long c_t_rows_first, .long c_t_rows_ofOne, .long c_t_rows_ofOther, .long c_t_rows_second, .long c_t_rows_secondOfOne, .long c_t_rows_secondOfOther]))] sz) := by
  refine Met.ofW (cc := cX7_isCommonSound) (maxL := 9) (ret := (some .boolean)) (by decide) rfl ?_
  intro p e s m args below meth c s₁ B hml hv
  obtain ⟨rfl, hsz, hP, hK, hD0, hnw⟩ := hv
  have hx := B.exec
  have hb := B.bytes
  have hr := B.returns
  have hts := atoms_spec (ws := wsX7_isCommonSound) B.pre
  have hown : s.vm.findClass RX7 = some m.cls := findClass_of_methodNamed B.named
  have hlocks := B.notSynchronized
  have hcf : CallFix _ _ _ _ _ _ _ _ _ := ⟨hx, hb, hml, hown, hts⟩
  have hinX7 : ∀ w ∈ u_ws RX7 TX7 10, w ∈ wsX7_isCommonSound := by decide +kernel
  have hfl30 := hts (.fieldLink RX7 30 "Formwheel" "rows" "LFormwheel$Rows;") (by decide +kernel)
  have hinX4 : ∀ w ∈ u_ws RX4 TX4 6, w ∈ wsX7_isCommonSound := by decide +kernel
  have hfl134 := hnw.use (A := ([.ref a_t, .long p0, .long p1] : List Value).toArray) (w := .fieldLinkNest RX7 134 "Formwheel$Rows" "ofOne" "J" "Formwheel") (by decide +kernel)
  have hfl138 := hnw.use (A := ([.ref a_t, .long p0, .long p1] : List Value).toArray) (w := .fieldLinkNest RX7 138 "Formwheel$Rows" "ofOther" "J" "Formwheel") (by decide +kernel)
  subst hsz
  have hD := hD0.self (sz := s.heap.size)
  generalize hAe : va_A [(a_t, .inr (6, [.ref a_t_forms, .ref a_t_roll, .ref a_t_row, .ref a_t_rows, .ref a_t_factors, .ref a_t_found, .ref a_t_foundOtherwise, .int c_t_acts, .int c_t_refusals, .int c_t_knocks])), (a_t_rows, .inr (4, [.long c_t_rows_first, .long c_t_rows_ofOne, .long c_t_rows_ofOther, .long c_t_rows_second, .long c_t_rows_secondOfOne, .long c_t_rows_secondOfOther]))] s.heap.size = A at hD ⊢
  have hA : ∀ q : Nat, s.heap.size ≤ q → A q := fun q h => by rw [← hAe]; exact Or.inr h
  have hS : va_S A s.heap s.heap [] := va_S.rf
  have hP : va_P D vwCl [(a_t, .inr (6, [.ref a_t_forms, .ref a_t_roll, .ref a_t_row, .ref a_t_rows, .ref a_t_factors, .ref a_t_found, .ref a_t_foundOtherwise, .int c_t_acts, .int c_t_refusals, .int c_t_knocks])), (a_t_rows, .inr (4, [.long c_t_rows_first, .long c_t_rows_ofOne, .long c_t_rows_ofOther, .long c_t_rows_second, .long c_t_rows_secondOfOne, .long c_t_rows_secondOfOther]))] s.heap := hP
  have hK0 := hK
  have hl := lv_entry ([.ref a_t, .long p0, .long p1]) (n := 9) (Nat.le_of_ble_eq_true rfl)
  rw [lg_entry_eq]
  generalize (lg_sl ([.ref a_t, .long p0, .long p1]) ++ List.replicate (9 - (lg_sl ([.ref a_t, .long p0, .long p1])).length) Slot.unset).toArray = ls at hl ⊢
  have hl : lv_has ls 9 [(0, .ref a_t), (1, .long p0), (3, .long p1)] := hl
  have h := hF
  clear hF
  unfold F_X7_isCommonSound at h
  refine lv_lload_n hx hb dX7_isCommonSound_0 rfl (lv_at hl 1 rfl) ?_
  refine lv_lload_n hx hb dX7_isCommonSound_1 rfl (lv_at hl 2 rfl) ?_
  obtain ⟨r2, hc2, h⟩ := obn_h h
  refine pz_callS (As := [.long p0, .long p1]) (rest := []) hcf (c_X0_greatestBoth l p0 p1 r2 hc2) (va_cwS 2 hts gX7_isCommonSound_X0_greatestBoth rfl rfl rfl ydX0_greatestBoth ⟨Nat.le_of_ble_eq_true rfl, Nat.le_of_ble_eq_true rfl⟩) hnw rfl hl.1 rfl (Nat.le_of_ble_eq_true rfl) dX7_isCommonSound_2 ⟨Nat.le_of_ble_eq_true rfl, Nat.le_of_ble_eq_true rfl⟩ ?_
  refine lv_lstore (lv' := [(5, .long r2), (0, .ref a_t), (1, .long p0), (3, .long p1)]) hx hb dX7_isCommonSound_5 hl (by decide) rfl (fun ls hl => ?_)
  refine lv_aload_n hx hb dX7_isCommonSound_7 rfl (lv_at hl 1 rfl) ?_
  refine va_get (D := D) (ci := 6) (v := .ref a_t_rows) (C := RX7) (T := TX7) (N := 10) hx hb hts hinX7 hown hK hP 0 rfl rfl 3 (by decide) hfl30 (fun _ h9 => h9) rfl dX7_isCommonSound_8 ?_
  refine lv_lload_n hx hb dX7_isCommonSound_11 rfl (lv_at hl 2 rfl) ?_
  refine lv_lload_n hx hb dX7_isCommonSound_12 rfl (lv_at hl 3 rfl) ?_
  obtain ⟨c_t_rows_first_13, c_t_rows_ofOne_13, c_t_rows_ofOther_13, c_t_rows_second_13, c_t_rows_secondOfOne_13, c_t_rows_secondOfOther_13, hc13, h⟩ := obn6_h h
  have hPc := hP.sub (ws' := [(a_t_rows, .inr (4, [.long c_t_rows_first, .long c_t_rows_ofOne, .long c_t_rows_ofOther, .long c_t_rows_second, .long c_t_rows_secondOfOne, .long c_t_rows_secondOfOther]))]) [1] rfl
  have hDc := hD.sub (ws' := [(a_t_rows, .inr (4, [.long c_t_rows_first, .long c_t_rows_ofOne, .long c_t_rows_ofOther, .long c_t_rows_second, .long c_t_rows_secondOfOne, .long c_t_rows_secondOfOther]))]) [1] (by decide) rfl
  refine hp_v (w1 := [(a_t_rows, .inr (4, [.long c_t_rows_first_13, .long c_t_rows_ofOne_13, .long c_t_rows_ofOther_13, .long c_t_rows_second_13, .long c_t_rows_secondOfOne_13, .long c_t_rows_secondOfOther_13]))]) (wr := [(a_t, .inr (6, [.ref a_t_forms, .ref a_t_roll, .ref a_t_row, .ref a_t_rows, .ref a_t_factors, .ref a_t_found, .ref a_t_foundOtherwise, .int c_t_acts, .int c_t_refusals, .int c_t_knocks]))]) (va_runV (As := [.long p0, .long p1]) (rest := []) hcf (c_X4_workOut l D cyJ s.heap.size a_t_rows c_t_rows_first c_t_rows_ofOne c_t_rows_ofOther c_t_rows_second c_t_rows_secondOfOne c_t_rows_secondOfOther p0 p1 c_t_rows_first_13 c_t_rows_ofOne_13 c_t_rows_ofOther_13 c_t_rows_second_13 c_t_rows_secondOfOne_13 c_t_rows_secondOfOther_13 hc13) (cwV 2 hts gX7_isCommonSound_X4_workOut rfl rfl rfl ydX4_workOut ⟨Nat.le_of_ble_eq_true rfl, Nat.le_of_ble_eq_true rfl⟩) ⟨bl_PD, va_recv hK hP (ci := 4) (q0 := 1) rfl rfl, pr_PD hPc hK0 hDc hnw⟩ rfl rfl hl.1 rfl (lv_room (Nat.le_of_ble_eq_true rfl)) dX7_isCommonSound_13 ⟨Nat.le_of_ble_eq_true rfl, Nat.le_of_ble_eq_true rfl⟩) hP hD hS hA [1] [0] rfl rfl (by decide) (by decide) (fun H locs hP hD hS => ?_)
  have hP : va_P D vwCl [(a_t, .inr (6, [.ref a_t_forms, .ref a_t_roll, .ref a_t_row, .ref a_t_rows, .ref a_t_factors, .ref a_t_found, .ref a_t_foundOtherwise, .int c_t_acts, .int c_t_refusals, .int c_t_knocks])), (a_t_rows, .inr (4, [.long c_t_rows_first_13, .long c_t_rows_ofOne_13, .long c_t_rows_ofOther_13, .long c_t_rows_second_13, .long c_t_rows_secondOfOne_13, .long c_t_rows_secondOfOther_13]))] H := hP
  have hD : va_D A [(a_t, .inr (6, [.ref a_t_forms, .ref a_t_roll, .ref a_t_row, .ref a_t_rows, .ref a_t_factors, .ref a_t_found, .ref a_t_foundOtherwise, .int c_t_acts, .int c_t_refusals, .int c_t_knocks])), (a_t_rows, .inr (4, [.long c_t_rows_first_13, .long c_t_rows_ofOne_13, .long c_t_rows_ofOther_13, .long c_t_rows_second_13, .long c_t_rows_secondOfOne_13, .long c_t_rows_secondOfOther_13]))] := hD
  refine lv_lload_n hx hb dX7_isCommonSound_16 rfl (lv_at hl 2 rfl) ?_
  refine lv_aload_n hx hb dX7_isCommonSound_17 rfl (lv_at hl 1 rfl) ?_
  refine va_get (D := D) (ci := 6) (v := .ref a_t_rows) (C := RX7) (T := TX7) (N := 10) hx hb hts hinX7 hown hK hP 0 rfl rfl 3 (by decide) hfl30 (fun _ h9 => h9) rfl dX7_isCommonSound_18 ?_
  refine va_getN (D := D) (ci := 4) (v := .long c_t_rows_ofOne_13) (C := RX4) (T := TX4) (N := 6) hx hb hts hinX4 hown hK hP 1 rfl rfl 1 (by decide) hfl134 (fun _ h9 => h9) rfl dX7_isCommonSound_21 ?_
  obtain ⟨r24, hc24, h⟩ := obn_h h
  refine pz_callS (As := [.long p0, .long c_t_rows_ofOne_13]) (rest := []) hcf (c_X0_multiplied l p0 c_t_rows_ofOne_13 r24 hc24) (va_cwS 2 hts gX7_isCommonSound_X0_multiplied rfl rfl rfl ydX0_multiplied ⟨Nat.le_of_ble_eq_true rfl, Nat.le_of_ble_eq_true rfl⟩) hnw rfl hl.1 rfl (Nat.le_of_ble_eq_true rfl) dX7_isCommonSound_24 ⟨Nat.le_of_ble_eq_true rfl, Nat.le_of_ble_eq_true rfl⟩ ?_
  refine lv_lload_n hx hb dX7_isCommonSound_27 rfl (lv_at hl 3 rfl) ?_
  refine lv_aload_n hx hb dX7_isCommonSound_28 rfl (lv_at hl 1 rfl) ?_
  refine va_get (D := D) (ci := 6) (v := .ref a_t_rows) (C := RX7) (T := TX7) (N := 10) hx hb hts hinX7 hown hK hP 0 rfl rfl 3 (by decide) hfl30 (fun _ h9 => h9) rfl dX7_isCommonSound_29 ?_
  refine va_getN (D := D) (ci := 4) (v := .long c_t_rows_ofOther_13) (C := RX4) (T := TX4) (N := 6) hx hb hts hinX4 hown hK hP 1 rfl rfl 2 (by decide) hfl138 (fun _ h9 => h9) rfl dX7_isCommonSound_32 ?_
  obtain ⟨r35, hc35, h⟩ := obn_h h
  refine pz_callS (As := [.long p1, .long c_t_rows_ofOther_13]) (rest := [.long r24]) hcf (c_X0_multiplied l p1 c_t_rows_ofOther_13 r35 hc35) (va_cwS 2 hts gX7_isCommonSound_X0_multiplied rfl rfl rfl ydX0_multiplied ⟨Nat.le_of_ble_eq_true rfl, Nat.le_of_ble_eq_true rfl⟩) hnw rfl hl.1 rfl (Nat.le_of_ble_eq_true rfl) dX7_isCommonSound_35 ⟨Nat.le_of_ble_eq_true rfl, Nat.le_of_ble_eq_true rfl⟩ ?_
  refine lv_lxor hx hb dX7_isCommonSound_38 ?_
  refine lv_topl (fun x7_39 e_x7_39 => ?_)
  have h := bnd_h e_x7_39 h
  refine lv_lstore (lv' := [(7, .long x7_39), (5, .long r2), (0, .ref a_t), (1, .long p0), (3, .long p1)]) hx hb dX7_isCommonSound_39 hl (by decide) rfl (fun ls hl => ?_)
  refine lv_lload hx hb dX7_isCommonSound_41 (lv_at hl 1 rfl) ?_
  refine lv_lload_n hx hb dX7_isCommonSound_43 rfl (lv_at hl 3 rfl) ?_
  obtain ⟨r44, hc44, h⟩ := obn_h h
  refine pz_callS (As := [.long r2, .long p0]) (rest := []) hcf (c_X0_goesInto l r2 p0 r44 hc44) (va_cwS 2 hts gX7_isCommonSound_X0_goesInto rfl rfl rfl ydX0_goesInto ⟨Nat.le_of_ble_eq_true rfl, Nat.le_of_ble_eq_true rfl⟩) hnw rfl hl.1 rfl (Nat.le_of_ble_eq_true rfl) dX7_isCommonSound_44 ⟨Nat.le_of_ble_eq_true rfl, Nat.le_of_ble_eq_true rfl⟩ ?_
  refine lv_if_eq (tgt := 71) hx hb dX7_isCommonSound_47 (by decide) (fun c47 => ?_) (fun c47 => ?_)
  · have h := it_ c47 h
    refine lv_iconst (v := 0) hx hb dX7_isCommonSound_71 (by decide) ?_
    obtain ⟨e0, e1, e2, e3, e4, e5, e6⟩ := tup7 h
    subst e0
    subst e1
    subst e2
    subst e3
    subst e4
    subst e5
    subst e6
    have hP9 : va_P D vwCl [(a_t, .inr (6, [.ref a_t_forms, .ref a_t_roll, .ref a_t_row, .ref a_t_rows, .ref a_t_factors, .ref a_t_found, .ref a_t_foundOtherwise, .int c_t_acts, .int c_t_refusals, .int c_t_knocks])), (a_t_rows, .inr (4, [.long c_t_rows_first_13, .long c_t_rows_ofOne_13, .long c_t_rows_ofOther_13, .long c_t_rows_second_13, .long c_t_rows_secondOfOne_13, .long c_t_rows_secondOfOther_13]))] H := hP.sub [0, 1] rfl
    have hD9 : va_D A [(a_t, .inr (6, [.ref a_t_forms, .ref a_t_roll, .ref a_t_row, .ref a_t_rows, .ref a_t_factors, .ref a_t_found, .ref a_t_foundOtherwise, .int c_t_acts, .int c_t_refusals, .int c_t_knocks])), (a_t_rows, .inr (4, [.long c_t_rows_first_13, .long c_t_rows_ofOne_13, .long c_t_rows_ofOther_13, .long c_t_rows_second_13, .long c_t_rows_secondOfOne_13, .long c_t_rows_secondOfOther_13]))] := hD.sub [0, 1] (by decide) rfl
    exact W.zret hx hb hr narrow_b0 (fun t ht hW => ⟨⟨_, (), rfl, rfl, wQA_of ht hP9 hD9⟩, hS.F ht⟩) hS.2.2 dX7_isCommonSound_72
  · have h := if_ c47 h
    refine lv_lload hx hb dX7_isCommonSound_50 (lv_at hl 1 rfl) ?_
    refine lv_lload_n hx hb dX7_isCommonSound_52 rfl (lv_at hl 4 rfl) ?_
    obtain ⟨r53, hc53, h⟩ := obn_h h
    refine pz_callS (As := [.long r2, .long p1]) (rest := []) hcf (c_X0_goesInto l r2 p1 r53 hc53) (va_cwS 2 hts gX7_isCommonSound_X0_goesInto rfl rfl rfl ydX0_goesInto ⟨Nat.le_of_ble_eq_true rfl, Nat.le_of_ble_eq_true rfl⟩) hnw rfl hl.1 rfl (Nat.le_of_ble_eq_true rfl) dX7_isCommonSound_53 ⟨Nat.le_of_ble_eq_true rfl, Nat.le_of_ble_eq_true rfl⟩ ?_
    refine lv_if_eq (tgt := 71) hx hb dX7_isCommonSound_56 (by decide) (fun c56 => ?_) (fun c56 => ?_)
    · have h := it_ c56 h
      refine lv_iconst (v := 0) hx hb dX7_isCommonSound_71 (by decide) ?_
      obtain ⟨e0, e1, e2, e3, e4, e5, e6⟩ := tup7 h
      subst e0
      subst e1
      subst e2
      subst e3
      subst e4
      subst e5
      subst e6
      have hP9 : va_P D vwCl [(a_t, .inr (6, [.ref a_t_forms, .ref a_t_roll, .ref a_t_row, .ref a_t_rows, .ref a_t_factors, .ref a_t_found, .ref a_t_foundOtherwise, .int c_t_acts, .int c_t_refusals, .int c_t_knocks])), (a_t_rows, .inr (4, [.long c_t_rows_first_13, .long c_t_rows_ofOne_13, .long c_t_rows_ofOther_13, .long c_t_rows_second_13, .long c_t_rows_secondOfOne_13, .long c_t_rows_secondOfOther_13]))] H := hP.sub [0, 1] rfl
      have hD9 : va_D A [(a_t, .inr (6, [.ref a_t_forms, .ref a_t_roll, .ref a_t_row, .ref a_t_rows, .ref a_t_factors, .ref a_t_found, .ref a_t_foundOtherwise, .int c_t_acts, .int c_t_refusals, .int c_t_knocks])), (a_t_rows, .inr (4, [.long c_t_rows_first_13, .long c_t_rows_ofOne_13, .long c_t_rows_ofOther_13, .long c_t_rows_second_13, .long c_t_rows_secondOfOne_13, .long c_t_rows_secondOfOther_13]))] := hD.sub [0, 1] (by decide) rfl
      exact W.zret hx hb hr narrow_b0 (fun t ht hW => ⟨⟨_, (), rfl, rfl, wQA_of ht hP9 hD9⟩, hS.F ht⟩) hS.2.2 dX7_isCommonSound_72
    · have h := if_ c56 h
      refine lv_lload hx hb dX7_isCommonSound_59 (lv_at hl 0 rfl) ?_
      refine lv_lload hx hb dX7_isCommonSound_61 (lv_at hl 1 rfl) ?_
      refine W.lcmp hx hb dX7_isCommonSound_63 ?_
      refine lv_if_ne (tgt := 71) hx hb dX7_isCommonSound_64 (by decide) (fun c64 => ?_) (fun c64 => ?_)
      · have c64 := fun z => c64 ((lg_cmp_eq _ _).mpr z)
        have h := if_ c64 h
        refine lv_iconst (v := 0) hx hb dX7_isCommonSound_71 (by decide) ?_
        obtain ⟨e0, e1, e2, e3, e4, e5, e6⟩ := tup7 h
        subst e0
        subst e1
        subst e2
        subst e3
        subst e4
        subst e5
        subst e6
        have hP9 : va_P D vwCl [(a_t, .inr (6, [.ref a_t_forms, .ref a_t_roll, .ref a_t_row, .ref a_t_rows, .ref a_t_factors, .ref a_t_found, .ref a_t_foundOtherwise, .int c_t_acts, .int c_t_refusals, .int c_t_knocks])), (a_t_rows, .inr (4, [.long c_t_rows_first_13, .long c_t_rows_ofOne_13, .long c_t_rows_ofOther_13, .long c_t_rows_second_13, .long c_t_rows_secondOfOne_13, .long c_t_rows_secondOfOther_13]))] H := hP.sub [0, 1] rfl
        have hD9 : va_D A [(a_t, .inr (6, [.ref a_t_forms, .ref a_t_roll, .ref a_t_row, .ref a_t_rows, .ref a_t_factors, .ref a_t_found, .ref a_t_foundOtherwise, .int c_t_acts, .int c_t_refusals, .int c_t_knocks])), (a_t_rows, .inr (4, [.long c_t_rows_first_13, .long c_t_rows_ofOne_13, .long c_t_rows_ofOther_13, .long c_t_rows_second_13, .long c_t_rows_secondOfOne_13, .long c_t_rows_secondOfOther_13]))] := hD.sub [0, 1] (by decide) rfl
        exact W.zret hx hb hr narrow_b0 (fun t ht hW => ⟨⟨_, (), rfl, rfl, wQA_of ht hP9 hD9⟩, hS.F ht⟩) hS.2.2 dX7_isCommonSound_72
      · have c64 := (lg_cmp_eq _ _).mp c64
        have h := it_ c64 h
        refine lv_iconst (v := 1) hx hb dX7_isCommonSound_67 (by decide) ?_
        refine lv_goto (tgt := 72) hx hb dX7_isCommonSound_68 (by decide) ?_
        obtain ⟨e0, e1, e2, e3, e4, e5, e6⟩ := tup7 h
        subst e0
        subst e1
        subst e2
        subst e3
        subst e4
        subst e5
        subst e6
        have hP9 : va_P D vwCl [(a_t, .inr (6, [.ref a_t_forms, .ref a_t_roll, .ref a_t_row, .ref a_t_rows, .ref a_t_factors, .ref a_t_found, .ref a_t_foundOtherwise, .int c_t_acts, .int c_t_refusals, .int c_t_knocks])), (a_t_rows, .inr (4, [.long c_t_rows_first_13, .long c_t_rows_ofOne_13, .long c_t_rows_ofOther_13, .long c_t_rows_second_13, .long c_t_rows_secondOfOne_13, .long c_t_rows_secondOfOther_13]))] H := hP.sub [0, 1] rfl
        have hD9 : va_D A [(a_t, .inr (6, [.ref a_t_forms, .ref a_t_roll, .ref a_t_row, .ref a_t_rows, .ref a_t_factors, .ref a_t_found, .ref a_t_foundOtherwise, .int c_t_acts, .int c_t_refusals, .int c_t_knocks])), (a_t_rows, .inr (4, [.long c_t_rows_first_13, .long c_t_rows_ofOne_13, .long c_t_rows_ofOther_13, .long c_t_rows_second_13, .long c_t_rows_secondOfOne_13, .long c_t_rows_secondOfOther_13]))] := hD.sub [0, 1] (by decide) rfl
        exact W.zret hx hb hr narrow_b1 (fun t ht hW => ⟨⟨_, (), rfl, rfl, wQA_of ht hP9 hD9⟩, hS.F ht⟩) hS.2.2 dX7_isCommonSound_72

noncomputable abbrev rmX3_isSameAs : Room := { frames := 0, cells := 0, slots := 0, locals := 0 }
theorem ydX3_isSameAs : yX3_isSameAs.cls = RX3 ∧ yX3_isSameAs.cls ≠ "java/lang/invoke/MethodHandle" ∧ yX3_isSameAs.cls ≠ "java/lang/invoke/VarHandle" ∧ (parseMethodDescriptor yX3_isSameAs.desc).map (fun d => d.parameters.length) = some 1 := by decide +kernel
noncomputable def S_X3_isSameAs_15 (c_t_size_z15 : Int32) (f_t_held_z15 : Nat → Int64) (f_q0_held_z15 : Nat → Int64) (k39 : Unit → Option (Int32)) (k47 : Unit → Option (Int32)) (ih15 : Int32 → Option (Int32)) (y2_15 : Int32) : Option (Int32) :=
 (if c_t_size_z15 ≤ y2_15 then
 k47 ()
else
 chk (¬ (y2_15 < 0 ∨ 12 ≤ y2_15.toNatClampNeg)) (
 chk (¬ (y2_15 < 0 ∨ 12 ≤ y2_15.toNatClampNeg)) (
 (if (f_t_held_z15 y2_15.toNatClampNeg) = (f_q0_held_z15 y2_15.toNatClampNeg) then
 bnd (y2_15 + 1) (fun x2_41 =>
 ih15 x2_41)
else
 k39 ()))))
noncomputable def F_X3_isSameAs (c_t_size : Int32) (f_t_held : Nat → Int64) (c_q0_size : Int32) (f_q0_held : Nat → Int64) : Option (Int32) :=
 (if c_t_size = c_q0_size then
 LQ1 (S_X3_isSameAs_15 c_t_size f_t_held f_q0_held (fun _ =>
 some (0 : Int32)) (fun _ =>
 some (1 : Int32))) 20000 (0 : Int32)
else
 some (0 : Int32))
set_option maxHeartbeats 4000000 in
set_option maxRecDepth 100000 in
theorem c_X3_isSameAs (l : Launch) (D : va_G) (cyJ : ClassId) (a_t : Nat) (a_q0 : Nat) (a_t_held : Nat) (a_t_before : Nat) (a_q0_held : Nat) (a_q0_before : Nat) (c_t_size : Int32) (f_t_held : Nat → Int64) (c_q0_size : Int32) (f_q0_held : Nat → Int64) (r0 : Int32) (hF : F_X3_isSameAs c_t_size f_t_held c_q0_size f_q0_held = some r0) : Met l yX3_isSameAs wsX3_isSameAs rmX3_isSameAs (va_Pc [.ref a_t, .ref a_q0] (wPK D [(cyJ, .long)] [(a_t, .inr (3, [.ref a_t_held, .ref a_t_before, .int c_t_size])), (a_t_held, .inl (cyJ, 12, .inr (.inl f_t_held))), (a_q0, .inr (3, [.ref a_q0_held, .ref a_q0_before, .int c_q0_size])), (a_q0_held, .inl (cyJ, 12, .inr (.inl f_q0_held)))])) (k2_QcV (.int r0)) 0 0 (fun _ => False) := by
  refine Met.ofW (cc := cX3_isSameAs) (maxL := 3) (ret := (some .boolean)) (by decide) rfl ?_
  intro p e s m args below meth c s₁ B hml hv
  obtain ⟨rfl, hP, hK, hnw⟩ := hv
  have hx := B.exec
  have hb := B.bytes
  have hr := B.returns
  have hts := atoms_spec (ws := wsX3_isSameAs) B.pre
  have hown : s.vm.findClass RX3 = some m.cls := findClass_of_methodNamed B.named
  have hlocks := B.notSynchronized
  have hcf : CallFix _ _ _ _ _ _ _ _ _ := ⟨hx, hb, hml, hown, hts⟩
  have hinX3 : ∀ w ∈ u_ws RX3 TX3 3, w ∈ wsX3_isSameAs := by decide +kernel
  have hfl18 := hts (.fieldLink RX3 18 "Formwheel$Roll" "size" "I") (by decide +kernel)
  have hfl9 := hts (.fieldLink RX3 9 "Formwheel$Roll" "held" "[J") (by decide +kernel)
  have hK0 := hK
  have hl := lv_entry ([.ref a_t, .ref a_q0]) (n := 3) (Nat.le_of_ble_eq_true rfl)
  rw [lg_entry_eq]
  generalize (lg_sl ([.ref a_t, .ref a_q0]) ++ List.replicate (3 - (lg_sl ([.ref a_t, .ref a_q0])).length) Slot.unset).toArray = ls at hl ⊢
  have hl : lv_has ls 3 [(0, .ref a_t), (1, .ref a_q0)] := hl
  have h := hF
  clear hF
  unfold F_X3_isSameAs at h
  refine lv_aload_n hx hb dX3_isSameAs_0 rfl (lv_at hl 0 rfl) ?_
  refine va_get (D := D) (ci := 3) (v := .int c_t_size) (C := RX3) (T := TX3) (N := 3) hx hb hts hinX3 hown hK hP 0 rfl rfl 2 (by decide) hfl18 (fun _ h9 => h9) rfl dX3_isSameAs_1 ?_
  refine lv_aload_n hx hb dX3_isSameAs_4 rfl (lv_at hl 1 rfl) ?_
  refine va_get (D := D) (ci := 3) (v := .int c_q0_size) (C := RX3) (T := TX3) (N := 3) hx hb hts hinX3 hown hK hP 2 rfl rfl 2 (by decide) hfl18 (fun _ h9 => h9) rfl dX3_isSameAs_5 ?_
  refine lv_icmp_eq (tgt := 13) hx hb dX3_isSameAs_8 (by decide) (fun c8 => ?_) (fun c8 => ?_)
  · have h := it_ c8 h
    refine lv_iconst (v := 0) hx hb dX3_isSameAs_13 (by decide) ?_
    refine lv_istore_n (lv' := [(2, .int (0 : Int32)), (0, .ref a_t), (1, .ref a_q0)]) hx hb dX3_isSameAs_14 rfl hl (by decide) rfl (fun ls hl => ?_)
    refine LQ1_k2 (M := fun (y2_15 : Int32) => ∀ (ls : Array Slot), lv_has ls 3 [(0, .ref a_t), (1, .ref a_q0), (2, .int y2_15)] → W p l e rmX3_isSameAs s m ([.ref a_t, .ref a_q0] : List Value).toArray below meth c s.heap [] 0 0 (MQ below (k2_QcV (.int r0)) ([.ref a_t, .ref a_q0] : List Value).toArray s 0 0 (fun _ => False)) (F0 m 15 ls [])) ?_ _ _ h ls (lv_sub hl [1, 2, 0] rfl)
    intro k39 hk39 k47 hk47 ih15 hih15 y2_15 h ls hl
    unfold S_X3_isSameAs_15 at h
    refine lv_iload_n hx hb dX3_isSameAs_15 rfl (lv_at hl 2 rfl) ?_
    refine lv_aload_n hx hb dX3_isSameAs_16 rfl (lv_at hl 0 rfl) ?_
    refine va_get (D := D) (ci := 3) (v := .int c_t_size) (C := RX3) (T := TX3) (N := 3) hx hb hts hinX3 hown hK hP 0 rfl rfl 2 (by decide) hfl18 (fun _ h9 => h9) rfl dX3_isSameAs_17 ?_
    refine lv_icmp_ge (tgt := 47) hx hb dX3_isSameAs_20 (by decide) (fun c20 => ?_) (fun c20 => ?_)
    · have h := it_ c20 h
      rw [hk47] at h
      refine lv_iconst (v := 1) hx hb dX3_isSameAs_47 (by decide) ?_
      have e1 := Option.some.inj h
      subst e1
      exact W.zret hx hb hr narrow_b1 (fun t ht _ => ⟨rfl, ht⟩) no_q dX3_isSameAs_48
    · have h := if_ c20 h
      refine lv_aload_n hx hb dX3_isSameAs_23 rfl (lv_at hl 0 rfl) ?_
      refine va_get (D := D) (ci := 3) (v := .ref a_t_held) (C := RX3) (T := TX3) (N := 3) hx hb hts hinX3 hown hK hP 0 rfl rfl 0 (by decide) hfl9 (fun _ h9 => h9) rfl dX3_isSameAs_24 ?_
      refine lv_iload_n hx hb dX3_isSameAs_27 rfl (lv_at hl 2 rfl) ?_
      obtain ⟨hq28, h⟩ := chk_h h
      refine va_lald hx hb hK hP 1 0 rfl rfl hq28 dX3_isSameAs_28 ?_
      refine lv_aload_n hx hb dX3_isSameAs_29 rfl (lv_at hl 1 rfl) ?_
      refine va_get (D := D) (ci := 3) (v := .ref a_q0_held) (C := RX3) (T := TX3) (N := 3) hx hb hts hinX3 hown hK hP 2 rfl rfl 0 (by decide) hfl9 (fun _ h9 => h9) rfl dX3_isSameAs_30 ?_
      refine lv_iload_n hx hb dX3_isSameAs_33 rfl (lv_at hl 2 rfl) ?_
      obtain ⟨hq34, h⟩ := chk_h h
      refine va_lald hx hb hK hP 3 0 rfl rfl hq34 dX3_isSameAs_34 ?_
      refine W.lcmp hx hb dX3_isSameAs_35 ?_
      refine lv_if_eq (tgt := 41) hx hb dX3_isSameAs_36 (by decide) (fun c36 => ?_) (fun c36 => ?_)
      · have c36 := (lg_cmp_eq _ _).mp c36
        have h := it_ c36 h
        obtain ⟨x2_41, e_x2_41⟩ : ∃ z : Int32, z = y2_15 + 1 := ⟨_, rfl⟩
        have h := bnd_h e_x2_41 h
        refine lv_iinc (v := x2_41) (lv' := [(2, .int x2_41), (0, .ref a_t), (1, .ref a_q0)]) hx hb dX3_isSameAs_41 hl (k := 2) rfl (by rw [e_x2_41]; rfl) (by decide) rfl (fun ls hl => ?_)
        refine lv_goto (tgt := 15) hx hb dX3_isSameAs_44 (by decide) ?_
        exact hih15 x2_41 h ls (lv_sub hl [1, 2, 0] rfl)
      · have c36 := fun z => c36 ((lg_cmp_eq _ _).mpr z)
        have h := if_ c36 h
        rw [hk39] at h
        refine lv_iconst (v := 0) hx hb dX3_isSameAs_39 (by decide) ?_
        have e1 := Option.some.inj h
        subst e1
        exact W.zret hx hb hr narrow_b0 (fun t ht _ => ⟨rfl, ht⟩) no_q dX3_isSameAs_40
  · have h := if_ c8 h
    refine lv_iconst (v := 0) hx hb dX3_isSameAs_11 (by decide) ?_
    have e1 := Option.some.inj h
    subst e1
    exact W.zret hx hb hr narrow_b0 (fun t ht _ => ⟨rfl, ht⟩) no_q dX3_isSameAs_12
