noncomputable abbrev rmJ0_init_db425 : Room := { frames := 3, cells := 1, slots := 300, locals := 126 }
theorem ydJ0_init_db425 : yJ0_init_db425.cls = RJ0 ∧ yJ0_init_db425.cls ≠ "java/lang/invoke/MethodHandle" ∧ yJ0_init_db425.cls ≠ "java/lang/invoke/VarHandle" ∧ (parseMethodDescriptor yJ0_init_db425.desc).map (fun d => d.parameters.length) = some 2 := by decide +kernel
noncomputable def F_J0_init_db425 (c_q0_coder : Int32) (c_q0_count : Int32) (n_q0_value : Nat) (f_q0_value : Nat → Int32) : Option (Int32 × Nat × (Nat → Int32)) :=
 obn (F_J5_getValue_6d5f1 ) (fun u5 =>
 obn (F_J4_length_8abf5 c_q0_count) (fun r10 =>
 obn (F_J5_isLatin1_aae02 c_q0_coder) (fun r16 =>
 (if r16 = 0 then
 none
else
 obn2 (F_J7_copyOfRange_39247 n_q0_value f_q0_value (0 : Int32) r10) (fun n_ret32_32 f_ret32_32 =>
 some ((0 : Int32), n_ret32_32, f_ret32_32))))))
set_option maxHeartbeats 4000000 in
set_option maxRecDepth 100000 in
theorem c_J0_init_db425 (l : Launch) (D : va_G) (cyJ cyB : ClassId) (adK adV : Nat → Nat) (sz : Nat) (a_t : Nat) (a_q0 : Nat) (a_q0_value : Nat) (c_t_coder : Int32) (c_t_hash : Int32) (c_t_hashIsZero : Int32) (c_q0_coder : Int32) (c_q0_maybeLatin1 : Int32) (c_q0_count : Int32) (n_q0_value : Nat) (f_q0_value : Nat → Int32) (o_c_t_coder : Int32) (o_n_t_value : Nat) (o_f_t_value : Nat → Int32) (hF : F_J0_init_db425 c_q0_coder c_q0_count n_q0_value f_q0_value = some (o_c_t_coder, o_n_t_value, o_f_t_value)) : Met l yJ0_init_db425 wsJ0_init_db425 rmJ0_init_db425 (va_Pc [.ref a_t, .ref a_q0, .null] (wPDT D [(cyJ, .long), (cyB, .byte)] [(a_t, .inr (0, [.null, .int c_t_coder, .int c_t_hash, .int c_t_hashIsZero])), (a_q0, .inr (1, [.ref a_q0_value, .int c_q0_coder, .int c_q0_maybeLatin1, .int c_q0_count])), (a_q0_value, .inl (cyB, n_q0_value, .inl f_q0_value))] adK adV sz)) (va_Qv (fun (_ : Nat) => True) (fun u t => wQA D [(a_t, .inr (0, [.ref u, .int o_c_t_coder, .int c_t_hash, .int c_t_hashIsZero])), (a_q0, .inr (1, [.ref a_q0_value, .int c_q0_coder, .int c_q0_maybeLatin1, .int c_q0_count])), (a_q0_value, .inl (cyB, n_q0_value, .inl f_q0_value)), (u, .inl (cyB, o_n_t_value, .inl o_f_t_value))] (va_A [(a_t, .inr (0, [.null, .int c_t_coder, .int c_t_hash, .int c_t_hashIsZero])), (a_q0, .inr (1, [.ref a_q0_value, .int c_q0_coder, .int c_q0_maybeLatin1, .int c_q0_count])), (a_q0_value, .inl (cyB, n_q0_value, .inl f_q0_value))] sz) t) (va_A [(a_t, .inr (0, [.null, .int c_t_coder, .int c_t_hash, .int c_t_hashIsZero])), (a_q0, .inr (1, [.ref a_q0_value, .int c_q0_coder, .int c_q0_maybeLatin1, .int c_q0_count])), (a_q0_value, .inl (cyB, n_q0_value, .inl f_q0_value))] sz)) 1 300 (va_A [(a_t, .inr (0, [.null, .int c_t_coder, .int c_t_hash, .int c_t_hashIsZero])), (a_q0, .inr (1, [.ref a_q0_value, .int c_q0_coder, .int c_q0_maybeLatin1, .int c_q0_count])), (a_q0_value, .inl (cyB, n_q0_value, .inl f_q0_value))] sz) := by
  refine Met.ofW (cc := cJ0_init_db425) (maxL := 5) (ret := none) (by decide) rfl ?_
  intro p e s m args below meth c s₁ B hml hv
  obtain ⟨rfl, ⟨⟨hsz, hP, hK, hD0, hnw⟩, hT⟩⟩ := hv
  have hx := B.exec
  have hb := B.bytes
  have hr := B.returns
  have hts := atoms_spec (ws := wsJ0_init_db425) B.pre
  have hown : s.vm.findClass RJ0 = some m.cls := findClass_of_methodNamed B.named
  have hlocks := B.notSynchronized
  have hcf : CallFix _ _ _ _ _ _ _ _ _ := ⟨hx, hb, hml, hown, hts⟩
  have hini9 : meth.name = "<init>" := (name_of_methodNamed B.named B.method).1
  have hinJ0 : ∀ w ∈ u_ws RJ0 TJ0 4, w ∈ wsJ0_init_db425 := by decide +kernel
  have hfl15 := hts (.fieldLink RJ0 15 "java/lang/String" "coder" "B") (by decide +kernel)
  have hfl9 := hts (.fieldLink RJ0 9 "java/lang/String" "value" "[B") (by decide +kernel)
  subst hsz
  have hD := hD0.self (sz := s.heap.size)
  generalize hAe : va_A [(a_t, .inr (0, [.null, .int c_t_coder, .int c_t_hash, .int c_t_hashIsZero])), (a_q0, .inr (1, [.ref a_q0_value, .int c_q0_coder, .int c_q0_maybeLatin1, .int c_q0_count])), (a_q0_value, .inl (cyB, n_q0_value, .inl f_q0_value))] s.heap.size = A at hD hT ⊢
  have hA : ∀ q : Nat, s.heap.size ≤ q → A q := fun q h => by rw [← hAe]; exact Or.inr h
  have hS : va_S A s.heap s.heap [] := va_S.rf
  have hP : va_P D vwCl [(a_t, .inr (0, [.null, .int c_t_coder, .int c_t_hash, .int c_t_hashIsZero])), (a_q0, .inr (1, [.ref a_q0_value, .int c_q0_coder, .int c_q0_maybeLatin1, .int c_q0_count])), (a_q0_value, .inl (cyB, n_q0_value, .inl f_q0_value))] s.heap := hP
  have hK0 := hK
  have hcB : s.vm.findClass "[B" = some cyB := (hK.2 1 _ rfl).2
  have hl := lv_entry ([.ref a_t, .ref a_q0, .null]) (n := 5) (Nat.le_of_ble_eq_true rfl)
  rw [lg_entry_eq]
  generalize (lg_sl ([.ref a_t, .ref a_q0, .null]) ++ List.replicate (5 - (lg_sl ([.ref a_t, .ref a_q0, .null])).length) Slot.unset).toArray = ls at hl ⊢
  have hl : lv_has ls 5 [(0, .ref a_t), (1, .ref a_q0), (2, .null)] := hl
  have h := hF
  clear hF
  unfold F_J0_init_db425 at h
  refine lv_aload_n hx hb dJ0_init_db425_0 rfl (lv_at hl 0 rfl) ?_
  refine W.objInit hx hb hown (hts (.methodLink RJ0 1 objectInit) (by decide +kernel)) (hts (.instanceMethod objectInit) (by decide +kernel)) (hts (.code objectInit ⟨#[0xb1]⟩ 1 none) (by decide +kernel)) rfl (by rw [hml]; exact hl.1) rfl dJ0_init_db425_1 (Nat.le_of_ble_eq_true rfl) (Nat.le_of_ble_eq_true rfl) ?_
  refine W.eq (g2 := F0 m 4 ls []) rfl ?_
  refine lv_aload_n hx hb dJ0_init_db425_4 rfl (lv_at hl 1 rfl) ?_
  obtain ⟨u5, hc5, h⟩ := obn_h h
  have hPc : va_P D vwCl [(a_q0, .inr (1, [.ref a_q0_value, .int c_q0_coder, .int c_q0_maybeLatin1, .int c_q0_count]))] s.heap := hP.sub [1] rfl
  refine rg_callU (As := []) (rest := []) hcf (c_J5_getValue_6d5f1 l D cyJ cyB a_q0 a_q0_value c_q0_coder c_q0_maybeLatin1 c_q0_count hc5) (va_cwU 0 hts gJ0_init_db425_J5_getValue_6d5f1_u552J4 rfl rfl rfl rfl (by decide +kernel) ⟨Nat.le_of_ble_eq_true rfl, Nat.le_of_ble_eq_true rfl⟩) ⟨bl_PK, (va_recv hK hP (ci := 1) (q0 := 1) rfl rfl), pr_PK hPc hK0 hnw⟩ rfl hl.1 rfl (Nat.le_of_ble_eq_true rfl) dJ0_init_db425_5 ⟨Nat.le_of_ble_eq_true rfl, Nat.le_of_ble_eq_true rfl⟩ ?_
  refine lv_astore_n (lv' := [(3, .ref a_q0_value), (0, .ref a_t), (1, .ref a_q0), (2, .null)]) hx hb dJ0_init_db425_8 rfl hl (by decide) rfl (fun ls hl => ?_)
  refine lv_aload_n hx hb dJ0_init_db425_9 rfl (lv_at hl 2 rfl) ?_
  obtain ⟨r10, hc10, h⟩ := obn_h h
  have hPc : va_P D vwCl [(a_q0, .inr (1, [.ref a_q0_value, .int c_q0_coder, .int c_q0_maybeLatin1, .int c_q0_count]))] s.heap := hP.sub [1] rfl
  refine rg_callU (As := []) (rest := []) hcf (c_J4_length_8abf5 l D cyJ cyB a_q0 a_q0_value c_q0_coder c_q0_maybeLatin1 c_q0_count r10 hc10) (va_cwO 0 hts gJ0_init_db425_J4_length_8abf5_u549J4 rfl rfl rfl (b0 := cJ5_length_8abf5) (m0 := 1) (r0 := (some .int)) (by decide +kernel) (by decide +kernel) ⟨Nat.le_of_ble_eq_true rfl, Nat.le_of_ble_eq_true rfl⟩) ⟨bl_PK, (va_recv hK hP (ci := 1) (q0 := 1) rfl rfl), pr_PK hPc hK0 hnw⟩ rfl hl.1 rfl (Nat.le_of_ble_eq_true rfl) dJ0_init_db425_10 ⟨Nat.le_of_ble_eq_true rfl, Nat.le_of_ble_eq_true rfl⟩ ?_
  refine lv_istore (lv' := [(4, .int r10), (3, .ref a_q0_value), (0, .ref a_t), (1, .ref a_q0), (2, .null)]) hx hb dJ0_init_db425_13 hl (by decide) rfl (fun ls hl => ?_)
  refine lv_aload_n hx hb dJ0_init_db425_15 rfl (lv_at hl 3 rfl) ?_
  obtain ⟨r16, hc16, h⟩ := obn_h h
  have hPc : va_P D vwCl [(a_q0, .inr (1, [.ref a_q0_value, .int c_q0_coder, .int c_q0_maybeLatin1, .int c_q0_count]))] s.heap := hP.sub [1] rfl
  refine rg_callU (As := []) (rest := []) hcf (c_J5_isLatin1_aae02 l D cyJ cyB adK adV a_q0 a_q0_value c_q0_coder c_q0_maybeLatin1 c_q0_count r16 hc16) (va_cwU 0 hts gJ0_init_db425_J5_isLatin1_aae02_u1047J4 rfl rfl rfl rfl (by decide +kernel) ⟨Nat.le_of_ble_eq_true rfl, Nat.le_of_ble_eq_true rfl⟩) ⟨bl_PKT, (va_recv hK hP (ci := 1) (q0 := 1) rfl rfl), pr_PKT hPc hK0 hnw hT hS⟩ rfl hl.1 rfl (Nat.le_of_ble_eq_true rfl) dJ0_init_db425_16 ⟨Nat.le_of_ble_eq_true rfl, Nat.le_of_ble_eq_true rfl⟩ ?_
  refine lv_if_eq (tgt := 41) hx hb dJ0_init_db425_19 (by decide) (fun c19 => ?_) (fun c19 => ?_)
  · have h := it_ c19 h
    cases h
  · have h := if_ c19 h
    refine lv_aload_n hx hb dJ0_init_db425_22 rfl (lv_at hl 2 rfl) ?_
    refine lv_iconst (v := 0) hx hb dJ0_init_db425_23 (by decide) ?_
    refine va_putF (D := D) (ci := 0) (v := .int (0 : Int32)) (ty := tyJ0 1) (C := RJ0) (T := TJ0) (N := 4) hx hb hts hinJ0 tyJ0 tyJ0_ok nmJ0 hown hK hP hD hS 0 rfl rfl 1 (by decide) hfl15 (fun _ h9 => h9) rfl hini9 rfl (by decide +kernel) rfl rfl (Nat.le_of_ble_eq_true rfl) dJ0_init_db425_24 (fun H locs hP hD hS => ?_)
    have hP : va_P D vwCl [(a_t, .inr (0, [.null, .int (0 : Int32), .int c_t_hash, .int c_t_hashIsZero])), (a_q0, .inr (1, [.ref a_q0_value, .int c_q0_coder, .int c_q0_maybeLatin1, .int c_q0_count])), (a_q0_value, .inl (cyB, n_q0_value, .inl f_q0_value))] H := hP
    have hD : va_D A [(a_t, .inr (0, [.null, .int (0 : Int32), .int c_t_hash, .int c_t_hashIsZero])), (a_q0, .inr (1, [.ref a_q0_value, .int c_q0_coder, .int c_q0_maybeLatin1, .int c_q0_count])), (a_q0_value, .inl (cyB, n_q0_value, .inl f_q0_value))] := hD
    refine lv_aload_n hx hb dJ0_init_db425_27 rfl (lv_at hl 2 rfl) ?_
    refine lv_aload_n hx hb dJ0_init_db425_28 rfl (lv_at hl 1 rfl) ?_
    refine lv_iconst (v := 0) hx hb dJ0_init_db425_29 (by decide) ?_
    refine lv_iload hx hb dJ0_init_db425_30 (lv_at hl 0 rfl) ?_
    obtain ⟨n_ret32_32, f_ret32_32, hc32, h⟩ := obn2_h h
    have hPc := hP.sub (ws' := [(a_q0_value, .inl (cyB, n_q0_value, .inl f_q0_value))]) [2] rfl
    have hDc := hD.sub (ws' := [(a_q0_value, .inl (cyB, n_q0_value, .inl f_q0_value))]) [2] (by decide) rfl
    refine hp_r (wr := [(a_t, .inr (0, [.null, .int (0 : Int32), .int c_t_hash, .int c_t_hashIsZero])), (a_q0, .inr (1, [.ref a_q0_value, .int c_q0_coder, .int c_q0_maybeLatin1, .int c_q0_count]))]) (va_runS (As := [.ref a_q0_value, .int (0 : Int32), .int r10]) (rest := [.ref a_t]) hcf (c_J7_copyOfRange_39247 l D cyJ cyB adK adV H.size a_q0_value n_q0_value f_q0_value (0 : Int32) r10 n_ret32_32 f_ret32_32 hc32) (va_cwS 3 hts gJ0_init_db425_J7_copyOfRange_39247 rfl rfl rfl ydJ7_copyOfRange_39247 ⟨Nat.le_of_ble_eq_true rfl, Nat.le_of_ble_eq_true rfl⟩) ⟨bl_PDT, pr_PDT hPc hK0 hDc hnw hT hS (va_free hD hS hA [2] rfl)⟩ rfl rfl hl.1 rfl (lv_room (Nat.le_of_ble_eq_true rfl)) dJ0_init_db425_32 ⟨Nat.le_of_ble_eq_true rfl, Nat.le_of_ble_eq_true rfl⟩) hP hD hS hA [2] [0, 1] rfl rfl (by decide) (by decide) (fun u32 b_ret32_32 H locs hP hD hS => ?_)
    have hP : va_P D vwCl [(a_t, .inr (0, [.null, .int (0 : Int32), .int c_t_hash, .int c_t_hashIsZero])), (a_q0, .inr (1, [.ref a_q0_value, .int c_q0_coder, .int c_q0_maybeLatin1, .int c_q0_count])), (a_q0_value, .inl (cyB, n_q0_value, .inl f_q0_value)), (b_ret32_32, .inl (cyB, n_ret32_32, .inl f_ret32_32))] H := hP
    have hD : va_D A [(a_t, .inr (0, [.null, .int (0 : Int32), .int c_t_hash, .int c_t_hashIsZero])), (a_q0, .inr (1, [.ref a_q0_value, .int c_q0_coder, .int c_q0_maybeLatin1, .int c_q0_count])), (a_q0_value, .inl (cyB, n_q0_value, .inl f_q0_value)), (b_ret32_32, .inl (cyB, n_ret32_32, .inl f_ret32_32))] := hD
    refine va_putF (D := D) (ci := 0) (v := .ref b_ret32_32) (ty := tyJ0 0) (C := RJ0) (T := TJ0) (N := 4) hx hb hts hinJ0 tyJ0 tyJ0_ok nmJ0 hown hK hP hD hS 0 rfl rfl 0 (by decide) hfl9 (fun _ h9 => h9) rfl hini9 rfl (by decide +kernel) rfl rfl (Nat.le_of_ble_eq_true rfl) dJ0_init_db425_35 (fun H locs hP hD hS => ?_)
    have hP : va_P D vwCl [(a_t, .inr (0, [.ref b_ret32_32, .int (0 : Int32), .int c_t_hash, .int c_t_hashIsZero])), (a_q0, .inr (1, [.ref a_q0_value, .int c_q0_coder, .int c_q0_maybeLatin1, .int c_q0_count])), (a_q0_value, .inl (cyB, n_q0_value, .inl f_q0_value)), (b_ret32_32, .inl (cyB, n_ret32_32, .inl f_ret32_32))] H := hP
    have hD : va_D A [(a_t, .inr (0, [.ref b_ret32_32, .int (0 : Int32), .int c_t_hash, .int c_t_hashIsZero])), (a_q0, .inr (1, [.ref a_q0_value, .int c_q0_coder, .int c_q0_maybeLatin1, .int c_q0_count])), (a_q0_value, .inl (cyB, n_q0_value, .inl f_q0_value)), (b_ret32_32, .inl (cyB, n_ret32_32, .inl f_ret32_32))] := hD
    have hP : va_P D vwCl [(a_t, .inr (0, [.ref b_ret32_32, .int (0 : Int32), .int c_t_hash, .int c_t_hashIsZero])), (a_q0, .inr (1, [.ref a_q0_value, .int c_q0_coder, .int c_q0_maybeLatin1, .int c_q0_count])), (a_q0_value, .inl (cyB, n_q0_value, .inl f_q0_value)), (b_ret32_32, .inl (cyB, n_ret32_32, .inl f_ret32_32))] H := hP.sub [0, 1, 2, 3] rfl
    have hD : va_D A [(a_t, .inr (0, [.ref b_ret32_32, .int (0 : Int32), .int c_t_hash, .int c_t_hashIsZero])), (a_q0, .inr (1, [.ref a_q0_value, .int c_q0_coder, .int c_q0_maybeLatin1, .int c_q0_count])), (a_q0_value, .inl (cyB, n_q0_value, .inl f_q0_value)), (b_ret32_32, .inl (cyB, n_ret32_32, .inl f_ret32_32))] := hD.sub [0, 1, 2, 3] (by decide) rfl
    refine lv_goto (tgt := 97) hx hb dJ0_init_db425_38 (by decide) ?_
    obtain ⟨e0, e1, e2⟩ := tup3 h
    subst e0
    subst e1
    subst e2
    have hP9 : va_P D vwCl [(a_t, .inr (0, [.ref b_ret32_32, .int (0 : Int32), .int c_t_hash, .int c_t_hashIsZero])), (a_q0, .inr (1, [.ref a_q0_value, .int c_q0_coder, .int c_q0_maybeLatin1, .int c_q0_count])), (a_q0_value, .inl (cyB, n_q0_value, .inl f_q0_value)), (b_ret32_32, .inl (cyB, n_ret32_32, .inl f_ret32_32))] H := hP.sub [0, 1, 2, 3] rfl
    have hD9 : va_D A [(a_t, .inr (0, [.ref b_ret32_32, .int (0 : Int32), .int c_t_hash, .int c_t_hashIsZero])), (a_q0, .inr (1, [.ref a_q0_value, .int c_q0_coder, .int c_q0_maybeLatin1, .int c_q0_count])), (a_q0_value, .inl (cyB, n_q0_value, .inl f_q0_value)), (b_ret32_32, .inl (cyB, n_ret32_32, .inl f_ret32_32))] := hD.sub [0, 1, 2, 3] (by decide) rfl
    exact W.vret hx hb hr (fun t ht hW => ⟨⟨b_ret32_32, rfl, trivial, wQA_of ht hP9 hD9⟩, hS.F ht⟩) hS.2.2 dJ0_init_db425_97

noncomputable abbrev rmJ0_init_81219 : Room := { frames := 4, cells := 1, slots := 300, locals := 150 }
theorem ydJ0_init_81219 : yJ0_init_81219.cls = RJ0 ∧ yJ0_init_81219.cls ≠ "java/lang/invoke/MethodHandle" ∧ yJ0_init_81219.cls ≠ "java/lang/invoke/VarHandle" ∧ (parseMethodDescriptor yJ0_init_81219.desc).map (fun d => d.parameters.length) = some 1 := by decide +kernel
noncomputable def F_J0_init_81219 (c_q0_coder : Int32) (c_q0_count : Int32) (n_q0_value : Nat) (f_q0_value : Nat → Int32) : Option (Int32 × Nat × (Nat → Int32)) :=
 obn3 (F_J0_init_db425 c_q0_coder c_q0_count n_q0_value f_q0_value) (fun c_t_coder_3 n_t_value_3 f_t_value_3 =>
 some (c_t_coder_3, n_t_value_3, f_t_value_3))
set_option maxHeartbeats 4000000 in
set_option maxRecDepth 100000 in
theorem c_J0_init_81219 (l : Launch) (D : va_G) (cyJ cyB : ClassId) (adK adV : Nat → Nat) (sz : Nat) (a_t : Nat) (a_q0 : Nat) (a_q0_value : Nat) (c_t_coder : Int32) (c_t_hash : Int32) (c_t_hashIsZero : Int32) (c_q0_coder : Int32) (c_q0_maybeLatin1 : Int32) (c_q0_count : Int32) (n_q0_value : Nat) (f_q0_value : Nat → Int32) (o_c_t_coder : Int32) (o_n_t_value : Nat) (o_f_t_value : Nat → Int32) (hF : F_J0_init_81219 c_q0_coder c_q0_count n_q0_value f_q0_value = some (o_c_t_coder, o_n_t_value, o_f_t_value)) : Met l yJ0_init_81219 wsJ0_init_81219 rmJ0_init_81219 (va_Pc [.ref a_t, .ref a_q0] (wPDT D [(cyJ, .long), (cyB, .byte)] [(a_t, .inr (0, [.null, .int c_t_coder, .int c_t_hash, .int c_t_hashIsZero])), (a_q0, .inr (1, [.ref a_q0_value, .int c_q0_coder, .int c_q0_maybeLatin1, .int c_q0_count])), (a_q0_value, .inl (cyB, n_q0_value, .inl f_q0_value))] adK adV sz)) (va_Qv (fun (_ : Nat) => True) (fun u t => wQA D [(a_t, .inr (0, [.ref u, .int o_c_t_coder, .int c_t_hash, .int c_t_hashIsZero])), (a_q0, .inr (1, [.ref a_q0_value, .int c_q0_coder, .int c_q0_maybeLatin1, .int c_q0_count])), (a_q0_value, .inl (cyB, n_q0_value, .inl f_q0_value)), (u, .inl (cyB, o_n_t_value, .inl o_f_t_value))] (va_A [(a_t, .inr (0, [.null, .int c_t_coder, .int c_t_hash, .int c_t_hashIsZero])), (a_q0, .inr (1, [.ref a_q0_value, .int c_q0_coder, .int c_q0_maybeLatin1, .int c_q0_count])), (a_q0_value, .inl (cyB, n_q0_value, .inl f_q0_value))] sz) t) (va_A [(a_t, .inr (0, [.null, .int c_t_coder, .int c_t_hash, .int c_t_hashIsZero])), (a_q0, .inr (1, [.ref a_q0_value, .int c_q0_coder, .int c_q0_maybeLatin1, .int c_q0_count])), (a_q0_value, .inl (cyB, n_q0_value, .inl f_q0_value))] sz)) 1 300 (va_A [(a_t, .inr (0, [.null, .int c_t_coder, .int c_t_hash, .int c_t_hashIsZero])), (a_q0, .inr (1, [.ref a_q0_value, .int c_q0_coder, .int c_q0_maybeLatin1, .int c_q0_count])), (a_q0_value, .inl (cyB, n_q0_value, .inl f_q0_value))] sz) := by
  refine Met.ofW (cc := cJ0_init_81219) (maxL := 2) (ret := none) (by decide) rfl ?_
  intro p e s m args below meth c s₁ B hml hv
  obtain ⟨rfl, ⟨⟨hsz, hP, hK, hD0, hnw⟩, hT⟩⟩ := hv
  have hx := B.exec
  have hb := B.bytes
  have hr := B.returns
  have hts := atoms_spec (ws := wsJ0_init_81219) B.pre
  have hown : s.vm.findClass RJ0 = some m.cls := findClass_of_methodNamed B.named
  have hlocks := B.notSynchronized
  have hcf : CallFix _ _ _ _ _ _ _ _ _ := ⟨hx, hb, hml, hown, hts⟩
  have hini9 : meth.name = "<init>" := (name_of_methodNamed B.named B.method).1
  subst hsz
  have hD := hD0.self (sz := s.heap.size)
  generalize hAe : va_A [(a_t, .inr (0, [.null, .int c_t_coder, .int c_t_hash, .int c_t_hashIsZero])), (a_q0, .inr (1, [.ref a_q0_value, .int c_q0_coder, .int c_q0_maybeLatin1, .int c_q0_count])), (a_q0_value, .inl (cyB, n_q0_value, .inl f_q0_value))] s.heap.size = A at hD hT ⊢
  have hA : ∀ q : Nat, s.heap.size ≤ q → A q := fun q h => by rw [← hAe]; exact Or.inr h
  have hS : va_S A s.heap s.heap [] := va_S.rf
  have hP : va_P D vwCl [(a_t, .inr (0, [.null, .int c_t_coder, .int c_t_hash, .int c_t_hashIsZero])), (a_q0, .inr (1, [.ref a_q0_value, .int c_q0_coder, .int c_q0_maybeLatin1, .int c_q0_count])), (a_q0_value, .inl (cyB, n_q0_value, .inl f_q0_value))] s.heap := hP
  have hK0 := hK
  have hcB : s.vm.findClass "[B" = some cyB := (hK.2 1 _ rfl).2
  have hl := lv_entry ([.ref a_t, .ref a_q0]) (n := 2) (Nat.le_of_ble_eq_true rfl)
  rw [lg_entry_eq]
  generalize (lg_sl ([.ref a_t, .ref a_q0]) ++ List.replicate (2 - (lg_sl ([.ref a_t, .ref a_q0])).length) Slot.unset).toArray = ls at hl ⊢
  have hl : lv_has ls 2 [(0, .ref a_t), (1, .ref a_q0)] := hl
  have h := hF
  clear hF
  unfold F_J0_init_81219 at h
  refine lv_aload_n hx hb dJ0_init_81219_0 rfl (lv_at hl 0 rfl) ?_
  refine lv_aload_n hx hb dJ0_init_81219_1 rfl (lv_at hl 1 rfl) ?_
  refine lv_null hx hb dJ0_init_81219_2 ?_
  obtain ⟨c_t_coder_3, n_t_value_3, f_t_value_3, hc3, h⟩ := obn3_h h
  have hPc := hP.sub (ws' := [(a_t, .inr (0, [.null, .int c_t_coder, .int c_t_hash, .int c_t_hashIsZero])), (a_q0, .inr (1, [.ref a_q0_value, .int c_q0_coder, .int c_q0_maybeLatin1, .int c_q0_count])), (a_q0_value, .inl (cyB, n_q0_value, .inl f_q0_value))]) [0, 1, 2] rfl
  have hDc := hD.sub (ws' := [(a_t, .inr (0, [.null, .int c_t_coder, .int c_t_hash, .int c_t_hashIsZero])), (a_q0, .inr (1, [.ref a_q0_value, .int c_q0_coder, .int c_q0_maybeLatin1, .int c_q0_count])), (a_q0_value, .inl (cyB, n_q0_value, .inl f_q0_value))]) [0, 1, 2] (by decide) rfl
  refine hp_n (wr := []) (va_runI (As := [.ref a_q0, .null]) (rest := []) hcf (c_J0_init_db425 l D cyJ cyB adK adV s.heap.size a_t a_q0 a_q0_value c_t_coder c_t_hash c_t_hashIsZero c_q0_coder c_q0_maybeLatin1 c_q0_count n_q0_value f_q0_value c_t_coder_3 n_t_value_3 f_t_value_3 hc3) (cwI 2 hts gJ0_init_81219_J0_init_db425 rfl rfl rfl (hts (.initialized RJ0) (by decide +kernel)) (hts (.methodLink RJ0 489 yJ0_init_db425) (by decide +kernel)) (hts (.instanceMethod yJ0_init_db425) (by decide +kernel)) rfl (by decide +kernel) ⟨Nat.le_of_ble_eq_true rfl, Nat.le_of_ble_eq_true rfl⟩) ⟨bl_PDT, pr_PDT hPc hK0 hDc hnw hT hS (va_free hD hS hA [0, 1, 2] rfl)⟩ rfl rfl hl.1 rfl (lv_room (Nat.le_of_ble_eq_true rfl)) dJ0_init_81219_3 ⟨Nat.le_of_ble_eq_true rfl, Nat.le_of_ble_eq_true rfl⟩) hP hD hS hA [0, 1, 2] [] rfl rfl (by decide) (by decide) (fun u3 H locs hP hD hS => ?_)
  obtain ⟨b_t_value_3, rfl⟩ : ∃ z : Nat, z = u3 := ⟨_, rfl⟩
  have hP : va_P D vwCl [(a_t, .inr (0, [.ref b_t_value_3, .int c_t_coder_3, .int c_t_hash, .int c_t_hashIsZero])), (a_q0, .inr (1, [.ref a_q0_value, .int c_q0_coder, .int c_q0_maybeLatin1, .int c_q0_count])), (a_q0_value, .inl (cyB, n_q0_value, .inl f_q0_value)), (b_t_value_3, .inl (cyB, n_t_value_3, .inl f_t_value_3))] H := hP
  have hD : va_D A [(a_t, .inr (0, [.ref b_t_value_3, .int c_t_coder_3, .int c_t_hash, .int c_t_hashIsZero])), (a_q0, .inr (1, [.ref a_q0_value, .int c_q0_coder, .int c_q0_maybeLatin1, .int c_q0_count])), (a_q0_value, .inl (cyB, n_q0_value, .inl f_q0_value)), (b_t_value_3, .inl (cyB, n_t_value_3, .inl f_t_value_3))] := hD
  obtain ⟨e0, e1, e2⟩ := tup3 h
  subst e0
  subst e1
  subst e2
  have hP9 : va_P D vwCl [(a_t, .inr (0, [.ref b_t_value_3, .int c_t_coder_3, .int c_t_hash, .int c_t_hashIsZero])), (a_q0, .inr (1, [.ref a_q0_value, .int c_q0_coder, .int c_q0_maybeLatin1, .int c_q0_count])), (a_q0_value, .inl (cyB, n_q0_value, .inl f_q0_value)), (b_t_value_3, .inl (cyB, n_t_value_3, .inl f_t_value_3))] H := hP.sub [0, 1, 2, 3] rfl
  have hD9 : va_D A [(a_t, .inr (0, [.ref b_t_value_3, .int c_t_coder_3, .int c_t_hash, .int c_t_hashIsZero])), (a_q0, .inr (1, [.ref a_q0_value, .int c_q0_coder, .int c_q0_maybeLatin1, .int c_q0_count])), (a_q0_value, .inl (cyB, n_q0_value, .inl f_q0_value)), (b_t_value_3, .inl (cyB, n_t_value_3, .inl f_t_value_3))] := hD.sub [0, 1, 2, 3] (by decide) rfl
  exact W.vret hx hb hr (fun t ht hW => ⟨⟨b_t_value_3, rfl, trivial, wQA_of ht hP9 hD9⟩, hS.F ht⟩) hS.2.2 dJ0_init_81219_6

noncomputable abbrev rmJ4_toString_0e30d : Room := { frames := 5, cells := 2, slots := 304, locals := 171 }
theorem ydJ4_toString_0e30d : yJ4_toString_0e30d.cls = RJ4 ∧ yJ4_toString_0e30d.cls ≠ "java/lang/invoke/MethodHandle" ∧ yJ4_toString_0e30d.cls ≠ "java/lang/invoke/VarHandle" ∧ (parseMethodDescriptor yJ4_toString_0e30d.desc).map (fun d => d.parameters.length) = some 0 := by decide +kernel
noncomputable def F_J4_toString_0e30d (c_t_coder : Int32) (c_t_count : Int32) (n_t_value : Nat) (f_t_value : Nat → Int32) : Option (Unit) :=
 obn3 (F_J0_init_81219 c_t_coder c_t_count n_t_value f_t_value) (fun c_n0_coder_5 n_n0_value_5 f_n0_value_5 =>
 some ())
set_option maxHeartbeats 4000000 in
set_option maxRecDepth 100000 in
theorem c_J4_toString_0e30d (l : Launch) (D : va_G) (cyJ cyB : ClassId) (adK adV : Nat → Nat) (sz : Nat) (a_t : Nat) (a_t_value : Nat) (c_t_coder : Int32) (c_t_maybeLatin1 : Int32) (c_t_count : Int32) (n_t_value : Nat) (f_t_value : Nat → Int32) (hF : F_J4_toString_0e30d c_t_coder c_t_count n_t_value f_t_value = some ()) : Met l yJ4_toString_0e30d wsJ4_toString_0e30d rmJ4_toString_0e30d (va_Pc [.ref a_t] (wPDT D [(cyJ, .long), (cyB, .byte)] [(a_t, .inr (1, [.ref a_t_value, .int c_t_coder, .int c_t_maybeLatin1, .int c_t_count])), (a_t_value, .inl (cyB, n_t_value, .inl f_t_value))] adK adV sz)) (va_Qr (fun (_ : Unit) => True) (fun u r t => wQA D [(a_t, .inr (1, [.ref a_t_value, .int c_t_coder, .int c_t_maybeLatin1, .int c_t_count])), (a_t_value, .inl (cyB, n_t_value, .inl f_t_value))] (va_A [(a_t, .inr (1, [.ref a_t_value, .int c_t_coder, .int c_t_maybeLatin1, .int c_t_count])), (a_t_value, .inl (cyB, n_t_value, .inl f_t_value))] sz) t) (va_A [(a_t, .inr (1, [.ref a_t_value, .int c_t_coder, .int c_t_maybeLatin1, .int c_t_count])), (a_t_value, .inl (cyB, n_t_value, .inl f_t_value))] sz)) 2 304 (va_A [(a_t, .inr (1, [.ref a_t_value, .int c_t_coder, .int c_t_maybeLatin1, .int c_t_count])), (a_t_value, .inl (cyB, n_t_value, .inl f_t_value))] sz) := by
  refine Met.ofW (cc := cJ4_toString_0e30d) (maxL := 1) (ret := (some (.object "java/lang/String"))) (by decide) rfl ?_
  intro p e s m args below meth c s₁ B hml hv
  obtain ⟨rfl, ⟨⟨hsz, hP, hK, hD0, hnw⟩, hT⟩⟩ := hv
  have hx := B.exec
  have hb := B.bytes
  have hr := B.returns
  have hts := atoms_spec (ws := wsJ4_toString_0e30d) B.pre
  have hown : s.vm.findClass RJ4 = some m.cls := findClass_of_methodNamed B.named
  have hlocks := B.notSynchronized
  have hcf : CallFix _ _ _ _ _ _ _ _ _ := ⟨hx, hb, hml, hown, hts⟩
  subst hsz
  have hD := hD0.self (sz := s.heap.size)
  generalize hAe : va_A [(a_t, .inr (1, [.ref a_t_value, .int c_t_coder, .int c_t_maybeLatin1, .int c_t_count])), (a_t_value, .inl (cyB, n_t_value, .inl f_t_value))] s.heap.size = A at hD hT ⊢
  have hA : ∀ q : Nat, s.heap.size ≤ q → A q := fun q h => by rw [← hAe]; exact Or.inr h
  have hS : va_S A s.heap s.heap [] := va_S.rf
  have hP : va_P D vwCl [(a_t, .inr (1, [.ref a_t_value, .int c_t_coder, .int c_t_maybeLatin1, .int c_t_count])), (a_t_value, .inl (cyB, n_t_value, .inl f_t_value))] s.heap := hP
  have hK0 := hK
  have hcB : s.vm.findClass "[B" = some cyB := (hK.2 1 _ rfl).2
  have hl := lv_entry ([.ref a_t]) (n := 1) (Nat.le_of_ble_eq_true rfl)
  rw [lg_entry_eq]
  generalize (lg_sl ([.ref a_t]) ++ List.replicate (1 - (lg_sl ([.ref a_t])).length) Slot.unset).toArray = ls at hl ⊢
  have hl : lv_has ls 1 [(0, .ref a_t)] := hl
  have h := hF
  clear hF
  unfold F_J4_toString_0e30d at h
  refine va_new (ci := 0) (fs := [.null, .int 0, .int 0, .int 0]) (C := RJ0) (T := TJ0) (N := 4) hx hb hts (by decide +kernel) tyJ0 tyJ0_ok hown (hts (.classLink RJ4 18 RJ0) (by decide +kernel)) (hts (.instantiable RJ0 4) (by decide +kernel)) (hts (.initialized RJ0) (by decide +kernel)) hK hP hD hS hA rfl (fun j hj => by rcases (show j = 0 ∨ j = 1 ∨ j = 2 ∨ j = 3 by omega) with rfl | rfl | rfl | rfl <;> rfl) (Nat.le_of_ble_eq_true rfl) (Nat.le_of_ble_eq_true rfl) dJ4_toString_0e30d_0 (fun a_n0 H hP hD hS => ?_)
  have hP : va_P D vwCl [(a_t, .inr (1, [.ref a_t_value, .int c_t_coder, .int c_t_maybeLatin1, .int c_t_count])), (a_t_value, .inl (cyB, n_t_value, .inl f_t_value)), (a_n0, .inr (0, [.null, .int 0, .int 0, .int 0]))] H := hP
  have hD : va_D A [(a_t, .inr (1, [.ref a_t_value, .int c_t_coder, .int c_t_maybeLatin1, .int c_t_count])), (a_t_value, .inl (cyB, n_t_value, .inl f_t_value)), (a_n0, .inr (0, [.null, .int 0, .int 0, .int 0]))] := hD
  refine lv_dup hx hb dJ4_toString_0e30d_3 rfl ?_
  refine lv_aload_n hx hb dJ4_toString_0e30d_4 rfl (lv_at hl 0 rfl) ?_
  obtain ⟨c_n0_coder_5, n_n0_value_5, f_n0_value_5, hc5, h⟩ := obn3_h h
  have hPc := hP.sub (ws' := [(a_n0, .inr (0, [.null, .int 0, .int 0, .int 0])), (a_t, .inr (1, [.ref a_t_value, .int c_t_coder, .int c_t_maybeLatin1, .int c_t_count])), (a_t_value, .inl (cyB, n_t_value, .inl f_t_value))]) [2, 0, 1] rfl
  have hDc := hD.sub (ws' := [(a_n0, .inr (0, [.null, .int 0, .int 0, .int 0])), (a_t, .inr (1, [.ref a_t_value, .int c_t_coder, .int c_t_maybeLatin1, .int c_t_count])), (a_t_value, .inl (cyB, n_t_value, .inl f_t_value))]) [2, 0, 1] (by decide) rfl
  refine hp_n (wr := []) (va_runI (As := [.ref a_t]) (rest := [.ref a_n0]) hcf (c_J0_init_81219 l D cyJ cyB adK adV H.size a_n0 a_t a_t_value 0 0 0 c_t_coder c_t_maybeLatin1 c_t_count n_t_value f_t_value c_n0_coder_5 n_n0_value_5 f_n0_value_5 hc5) (cwI 1 hts gJ4_toString_0e30d_J0_init_81219 rfl rfl rfl (hts (.initialized RJ0) (by decide +kernel)) (hts (.methodLink RJ4 137 yJ0_init_81219) (by decide +kernel)) (hts (.instanceMethod yJ0_init_81219) (by decide +kernel)) rfl (by decide +kernel) ⟨Nat.le_of_ble_eq_true rfl, Nat.le_of_ble_eq_true rfl⟩) ⟨bl_PDT, pr_PDT hPc hK0 hDc hnw hT hS (va_free hD hS hA [2, 0, 1] rfl)⟩ rfl rfl hl.1 rfl (lv_room (Nat.le_of_ble_eq_true rfl)) dJ4_toString_0e30d_5 ⟨Nat.le_of_ble_eq_true rfl, Nat.le_of_ble_eq_true rfl⟩) hP hD hS hA [2, 0, 1] [] rfl rfl (by decide) (by decide) (fun u5 H locs hP hD hS => ?_)
  obtain ⟨b_n0_value_5, rfl⟩ : ∃ z : Nat, z = u5 := ⟨_, rfl⟩
  have hP : va_P D vwCl [(a_n0, .inr (0, [.ref b_n0_value_5, .int c_n0_coder_5, .int 0, .int 0])), (a_t, .inr (1, [.ref a_t_value, .int c_t_coder, .int c_t_maybeLatin1, .int c_t_count])), (a_t_value, .inl (cyB, n_t_value, .inl f_t_value)), (b_n0_value_5, .inl (cyB, n_n0_value_5, .inl f_n0_value_5))] H := hP
  have hD : va_D A [(a_n0, .inr (0, [.ref b_n0_value_5, .int c_n0_coder_5, .int 0, .int 0])), (a_t, .inr (1, [.ref a_t_value, .int c_t_coder, .int c_t_maybeLatin1, .int c_t_count])), (a_t_value, .inl (cyB, n_t_value, .inl f_t_value)), (b_n0_value_5, .inl (cyB, n_n0_value_5, .inl f_n0_value_5))] := hD
  have hP9 : va_P D vwCl [(a_t, .inr (1, [.ref a_t_value, .int c_t_coder, .int c_t_maybeLatin1, .int c_t_count])), (a_t_value, .inl (cyB, n_t_value, .inl f_t_value))] H := hP.sub [1, 2] rfl
  have hD9 : va_D A [(a_t, .inr (1, [.ref a_t_value, .int c_t_coder, .int c_t_maybeLatin1, .int c_t_count])), (a_t_value, .inl (cyB, n_t_value, .inl f_t_value))] := hD.sub [1, 2] (by decide) rfl
  exact W.aret (v := .ref a_n0) hx hb hr (Or.inl ⟨_, rfl⟩) (Or.inr ⟨_, rfl⟩) (fun t ht hW => ⟨⟨(), a_n0, rfl, trivial, wQA_of ht hP9 hD9⟩, hS.F ht⟩) hS.2.2 dJ4_toString_0e30d_8

noncomputable abbrev rmX0_textOf : Room := { frames := 6, cells := 136, slots := 40208, locals := 191 }
theorem ydX0_textOf : yX0_textOf.cls ≠ "java/lang/invoke/MethodHandle" ∧ yX0_textOf.cls ≠ "java/lang/invoke/VarHandle" ∧ (parseMethodDescriptor yX0_textOf.desc).map (fun d => d.parameters.length) = some 1 := by decide +kernel
noncomputable def S_X0_textOf_13 (z0_13 : Int64) (c_n0_coder_z13 : Int32) (k51 : Int32 → Nat → (Nat → Int32) → Option (Unit)) (ih13 : Int32 → Int32 → Nat → (Nat → Int32) → Option (Unit)) (y3_13 : Int32) (c_n0_count_13 : Int32) (n_n0_value_13 : Nat) (f_n0_value_13 : Nat → Int32) : Option (Unit) :=
 (if y3_13 < 0 then
 k51 c_n0_count_13 n_n0_value_13 f_n0_value_13
else
 obn (F_X0_hasOne z0_13 y3_13) (fun r19 =>
 (if r19 = 0 then
 bnd (y3_13 + (-1)) (fun x3_45 =>
 ih13 x3_45 c_n0_count_13 n_n0_value_13 f_n0_value_13)
else
 obn (F_J4_length_8abf5 c_n0_count_13) (fun r26 =>
 (if r26 ≤ 0 then
 obn3 (F_J4_append_bf812 c_n0_coder_z13 c_n0_count_13 n_n0_value_13 f_n0_value_13 y3_13) (fun c_n0_count_41 n_n0_value_41 f_n0_value_41 =>
 bnd (y3_13 + (-1)) (fun x3_45 =>
 ih13 x3_45 c_n0_count_41 n_n0_value_41 f_n0_value_41))
else
 obn3 (F_J4_append_cf468 c_n0_coder_z13 c_n0_count_13 n_n0_value_13 f_n0_value_13 (32 : Int32)) (fun c_n0_count_35 n_n0_value_35 f_n0_value_35 =>
 obn3 (F_J4_append_bf812 c_n0_coder_z13 c_n0_count_35 n_n0_value_35 f_n0_value_35 y3_13) (fun c_n0_count_41 n_n0_value_41 f_n0_value_41 =>
 bnd (y3_13 + (-1)) (fun x3_45 =>
 ih13 x3_45 c_n0_count_41 n_n0_value_41 f_n0_value_41))))))))
noncomputable def F_X0_textOf (p0 : Int64) : Option (Unit) :=
 obn3 (F_J4_init_da8c8 ) (fun c_n0_coder_4 n_n0_value_4 f_n0_value_4 =>
 obn (F_X0_degreeOf p0) (fun r9 =>
 LQ4 (S_X0_textOf_13 p0 c_n0_coder_4 (fun c_n0_count_13_51 n_n0_value_13_51 f_n0_value_13_51 =>
 obn (F_J4_toString_0e30d c_n0_coder_4 c_n0_count_13_51 n_n0_value_13_51 f_n0_value_13_51) (fun u52 =>
 some ()))) 66 r9 0 n_n0_value_4 f_n0_value_4))
set_option maxHeartbeats 4000000 in
set_option maxRecDepth 100000 in
theorem c_X0_textOf (l : Launch) (D : va_G) (cyJ cyB : ClassId) (adK adV : Nat → Nat) (sz : Nat) (p0 : Int64) (hF : F_X0_textOf p0 = some ()) : Met l yX0_textOf wsX0_textOf rmX0_textOf (va_Pc [.long p0] (wPDT D [(cyJ, .long), (cyB, .byte)] [] adK adV sz)) (va_Qr (fun (_ : Unit) => True) (fun u r t => wQA D [] (va_A [] sz) t) (va_A [] sz)) 136 40208 (va_A [] sz) := by
  refine Met.ofW (cc := cX0_textOf) (maxL := 4) (ret := (some (.object "java/lang/String"))) (by decide) rfl ?_
  intro p e s m args below meth c s₁ B hml hv
  obtain ⟨rfl, ⟨⟨hsz, hP, hK, hD0, hnw⟩, hT⟩⟩ := hv
  have hx := B.exec
  have hb := B.bytes
  have hr := B.returns
  have hts := atoms_spec (ws := wsX0_textOf) B.pre
  have hown : s.vm.findClass RX0 = some m.cls := findClass_of_methodNamed B.named
  have hlocks := B.notSynchronized
  have hcf : CallFix _ _ _ _ _ _ _ _ _ := ⟨hx, hb, hml, hown, hts⟩
  subst hsz
  have hD := hD0.self (sz := s.heap.size)
  generalize hAe : va_A [] s.heap.size = A at hD hT ⊢
  have hA : ∀ q : Nat, s.heap.size ≤ q → A q := fun q h => by rw [← hAe]; exact Or.inr h
  have hS : va_S A s.heap s.heap [] := va_S.rf
  have hP : va_P D vwCl [] s.heap := hP
  have hK0 := hK
  have hcB : s.vm.findClass "[B" = some cyB := (hK.2 1 _ rfl).2
  have hl := lv_entry ([.long p0]) (n := 4) (Nat.le_of_ble_eq_true rfl)
  rw [lg_entry_eq]
  generalize (lg_sl ([.long p0]) ++ List.replicate (4 - (lg_sl ([.long p0])).length) Slot.unset).toArray = ls at hl ⊢
  have hl : lv_has ls 4 [(0, .long p0)] := hl
  have h := hF
  clear hF
  unfold F_X0_textOf at h
  refine va_new (ci := 1) (fs := [.null, .int 0, .int 0, .int 0]) (C := RJ4) (T := TJ4) (N := 4) hx hb hts (by decide +kernel) tyJ4 tyJ4_ok hown (hts (.classLink RX0 37 RJ4) (by decide +kernel)) (hts (.instantiable RJ4 4) (by decide +kernel)) (hts (.initialized RJ4) (by decide +kernel)) hK hP hD hS hA rfl (fun j hj => by rcases (show j = 0 ∨ j = 1 ∨ j = 2 ∨ j = 3 by omega) with rfl | rfl | rfl | rfl <;> rfl) (Nat.le_of_ble_eq_true rfl) (Nat.le_of_ble_eq_true rfl) dX0_textOf_0 (fun a_n0 H hP hD hS => ?_)
  have hP : va_P D vwCl [(a_n0, .inr (1, [.null, .int 0, .int 0, .int 0]))] H := hP
  have hD : va_D A [(a_n0, .inr (1, [.null, .int 0, .int 0, .int 0]))] := hD
  refine lv_dup hx hb dX0_textOf_3 rfl ?_
  obtain ⟨c_n0_coder_4, n_n0_value_4, f_n0_value_4, hc4, h⟩ := obn3_h h
  have hPc := hP.sub (ws' := [(a_n0, .inr (1, [.null, .int 0, .int 0, .int 0]))]) [0] rfl
  have hDc := hD.sub (ws' := [(a_n0, .inr (1, [.null, .int 0, .int 0, .int 0]))]) [0] (by decide) rfl
  refine hp_n (wr := []) (va_runI (As := []) (rest := [.ref a_n0]) hcf (c_J4_init_da8c8 l D cyJ cyB adK adV H.size a_n0 0 0 0 c_n0_coder_4 n_n0_value_4 f_n0_value_4 hc4) (cwI 0 hts gX0_textOf_J4_init_da8c8 rfl rfl rfl (hts (.initialized RJ4) (by decide +kernel)) (hts (.methodLink RX0 39 yJ4_init_da8c8) (by decide +kernel)) (hts (.instanceMethod yJ4_init_da8c8) (by decide +kernel)) rfl (by decide +kernel) ⟨Nat.le_of_ble_eq_true rfl, Nat.le_of_ble_eq_true rfl⟩) ⟨bl_PDT, pr_PDT hPc hK0 hDc hnw hT hS (va_free hD hS hA [0] rfl)⟩ rfl rfl hl.1 rfl (lv_room (Nat.le_of_ble_eq_true rfl)) dX0_textOf_4 ⟨Nat.le_of_ble_eq_true rfl, Nat.le_of_ble_eq_true rfl⟩) hP hD hS hA [0] [] rfl rfl (by decide) (by decide) (fun u4 H locs hP hD hS => ?_)
  obtain ⟨b_n0_value_4, rfl⟩ : ∃ z : Nat, z = u4 := ⟨_, rfl⟩
  have hP : va_P D vwCl [(a_n0, .inr (1, [.ref b_n0_value_4, .int c_n0_coder_4, .int 0, .int 0])), (b_n0_value_4, .inl (cyB, n_n0_value_4, .inl f_n0_value_4))] H := hP
  have hD : va_D A [(a_n0, .inr (1, [.ref b_n0_value_4, .int c_n0_coder_4, .int 0, .int 0])), (b_n0_value_4, .inl (cyB, n_n0_value_4, .inl f_n0_value_4))] := hD
  refine lv_astore_n (lv' := [(2, .ref a_n0), (0, .long p0)]) hx hb dX0_textOf_7 rfl hl (by decide) rfl (fun ls hl => ?_)
  refine lv_lload_n hx hb dX0_textOf_8 rfl (lv_at hl 1 rfl) ?_
  obtain ⟨r9, hc9, h⟩ := obn_h h
  refine pz_callS (As := [.long p0]) (rest := []) hcf (c_X0_degreeOf l p0 r9 hc9) (va_cwS 1 hts gX0_textOf_X0_degreeOf rfl rfl rfl ydX0_degreeOf ⟨Nat.le_of_ble_eq_true rfl, Nat.le_of_ble_eq_true rfl⟩) hnw rfl hl.1 rfl (Nat.le_of_ble_eq_true rfl) dX0_textOf_9 ⟨Nat.le_of_ble_eq_true rfl, Nat.le_of_ble_eq_true rfl⟩ ?_
  refine lv_istore_n (lv' := [(3, .int r9), (2, .ref a_n0), (0, .long p0)]) hx hb dX0_textOf_12 rfl hl (by decide) rfl (fun ls hl => ?_)
  refine LQ4_f1 (M := fun nf13 (y3_13 : Int32) (c_n0_count_13 : Int32) (n_n0_value_13 : Nat) (f_n0_value_13 : Nat → Int32) => ∀ (cn13 sn13 : Nat), cn13 + 2 * nf13 ≤ 134 → sn13 + 600 * nf13 ≤ 39904 → ∀ (q_n0_value_13 : Nat) (H : Heap) (locs : List Loc), va_P D vwCl [(a_n0, .inr (1, [.ref q_n0_value_13, .int c_n0_coder_4, .int 0, .int c_n0_count_13])), (q_n0_value_13, .inl (cyB, n_n0_value_13, .inl f_n0_value_13))] H → va_D A [(a_n0, .inr (1, [.ref q_n0_value_13, .int c_n0_coder_4, .int 0, .int c_n0_count_13])), (q_n0_value_13, .inl (cyB, n_n0_value_13, .inl f_n0_value_13))] → va_S A s.heap H locs → ∀ (ls : Array Slot), lv_has ls 4 [(0, .long p0), (2, .ref a_n0), (3, .int y3_13)] → W p l e rmX0_textOf s m ([.long p0] : List Value).toArray below meth c H locs (cn13 + 0) (sn13 + 0) (MQ below (va_Qr (fun (_ : Unit) => True) (fun u r t => wQA D [] A t) A) ([.long p0] : List Value).toArray s 136 40208 A) (F0 m 13 ls [])) ?_ 66 _ _ _ _ h 2 304 (Nat.le_of_ble_eq_true rfl) (Nat.le_of_ble_eq_true rfl) _ _ _ hP hD hS ls (lv_sub hl [2, 1, 0] rfl)
  intro nf13 k51 hk51 ih13 hih13 y3_13 c_n0_count_13 n_n0_value_13 f_n0_value_13 h cn13 sn13 hcn13 hsn13 q_n0_value_13 H locs hP hD hS ls hl
  unfold S_X0_textOf_13 at h
  refine lv_iload_n hx hb dX0_textOf_13 rfl (lv_at hl 2 rfl) ?_
  refine lv_if_lt (tgt := 51) hx hb dX0_textOf_14 (by decide) (fun c14 => ?_) (fun c14 => ?_)
  · have h := it_ c14 h
    rw [hk51] at h
    refine W.widen (k := 134) (n := 39904) (by omega) (by omega) ?_
    refine lv_aload_n hx hb dX0_textOf_51 rfl (lv_at hl 1 rfl) ?_
    obtain ⟨u52, hc52, h⟩ := obn_h h
    have hPc := hP.sub (ws' := [(a_n0, .inr (1, [.ref q_n0_value_13, .int c_n0_coder_4, .int 0, .int c_n0_count_13])), (q_n0_value_13, .inl (cyB, n_n0_value_13, .inl f_n0_value_13))]) [0, 1] rfl
    have hDc := hD.sub (ws' := [(a_n0, .inr (1, [.ref q_n0_value_13, .int c_n0_coder_4, .int 0, .int c_n0_count_13])), (q_n0_value_13, .inl (cyB, n_n0_value_13, .inl f_n0_value_13))]) [0, 1] (by decide) rfl
    refine hp_r (wr := []) (va_runV (As := []) (rest := []) hcf (c_J4_toString_0e30d l D cyJ cyB adK adV H.size a_n0 q_n0_value_13 c_n0_coder_4 0 c_n0_count_13 n_n0_value_13 f_n0_value_13 hc52) (cwV 0 hts gX0_textOf_J4_toString_0e30d rfl rfl rfl ydJ4_toString_0e30d ⟨Nat.le_of_ble_eq_true rfl, Nat.le_of_ble_eq_true rfl⟩) ⟨bl_PDT, (va_recv hK hP (ci := 1) (q0 := 0) rfl rfl), pr_PDT hPc hK0 hDc hnw hT hS (va_free hD hS hA [0, 1] rfl)⟩ rfl rfl hl.1 rfl (lv_room (Nat.le_of_ble_eq_true rfl)) dX0_textOf_52 ⟨Nat.le_of_ble_eq_true rfl, Nat.le_of_ble_eq_true rfl⟩) hP hD hS hA [0, 1] [] rfl rfl (by decide) (by decide) (fun u52 b_ret52_52 H locs hP hD hS => ?_)
    have hP : va_P D vwCl [(a_n0, .inr (1, [.ref q_n0_value_13, .int c_n0_coder_4, .int 0, .int c_n0_count_13])), (q_n0_value_13, .inl (cyB, n_n0_value_13, .inl f_n0_value_13))] H := hP
    have hD : va_D A [(a_n0, .inr (1, [.ref q_n0_value_13, .int c_n0_coder_4, .int 0, .int c_n0_count_13])), (q_n0_value_13, .inl (cyB, n_n0_value_13, .inl f_n0_value_13))] := hD
    have hP9 : va_P D vwCl [] H := hP.sub [] rfl
    have hD9 : va_D A [] := hD.sub [] (by decide) rfl
    exact W.aret (v := .ref b_ret52_52) hx hb hr (Or.inl ⟨_, rfl⟩) (Or.inr ⟨_, rfl⟩) (fun t ht hW => ⟨⟨(), b_ret52_52, rfl, trivial, wQA_of ht hP9 hD9⟩, hS.F ht⟩) hS.2.2 dX0_textOf_55
  · have h := if_ c14 h
    refine lv_lload_n hx hb dX0_textOf_17 rfl (lv_at hl 0 rfl) ?_
    refine lv_iload_n hx hb dX0_textOf_18 rfl (lv_at hl 2 rfl) ?_
    obtain ⟨r19, hc19, h⟩ := obn_h h
    refine pz_callS (As := [.long p0, .int y3_13]) (rest := []) hcf (c_X0_hasOne l p0 y3_13 r19 hc19) (va_cwS 2 hts gX0_textOf_X0_hasOne rfl rfl rfl ydX0_hasOne ⟨Nat.le_of_ble_eq_true rfl, Nat.le_of_ble_eq_true rfl⟩) hnw rfl hl.1 rfl (Nat.le_of_ble_eq_true rfl) dX0_textOf_19 ⟨Nat.le_trans (m := 134) (by omega) (Nat.le_of_ble_eq_true rfl), Nat.le_trans (m := 39904) (by omega) (Nat.le_of_ble_eq_true rfl)⟩ ?_
    refine lv_if_eq (tgt := 45) hx hb dX0_textOf_22 (by decide) (fun c22 => ?_) (fun c22 => ?_)
    · have h := it_ c22 h
      obtain ⟨x3_45, e_x3_45⟩ : ∃ z : Int32, z = y3_13 + (-1) := ⟨_, rfl⟩
      have h := bnd_h e_x3_45 h
      refine lv_iinc (v := x3_45) (lv' := [(3, .int x3_45), (0, .long p0), (2, .ref a_n0)]) hx hb dX0_textOf_45 hl (k := 2) rfl (by rw [e_x3_45]; rfl) (by decide) rfl (fun ls hl => ?_)
      refine lv_goto (tgt := 13) hx hb dX0_textOf_48 (by decide) ?_
      exact hih13 x3_45 c_n0_count_13 n_n0_value_13 f_n0_value_13 h _ _ (by omega) (by omega) _ _ _ (hP.sub [0, 1] rfl) (hD.sub [0, 1] (by decide) rfl) hS ls (lv_sub hl [1, 2, 0] rfl)
    · have h := if_ c22 h
      refine lv_aload_n hx hb dX0_textOf_25 rfl (lv_at hl 1 rfl) ?_
      obtain ⟨r26, hc26, h⟩ := obn_h h
      have hPc : va_P D vwCl [(a_n0, .inr (1, [.ref q_n0_value_13, .int c_n0_coder_4, .int 0, .int c_n0_count_13]))] H := hP.sub [0] rfl
      refine rg_callV (As := []) (rest := []) hcf (c_J4_length_8abf5 l D cyJ cyB a_n0 q_n0_value_13 c_n0_coder_4 0 c_n0_count_13 r26 hc26) (cwV 0 hts gX0_textOf_J4_length_8abf5 rfl rfl rfl ydJ4_length_8abf5 ⟨Nat.le_of_ble_eq_true rfl, Nat.le_of_ble_eq_true rfl⟩) ⟨bl_PK, (va_recv hK hP (ci := 1) (q0 := 0) rfl rfl), pr_PK hPc hK0 hnw⟩ rfl hl.1 rfl (Nat.le_of_ble_eq_true rfl) dX0_textOf_26 ⟨Nat.le_trans (m := 134) (by omega) (Nat.le_of_ble_eq_true rfl), Nat.le_trans (m := 39904) (by omega) (Nat.le_of_ble_eq_true rfl)⟩ ?_
      refine lv_if_le (tgt := 39) hx hb dX0_textOf_29 (by decide) (fun c29 => ?_) (fun c29 => ?_)
      · have h := it_ c29 h
        refine lv_aload_n hx hb dX0_textOf_39 rfl (lv_at hl 1 rfl) ?_
        refine lv_iload_n hx hb dX0_textOf_40 rfl (lv_at hl 2 rfl) ?_
        obtain ⟨c_n0_count_41, n_n0_value_41, f_n0_value_41, hc41, h⟩ := obn3_h h
        have hPc := hP.sub (ws' := [(a_n0, .inr (1, [.ref q_n0_value_13, .int c_n0_coder_4, .int 0, .int c_n0_count_13])), (q_n0_value_13, .inl (cyB, n_n0_value_13, .inl f_n0_value_13))]) [0, 1] rfl
        have hDc := hD.sub (ws' := [(a_n0, .inr (1, [.ref q_n0_value_13, .int c_n0_coder_4, .int 0, .int c_n0_count_13])), (q_n0_value_13, .inl (cyB, n_n0_value_13, .inl f_n0_value_13))]) [0, 1] (by decide) rfl
        refine hp_t (wr := []) (va_runV (As := [.int y3_13]) (rest := []) hcf (c_J4_append_bf812 l D cyJ cyB adK adV H.size a_n0 q_n0_value_13 c_n0_coder_4 0 c_n0_count_13 n_n0_value_13 f_n0_value_13 y3_13 c_n0_count_41 n_n0_value_41 f_n0_value_41 hc41) (cwV 1 hts gX0_textOf_J4_append_bf812 rfl rfl rfl ydJ4_append_bf812 ⟨Nat.le_of_ble_eq_true rfl, Nat.le_of_ble_eq_true rfl⟩) ⟨bl_PDT, (va_recv hK hP (ci := 1) (q0 := 0) rfl rfl), pr_PDT hPc hK0 hDc hnw hT hS (va_free hD hS hA [0, 1] rfl)⟩ rfl rfl hl.1 rfl (lv_room (Nat.le_of_ble_eq_true rfl)) dX0_textOf_41 ⟨Nat.le_trans (m := 134) (by omega) (Nat.le_of_ble_eq_true rfl), Nat.le_trans (m := 39904) (by omega) (Nat.le_of_ble_eq_true rfl)⟩) hP hD hS hA [0, 1] [] rfl rfl (by decide) (by decide) (fun u41 H locs hP hD hS => ?_)
        obtain ⟨b_n0_value_41, rfl⟩ : ∃ z : Nat, z = u41 := ⟨_, rfl⟩
        have hP : va_P D vwCl [(a_n0, .inr (1, [.ref b_n0_value_41, .int c_n0_coder_4, .int 0, .int c_n0_count_41])), (b_n0_value_41, .inl (cyB, n_n0_value_41, .inl f_n0_value_41))] H := hP
        have hD : va_D A [(a_n0, .inr (1, [.ref b_n0_value_41, .int c_n0_coder_4, .int 0, .int c_n0_count_41])), (b_n0_value_41, .inl (cyB, n_n0_value_41, .inl f_n0_value_41))] := hD
        refine lv_pop hx hb dX0_textOf_44 rfl ?_
        obtain ⟨x3_45, e_x3_45⟩ : ∃ z : Int32, z = y3_13 + (-1) := ⟨_, rfl⟩
        have h := bnd_h e_x3_45 h
        refine lv_iinc (v := x3_45) (lv' := [(3, .int x3_45), (0, .long p0), (2, .ref a_n0)]) hx hb dX0_textOf_45 hl (k := 2) rfl (by rw [e_x3_45]; rfl) (by decide) rfl (fun ls hl => ?_)
        refine lv_goto (tgt := 13) hx hb dX0_textOf_48 (by decide) ?_
        exact hih13 x3_45 c_n0_count_41 n_n0_value_41 f_n0_value_41 h _ _ (by omega) (by omega) _ _ _ (hP.sub [0, 1] rfl) (hD.sub [0, 1] (by decide) rfl) hS ls (lv_sub hl [1, 2, 0] rfl)
      · have h := if_ c29 h
        refine lv_aload_n hx hb dX0_textOf_32 rfl (lv_at hl 1 rfl) ?_
        refine lv_bipush (v := 32) hx hb dX0_textOf_33 (by decide) ?_
        obtain ⟨c_n0_count_35, n_n0_value_35, f_n0_value_35, hc35, h⟩ := obn3_h h
        have hPc := hP.sub (ws' := [(a_n0, .inr (1, [.ref q_n0_value_13, .int c_n0_coder_4, .int 0, .int c_n0_count_13])), (q_n0_value_13, .inl (cyB, n_n0_value_13, .inl f_n0_value_13))]) [0, 1] rfl
        have hDc := hD.sub (ws' := [(a_n0, .inr (1, [.ref q_n0_value_13, .int c_n0_coder_4, .int 0, .int c_n0_count_13])), (q_n0_value_13, .inl (cyB, n_n0_value_13, .inl f_n0_value_13))]) [0, 1] (by decide) rfl
        refine hp_t (wr := []) (va_runV (As := [.int (32 : Int32)]) (rest := []) hcf (c_J4_append_cf468 l D cyJ cyB adK adV H.size a_n0 q_n0_value_13 c_n0_coder_4 0 c_n0_count_13 n_n0_value_13 f_n0_value_13 (32 : Int32) c_n0_count_35 n_n0_value_35 f_n0_value_35 hc35) (cwV 1 hts gX0_textOf_J4_append_cf468 rfl rfl rfl ydJ4_append_cf468 ⟨Nat.le_of_ble_eq_true rfl, Nat.le_of_ble_eq_true rfl⟩) ⟨bl_PDT, (va_recv hK hP (ci := 1) (q0 := 0) rfl rfl), pr_PDT hPc hK0 hDc hnw hT hS (va_free hD hS hA [0, 1] rfl)⟩ rfl rfl hl.1 rfl (lv_room (Nat.le_of_ble_eq_true rfl)) dX0_textOf_35 ⟨Nat.le_trans (m := 134) (by omega) (Nat.le_of_ble_eq_true rfl), Nat.le_trans (m := 39904) (by omega) (Nat.le_of_ble_eq_true rfl)⟩) hP hD hS hA [0, 1] [] rfl rfl (by decide) (by decide) (fun u35 H locs hP hD hS => ?_)
        obtain ⟨b_n0_value_35, rfl⟩ : ∃ z : Nat, z = u35 := ⟨_, rfl⟩
        have hP : va_P D vwCl [(a_n0, .inr (1, [.ref b_n0_value_35, .int c_n0_coder_4, .int 0, .int c_n0_count_35])), (b_n0_value_35, .inl (cyB, n_n0_value_35, .inl f_n0_value_35))] H := hP
        have hD : va_D A [(a_n0, .inr (1, [.ref b_n0_value_35, .int c_n0_coder_4, .int 0, .int c_n0_count_35])), (b_n0_value_35, .inl (cyB, n_n0_value_35, .inl f_n0_value_35))] := hD
        refine lv_pop hx hb dX0_textOf_38 rfl ?_
        refine lv_aload_n hx hb dX0_textOf_39 rfl (lv_at hl 1 rfl) ?_
        refine lv_iload_n hx hb dX0_textOf_40 rfl (lv_at hl 2 rfl) ?_
        obtain ⟨c_n0_count_41, n_n0_value_41, f_n0_value_41, hc41, h⟩ := obn3_h h
        have hPc := hP.sub (ws' := [(a_n0, .inr (1, [.ref b_n0_value_35, .int c_n0_coder_4, .int 0, .int c_n0_count_35])), (b_n0_value_35, .inl (cyB, n_n0_value_35, .inl f_n0_value_35))]) [0, 1] rfl
        have hDc := hD.sub (ws' := [(a_n0, .inr (1, [.ref b_n0_value_35, .int c_n0_coder_4, .int 0, .int c_n0_count_35])), (b_n0_value_35, .inl (cyB, n_n0_value_35, .inl f_n0_value_35))]) [0, 1] (by decide) rfl
        refine hp_t (wr := []) (va_runV (As := [.int y3_13]) (rest := []) hcf (c_J4_append_bf812 l D cyJ cyB adK adV H.size a_n0 b_n0_value_35 c_n0_coder_4 0 c_n0_count_35 n_n0_value_35 f_n0_value_35 y3_13 c_n0_count_41 n_n0_value_41 f_n0_value_41 hc41) (cwV 1 hts gX0_textOf_J4_append_bf812 rfl rfl rfl ydJ4_append_bf812 ⟨Nat.le_of_ble_eq_true rfl, Nat.le_of_ble_eq_true rfl⟩) ⟨bl_PDT, (va_recv hK hP (ci := 1) (q0 := 0) rfl rfl), pr_PDT hPc hK0 hDc hnw hT hS (va_free hD hS hA [0, 1] rfl)⟩ rfl rfl hl.1 rfl (lv_room (Nat.le_of_ble_eq_true rfl)) dX0_textOf_41 ⟨Nat.le_trans (m := 134) (by omega) (Nat.le_of_ble_eq_true rfl), Nat.le_trans (m := 39904) (by omega) (Nat.le_of_ble_eq_true rfl)⟩) hP hD hS hA [0, 1] [] rfl rfl (by decide) (by decide) (fun u41 H locs hP hD hS => ?_)
        obtain ⟨b_n0_value_41, rfl⟩ : ∃ z : Nat, z = u41 := ⟨_, rfl⟩
        have hP : va_P D vwCl [(a_n0, .inr (1, [.ref b_n0_value_41, .int c_n0_coder_4, .int 0, .int c_n0_count_41])), (b_n0_value_41, .inl (cyB, n_n0_value_41, .inl f_n0_value_41))] H := hP
        have hD : va_D A [(a_n0, .inr (1, [.ref b_n0_value_41, .int c_n0_coder_4, .int 0, .int c_n0_count_41])), (b_n0_value_41, .inl (cyB, n_n0_value_41, .inl f_n0_value_41))] := hD
        refine lv_pop hx hb dX0_textOf_44 rfl ?_
        obtain ⟨x3_45, e_x3_45⟩ : ∃ z : Int32, z = y3_13 + (-1) := ⟨_, rfl⟩
        have h := bnd_h e_x3_45 h
        refine lv_iinc (v := x3_45) (lv' := [(3, .int x3_45), (0, .long p0), (2, .ref a_n0)]) hx hb dX0_textOf_45 hl (k := 2) rfl (by rw [e_x3_45]; rfl) (by decide) rfl (fun ls hl => ?_)
        refine lv_goto (tgt := 13) hx hb dX0_textOf_48 (by decide) ?_
        exact hih13 x3_45 c_n0_count_41 n_n0_value_41 f_n0_value_41 h _ _ (by omega) (by omega) _ _ _ (hP.sub [0, 1] rfl) (hD.sub [0, 1] (by decide) rfl) hS ls (lv_sub hl [1, 2, 0] rfl)

noncomputable abbrev rmX7_text : Room := { frames := 9, cells := 137, slots := 40214, locals := 214 }
theorem ydX7_text : yX7_text.cls = RX7 ∧ yX7_text.cls ≠ "java/lang/invoke/MethodHandle" ∧ yX7_text.cls ≠ "java/lang/invoke/VarHandle" ∧ (parseMethodDescriptor yX7_text.desc).map (fun d => d.parameters.length) = some 1 := by decide +kernel
noncomputable def F_X7_text (f_t_forms : Nat → Int64) (p0 : Int32) : Option (Nat) :=
 obn (F_X7_testForm p0) (fun xc1 =>
 if xc1 = 0 then
 chk (¬ (p0 < 0 ∨ 6 ≤ p0.toNatClampNeg)) (
 obn (F_X0_textOf (f_t_forms p0.toNatClampNeg)) (fun u10 =>
 some 0))
else
 some xc1)
set_option maxHeartbeats 4000000 in
set_option maxRecDepth 100000 in
theorem c_X7_text (l : Launch) (hfl : l.stackTraces = false) (D : va_G) (cyJ cyB : ClassId) (adK adV : Nat → Nat) (sz : Nat) (a_t : Nat) (a_t_forms : Nat) (a_t_roll : Nat) (a_t_row : Nat) (a_t_rows : Nat) (a_t_factors : Nat) (a_t_found : Nat) (a_t_foundOtherwise : Nat) (c_t_acts : Int32) (c_t_refusals : Int32) (c_t_knocks : Int32) (f_t_forms : Nat → Int64) (p0 : Int32) (xc : Nat) (hF : F_X7_text f_t_forms p0 = some xc) : vx_Met l yX7_text wsX7_text rmX7_text (va_Pc [.ref a_t, .int p0] (wPXT D [(cyJ, .long), (cyB, .byte)] [(a_t, .inr (6, [.ref a_t_forms, .ref a_t_roll, .ref a_t_row, .ref a_t_rows, .ref a_t_factors, .ref a_t_found, .ref a_t_foundOtherwise, .int c_t_acts, .int c_t_refusals, .int c_t_knocks])), (a_t_forms, .inl (cyJ, 6, .inr (.inl f_t_forms)))] adK adV sz)) (va_Qr (fun (_ : Unit) => xc = 0) (fun u r t => wQA D [(a_t, .inr (6, [.ref a_t_forms, .ref a_t_roll, .ref a_t_row, .ref a_t_rows, .ref a_t_factors, .ref a_t_found, .ref a_t_foundOtherwise, .int c_t_acts, .int c_t_refusals, .int c_t_knocks])), (a_t_forms, .inl (cyJ, 6, .inr (.inl f_t_forms)))] (va_A [(a_t, .inr (6, [.ref a_t_forms, .ref a_t_roll, .ref a_t_row, .ref a_t_rows, .ref a_t_factors, .ref a_t_found, .ref a_t_foundOtherwise, .int c_t_acts, .int c_t_refusals, .int c_t_knocks])), (a_t_forms, .inl (cyJ, 6, .inr (.inl f_t_forms)))] sz) t) (va_A [(a_t, .inr (6, [.ref a_t_forms, .ref a_t_roll, .ref a_t_row, .ref a_t_rows, .ref a_t_factors, .ref a_t_found, .ref a_t_foundOtherwise, .int c_t_acts, .int c_t_refusals, .int c_t_knocks])), (a_t_forms, .inl (cyJ, 6, .inr (.inl f_t_forms)))] sz)) (vx_X (fun (_ : Unit) => ¬ xc = 0) (fun E _ t => E = xcls xc ∧ wQA D [(a_t, .inr (6, [.ref a_t_forms, .ref a_t_roll, .ref a_t_row, .ref a_t_rows, .ref a_t_factors, .ref a_t_found, .ref a_t_foundOtherwise, .int c_t_acts, .int c_t_refusals, .int c_t_knocks])), (a_t_forms, .inl (cyJ, 6, .inr (.inl f_t_forms)))] (va_A [(a_t, .inr (6, [.ref a_t_forms, .ref a_t_roll, .ref a_t_row, .ref a_t_rows, .ref a_t_factors, .ref a_t_found, .ref a_t_foundOtherwise, .int c_t_acts, .int c_t_refusals, .int c_t_knocks])), (a_t_forms, .inl (cyJ, 6, .inr (.inl f_t_forms)))] sz) t) (va_A [(a_t, .inr (6, [.ref a_t_forms, .ref a_t_roll, .ref a_t_row, .ref a_t_rows, .ref a_t_factors, .ref a_t_found, .ref a_t_foundOtherwise, .int c_t_acts, .int c_t_refusals, .int c_t_knocks])), (a_t_forms, .inl (cyJ, 6, .inr (.inl f_t_forms)))] sz)) 137 40214 (va_A [(a_t, .inr (6, [.ref a_t_forms, .ref a_t_roll, .ref a_t_row, .ref a_t_rows, .ref a_t_factors, .ref a_t_found, .ref a_t_foundOtherwise, .int c_t_acts, .int c_t_refusals, .int c_t_knocks])), (a_t_forms, .inl (cyJ, 6, .inr (.inl f_t_forms)))] sz) := by
  refine vx_ofW (cc := cX7_text) (maxL := 2) (ret := (some (.object "java/lang/String"))) (by decide) rfl ?_
  intro p e s m args below meth c s₁ B hml hxt hv
  obtain ⟨rfl, ⟨⟨⟨hsz, hP, hK, hD0, hnw⟩, hE⟩, hT⟩⟩ := hv
  have hx := B.exec
  have hb := B.bytes
  have hr := B.returns
  have hts := atoms_spec (ws := wsX7_text) B.pre
  have hown : s.vm.findClass RX7 = some m.cls := findClass_of_methodNamed B.named
  have hlocks := B.notSynchronized
  have hcf : CallFix _ _ _ _ _ _ _ _ _ := ⟨hx, hb, hml, hown, hts⟩
  have hinX7 : ∀ w ∈ u_ws RX7 TX7 10, w ∈ wsX7_text := by decide +kernel
  have hfl9 := hts (.fieldLink RX7 9 "Formwheel" "forms" "[J") (by decide +kernel)
  subst hsz
  have hD := hD0.self (sz := s.heap.size)
  generalize hAe : va_A [(a_t, .inr (6, [.ref a_t_forms, .ref a_t_roll, .ref a_t_row, .ref a_t_rows, .ref a_t_factors, .ref a_t_found, .ref a_t_foundOtherwise, .int c_t_acts, .int c_t_refusals, .int c_t_knocks])), (a_t_forms, .inl (cyJ, 6, .inr (.inl f_t_forms)))] s.heap.size = A at hD hE hT ⊢
  have hA : ∀ q : Nat, s.heap.size ≤ q → A q := fun q h => by rw [← hAe]; exact Or.inr h
  have hS : va_S A s.heap s.heap [] := va_S.rf
  have hP : va_P D vwCl [(a_t, .inr (6, [.ref a_t_forms, .ref a_t_roll, .ref a_t_row, .ref a_t_rows, .ref a_t_factors, .ref a_t_found, .ref a_t_foundOtherwise, .int c_t_acts, .int c_t_refusals, .int c_t_knocks])), (a_t_forms, .inl (cyJ, 6, .inr (.inl f_t_forms)))] s.heap := hP
  have hK0 := hK
  have hcB : s.vm.findClass "[B" = some cyB := (hK.2 1 _ rfl).2
  have hl := lv_entry ([.ref a_t, .int p0]) (n := 2) (Nat.le_of_ble_eq_true rfl)
  rw [lg_entry_eq]
  generalize (lg_sl ([.ref a_t, .int p0]) ++ List.replicate (2 - (lg_sl ([.ref a_t, .int p0])).length) Slot.unset).toArray = ls at hl ⊢
  have hl : lv_has ls 2 [(0, .ref a_t), (1, .int p0)] := hl
  have h := hF
  clear hF
  unfold F_X7_text at h
  refine lv_iload_n hx hb dX7_text_0 rfl (lv_at hl 1 rfl) ?_
  obtain ⟨xc1, hc1, h⟩ := obn_h h
  have hPc := hP.sub (ws' := []) [] rfl
  have hDc := hD.sub (ws' := []) [] (by decide) rfl
  refine hx_v (w1 := []) (wr := [(a_t, .inr (6, [.ref a_t_forms, .ref a_t_roll, .ref a_t_row, .ref a_t_rows, .ref a_t_factors, .ref a_t_found, .ref a_t_foundOtherwise, .int c_t_acts, .int c_t_refusals, .int c_t_knocks])), (a_t_forms, .inl (cyJ, 6, .inr (.inl f_t_forms)))]) (vx_runS (As := [.int p0]) (rest := []) hcf (c_X7_testForm l hfl D cyJ s.heap.size p0 xc1 hc1) (va_cwS 1 hts gX7_text_X7_testForm rfl rfl rfl ydX7_testForm ⟨Nat.le_of_ble_eq_true rfl, Nat.le_of_ble_eq_true rfl⟩) ⟨bl_PX, pr_PX hPc (hK0.sub [0] rfl) hDc hnw hE hS (va_free hD hS hA [] rfl)⟩ rfl rfl hl.1 rfl (lv_room (Nat.le_of_ble_eq_true rfl)) dX7_text_1 ⟨Nat.le_of_ble_eq_true rfl, Nat.le_of_ble_eq_true rfl⟩) hP hD hS hA [] [0, 1] rfl rfl (by decide) (by decide) (fun E9 ce9 q9 H locs hx9 hE9 hP hD hS hce9 hcv9 hcl9 => ?_) (fun hx9 H locs hP hD hS => ?_)
  · have h := if_ hx9 h
    have hP : va_P D vwCl [(a_t, .inr (6, [.ref a_t_forms, .ref a_t_roll, .ref a_t_row, .ref a_t_rows, .ref a_t_factors, .ref a_t_found, .ref a_t_foundOtherwise, .int c_t_acts, .int c_t_refusals, .int c_t_knocks])), (a_t_forms, .inl (cyJ, 6, .inr (.inl f_t_forms)))] H := hP
    have hD : va_D A [(a_t, .inr (6, [.ref a_t_forms, .ref a_t_roll, .ref a_t_row, .ref a_t_rows, .ref a_t_factors, .ref a_t_found, .ref a_t_foundOtherwise, .int c_t_acts, .int c_t_refusals, .int c_t_knocks])), (a_t_forms, .inl (cyJ, 6, .inr (.inl f_t_forms)))] := hD
    have e1 := Option.some.inj h
    subst e1
    have hP9 : va_P D vwCl [(a_t, .inr (6, [.ref a_t_forms, .ref a_t_roll, .ref a_t_row, .ref a_t_rows, .ref a_t_factors, .ref a_t_found, .ref a_t_foundOtherwise, .int c_t_acts, .int c_t_refusals, .int c_t_knocks])), (a_t_forms, .inl (cyJ, 6, .inr (.inl f_t_forms)))] H := hP.sub [0, 1] rfl
    have hD9 : va_D A [(a_t, .inr (6, [.ref a_t_forms, .ref a_t_roll, .ref a_t_row, .ref a_t_rows, .ref a_t_factors, .ref a_t_found, .ref a_t_foundOtherwise, .int c_t_acts, .int c_t_refusals, .int c_t_knocks])), (a_t_forms, .inl (cyJ, 6, .inr (.inl f_t_forms)))] := hD.sub [0, 1] (by decide) rfl
    exact vx_out (fun x hx => (hxt x hx).elim) hlocks hce9 hcv9 hcl9 (fun t ht hW => ⟨(), hx9, ⟨hE9, wQA_of ht hP9 hD9⟩, hS.F ht⟩) hS.2.2 (Nat.le_of_ble_eq_true rfl) (Nat.le_of_ble_eq_true rfl)
  · have h := it_ hx9 h
    have hP : va_P D vwCl [(a_t, .inr (6, [.ref a_t_forms, .ref a_t_roll, .ref a_t_row, .ref a_t_rows, .ref a_t_factors, .ref a_t_found, .ref a_t_foundOtherwise, .int c_t_acts, .int c_t_refusals, .int c_t_knocks])), (a_t_forms, .inl (cyJ, 6, .inr (.inl f_t_forms)))] H := hP
    have hD : va_D A [(a_t, .inr (6, [.ref a_t_forms, .ref a_t_roll, .ref a_t_row, .ref a_t_rows, .ref a_t_factors, .ref a_t_found, .ref a_t_foundOtherwise, .int c_t_acts, .int c_t_refusals, .int c_t_knocks])), (a_t_forms, .inl (cyJ, 6, .inr (.inl f_t_forms)))] := hD
    refine lv_aload_n hx hb dX7_text_4 rfl (lv_at hl 0 rfl) ?_
    refine va_get (D := D) (ci := 6) (v := .ref a_t_forms) (C := RX7) (T := TX7) (N := 10) hx hb hts hinX7 hown hK hP 0 rfl rfl 0 (by decide) hfl9 (fun _ h9 => h9) rfl dX7_text_5 ?_
    refine lv_iload_n hx hb dX7_text_8 rfl (lv_at hl 1 rfl) ?_
    obtain ⟨hq9, h⟩ := chk_h h
    refine va_lald hx hb hK hP 1 0 rfl rfl hq9 dX7_text_9 ?_
    obtain ⟨u10, hc10, h⟩ := obn_h h
    have hPc := hP.sub (ws' := []) [] rfl
    have hDc := hD.sub (ws' := []) [] (by decide) rfl
    refine hp_r (wr := [(a_t, .inr (6, [.ref a_t_forms, .ref a_t_roll, .ref a_t_row, .ref a_t_rows, .ref a_t_factors, .ref a_t_found, .ref a_t_foundOtherwise, .int c_t_acts, .int c_t_refusals, .int c_t_knocks])), (a_t_forms, .inl (cyJ, 6, .inr (.inl f_t_forms)))]) (va_runS (As := [.long (f_t_forms p0.toNatClampNeg)]) (rest := []) hcf (c_X0_textOf l D cyJ cyB adK adV H.size (f_t_forms p0.toNatClampNeg) hc10) (va_cwS 1 hts gX7_text_X0_textOf rfl rfl rfl ydX0_textOf ⟨Nat.le_of_ble_eq_true rfl, Nat.le_of_ble_eq_true rfl⟩) ⟨bl_PDT, pr_PDT hPc hK0 hDc hnw hT hS (va_free hD hS hA [] rfl)⟩ rfl rfl hl.1 rfl (lv_room (Nat.le_of_ble_eq_true rfl)) dX7_text_10 ⟨Nat.le_of_ble_eq_true rfl, Nat.le_of_ble_eq_true rfl⟩) hP hD hS hA [] [0, 1] rfl rfl (by decide) (by decide) (fun u10 b_ret10_10 H locs hP hD hS => ?_)
    have hP : va_P D vwCl [(a_t, .inr (6, [.ref a_t_forms, .ref a_t_roll, .ref a_t_row, .ref a_t_rows, .ref a_t_factors, .ref a_t_found, .ref a_t_foundOtherwise, .int c_t_acts, .int c_t_refusals, .int c_t_knocks])), (a_t_forms, .inl (cyJ, 6, .inr (.inl f_t_forms)))] H := hP
    have hD : va_D A [(a_t, .inr (6, [.ref a_t_forms, .ref a_t_roll, .ref a_t_row, .ref a_t_rows, .ref a_t_factors, .ref a_t_found, .ref a_t_foundOtherwise, .int c_t_acts, .int c_t_refusals, .int c_t_knocks])), (a_t_forms, .inl (cyJ, 6, .inr (.inl f_t_forms)))] := hD
    have e1 := Option.some.inj h
    subst e1
    have hP9 : va_P D vwCl [(a_t, .inr (6, [.ref a_t_forms, .ref a_t_roll, .ref a_t_row, .ref a_t_rows, .ref a_t_factors, .ref a_t_found, .ref a_t_foundOtherwise, .int c_t_acts, .int c_t_refusals, .int c_t_knocks])), (a_t_forms, .inl (cyJ, 6, .inr (.inl f_t_forms)))] H := hP.sub [0, 1] rfl
    have hD9 : va_D A [(a_t, .inr (6, [.ref a_t_forms, .ref a_t_roll, .ref a_t_row, .ref a_t_rows, .ref a_t_factors, .ref a_t_found, .ref a_t_foundOtherwise, .int c_t_acts, .int c_t_refusals, .int c_t_knocks])), (a_t_forms, .inl (cyJ, 6, .inr (.inl f_t_forms)))] := hD.sub [0, 1] (by decide) rfl
    refine vx_ret ?_
    exact W.aret (v := .ref b_ret10_10) hx hb hr (Or.inl ⟨_, rfl⟩) (Or.inr ⟨_, rfl⟩) (fun t ht hW => ⟨⟨(), b_ret10_10, rfl, rfl, wQA_of ht hP9 hD9⟩, hS.F ht⟩) hS.2.2 dX7_text_13

noncomputable abbrev rmX7_order : Room := { frames := 9, cells := 2, slots := 12, locals := 120 }
theorem ydX7_order : yX7_order.cls = RX7 ∧ yX7_order.cls ≠ "java/lang/invoke/MethodHandle" ∧ yX7_order.cls ≠ "java/lang/invoke/VarHandle" ∧ (parseMethodDescriptor yX7_order.desc).map (fun d => d.parameters.length) = some 2 := by decide +kernel
noncomputable def F_X7_order (f_t_forms : Nat → Int64) (p0 : Int32) (p1 : Int32) : Option (Nat × Int32) :=
 obn (F_X7_testForm p0) (fun xc1 =>
 if xc1 = 0 then
 obn (F_X7_testForm p1) (fun xc5 =>
 if xc5 = 0 then
 chk (¬ (p0 < 0 ∨ 6 ≤ p0.toNatClampNeg)) (
 chk (¬ (p1 < 0 ∨ 6 ≤ p1.toNatClampNeg)) (
 (if (f_t_forms p0.toNatClampNeg) = (f_t_forms p1.toNatClampNeg) then
 some (0, (0 : Int32))
else
 chk (¬ (p0 < 0 ∨ 6 ≤ p0.toNatClampNeg)) (
 chk (¬ (p1 < 0 ∨ 6 ≤ p1.toNatClampNeg)) (
 (if (f_t_forms p1.toNatClampNeg) ≤ (f_t_forms p0.toNatClampNeg) then
 some (0, (1 : Int32))
else
 some (0, (-1 : Int32))))))))
else
 some (xc5, 0))
else
 some (xc1, 0))
set_option maxHeartbeats 4000000 in
set_option maxRecDepth 100000 in
theorem c_X7_order (l : Launch) (hfl : l.stackTraces = false) (D : va_G) (cyJ : ClassId) (sz : Nat) (a_t : Nat) (a_t_forms : Nat) (a_t_roll : Nat) (a_t_row : Nat) (a_t_rows : Nat) (a_t_factors : Nat) (a_t_found : Nat) (a_t_foundOtherwise : Nat) (c_t_acts : Int32) (c_t_refusals : Int32) (c_t_knocks : Int32) (f_t_forms : Nat → Int64) (p0 : Int32) (p1 : Int32) (xc : Nat) (r0 : Int32) (hF : F_X7_order f_t_forms p0 p1 = some (xc, r0)) : vx_Met l yX7_order wsX7_order rmX7_order (va_Pc [.ref a_t, .int p0, .int p1] (wPX D [(cyJ, .long)] [(a_t, .inr (6, [.ref a_t_forms, .ref a_t_roll, .ref a_t_row, .ref a_t_rows, .ref a_t_factors, .ref a_t_found, .ref a_t_foundOtherwise, .int c_t_acts, .int c_t_refusals, .int c_t_knocks])), (a_t_forms, .inl (cyJ, 6, .inr (.inl f_t_forms)))] sz)) (va_Qi (fun (r : Int32) (_ : Unit) => xc = 0 ∧ r = r0) (fun _ t => wQA D [(a_t, .inr (6, [.ref a_t_forms, .ref a_t_roll, .ref a_t_row, .ref a_t_rows, .ref a_t_factors, .ref a_t_found, .ref a_t_foundOtherwise, .int c_t_acts, .int c_t_refusals, .int c_t_knocks])), (a_t_forms, .inl (cyJ, 6, .inr (.inl f_t_forms)))] (va_A [(a_t, .inr (6, [.ref a_t_forms, .ref a_t_roll, .ref a_t_row, .ref a_t_rows, .ref a_t_factors, .ref a_t_found, .ref a_t_foundOtherwise, .int c_t_acts, .int c_t_refusals, .int c_t_knocks])), (a_t_forms, .inl (cyJ, 6, .inr (.inl f_t_forms)))] sz) t) (va_A [(a_t, .inr (6, [.ref a_t_forms, .ref a_t_roll, .ref a_t_row, .ref a_t_rows, .ref a_t_factors, .ref a_t_found, .ref a_t_foundOtherwise, .int c_t_acts, .int c_t_refusals, .int c_t_knocks])), (a_t_forms, .inl (cyJ, 6, .inr (.inl f_t_forms)))] sz)) (vx_X (fun (_ : Unit) => ¬ xc = 0) (fun E _ t => E = xcls xc ∧ wQA D [(a_t, .inr (6, [.ref a_t_forms, .ref a_t_roll, .ref a_t_row, .ref a_t_rows, .ref a_t_factors, .ref a_t_found, .ref a_t_foundOtherwise, .int c_t_acts, .int c_t_refusals, .int c_t_knocks])), (a_t_forms, .inl (cyJ, 6, .inr (.inl f_t_forms)))] (va_A [(a_t, .inr (6, [.ref a_t_forms, .ref a_t_roll, .ref a_t_row, .ref a_t_rows, .ref a_t_factors, .ref a_t_found, .ref a_t_foundOtherwise, .int c_t_acts, .int c_t_refusals, .int c_t_knocks])), (a_t_forms, .inl (cyJ, 6, .inr (.inl f_t_forms)))] sz) t) (va_A [(a_t, .inr (6, [.ref a_t_forms, .ref a_t_roll, .ref a_t_row, .ref a_t_rows, .ref a_t_factors, .ref a_t_found, .ref a_t_foundOtherwise, .int c_t_acts, .int c_t_refusals, .int c_t_knocks])), (a_t_forms, .inl (cyJ, 6, .inr (.inl f_t_forms)))] sz)) 2 12 (va_A [(a_t, .inr (6, [.ref a_t_forms, .ref a_t_roll, .ref a_t_row, .ref a_t_rows, .ref a_t_factors, .ref a_t_found, .ref a_t_foundOtherwise, .int c_t_acts, .int c_t_refusals, .int c_t_knocks])), (a_t_forms, .inl (cyJ, 6, .inr (.inl f_t_forms)))] sz) := by
  refine vx_ofW (cc := cX7_order) (maxL := 3) (ret := (some .int)) (by decide) rfl ?_
  intro p e s m args below meth c s₁ B hml hxt hv
  obtain ⟨rfl, ⟨⟨hsz, hP, hK, hD0, hnw⟩, hE⟩⟩ := hv
  have hx := B.exec
  have hb := B.bytes
  have hr := B.returns
  have hts := atoms_spec (ws := wsX7_order) B.pre
  have hown : s.vm.findClass RX7 = some m.cls := findClass_of_methodNamed B.named
  have hlocks := B.notSynchronized
  have hcf : CallFix _ _ _ _ _ _ _ _ _ := ⟨hx, hb, hml, hown, hts⟩
  have hinX7 : ∀ w ∈ u_ws RX7 TX7 10, w ∈ wsX7_order := by decide +kernel
  have hfl9 := hts (.fieldLink RX7 9 "Formwheel" "forms" "[J") (by decide +kernel)
  subst hsz
  have hD := hD0.self (sz := s.heap.size)
  generalize hAe : va_A [(a_t, .inr (6, [.ref a_t_forms, .ref a_t_roll, .ref a_t_row, .ref a_t_rows, .ref a_t_factors, .ref a_t_found, .ref a_t_foundOtherwise, .int c_t_acts, .int c_t_refusals, .int c_t_knocks])), (a_t_forms, .inl (cyJ, 6, .inr (.inl f_t_forms)))] s.heap.size = A at hD hE ⊢
  have hA : ∀ q : Nat, s.heap.size ≤ q → A q := fun q h => by rw [← hAe]; exact Or.inr h
  have hS : va_S A s.heap s.heap [] := va_S.rf
  have hP : va_P D vwCl [(a_t, .inr (6, [.ref a_t_forms, .ref a_t_roll, .ref a_t_row, .ref a_t_rows, .ref a_t_factors, .ref a_t_found, .ref a_t_foundOtherwise, .int c_t_acts, .int c_t_refusals, .int c_t_knocks])), (a_t_forms, .inl (cyJ, 6, .inr (.inl f_t_forms)))] s.heap := hP
  have hK0 := hK
  have hl := lv_entry ([.ref a_t, .int p0, .int p1]) (n := 3) (Nat.le_of_ble_eq_true rfl)
  rw [lg_entry_eq]
  generalize (lg_sl ([.ref a_t, .int p0, .int p1]) ++ List.replicate (3 - (lg_sl ([.ref a_t, .int p0, .int p1])).length) Slot.unset).toArray = ls at hl ⊢
  have hl : lv_has ls 3 [(0, .ref a_t), (1, .int p0), (2, .int p1)] := hl
  have h := hF
  clear hF
  unfold F_X7_order at h
  refine lv_iload_n hx hb dX7_order_0 rfl (lv_at hl 1 rfl) ?_
  obtain ⟨xc1, hc1, h⟩ := obn_h h
  have hPc := hP.sub (ws' := []) [] rfl
  have hDc := hD.sub (ws' := []) [] (by decide) rfl
  refine hx_v (w1 := []) (wr := [(a_t, .inr (6, [.ref a_t_forms, .ref a_t_roll, .ref a_t_row, .ref a_t_rows, .ref a_t_factors, .ref a_t_found, .ref a_t_foundOtherwise, .int c_t_acts, .int c_t_refusals, .int c_t_knocks])), (a_t_forms, .inl (cyJ, 6, .inr (.inl f_t_forms)))]) (vx_runS (As := [.int p0]) (rest := []) hcf (c_X7_testForm l hfl D cyJ s.heap.size p0 xc1 hc1) (va_cwS 1 hts gX7_order_X7_testForm rfl rfl rfl ydX7_testForm ⟨Nat.le_of_ble_eq_true rfl, Nat.le_of_ble_eq_true rfl⟩) ⟨bl_PX, pr_PX hPc hK0 hDc hnw hE hS (va_free hD hS hA [] rfl)⟩ rfl rfl hl.1 rfl (lv_room (Nat.le_of_ble_eq_true rfl)) dX7_order_1 ⟨Nat.le_of_ble_eq_true rfl, Nat.le_of_ble_eq_true rfl⟩) hP hD hS hA [] [0, 1] rfl rfl (by decide) (by decide) (fun E9 ce9 q9 H locs hx9 hE9 hP hD hS hce9 hcv9 hcl9 => ?_) (fun hx9 H locs hP hD hS => ?_)
  · have h := if_ hx9 h
    have hP : va_P D vwCl [(a_t, .inr (6, [.ref a_t_forms, .ref a_t_roll, .ref a_t_row, .ref a_t_rows, .ref a_t_factors, .ref a_t_found, .ref a_t_foundOtherwise, .int c_t_acts, .int c_t_refusals, .int c_t_knocks])), (a_t_forms, .inl (cyJ, 6, .inr (.inl f_t_forms)))] H := hP
    have hD : va_D A [(a_t, .inr (6, [.ref a_t_forms, .ref a_t_roll, .ref a_t_row, .ref a_t_rows, .ref a_t_factors, .ref a_t_found, .ref a_t_foundOtherwise, .int c_t_acts, .int c_t_refusals, .int c_t_knocks])), (a_t_forms, .inl (cyJ, 6, .inr (.inl f_t_forms)))] := hD
    obtain ⟨e0, e1⟩ := tup2 h
    subst e0
    subst e1
    have hP9 : va_P D vwCl [(a_t, .inr (6, [.ref a_t_forms, .ref a_t_roll, .ref a_t_row, .ref a_t_rows, .ref a_t_factors, .ref a_t_found, .ref a_t_foundOtherwise, .int c_t_acts, .int c_t_refusals, .int c_t_knocks])), (a_t_forms, .inl (cyJ, 6, .inr (.inl f_t_forms)))] H := hP.sub [0, 1] rfl
    have hD9 : va_D A [(a_t, .inr (6, [.ref a_t_forms, .ref a_t_roll, .ref a_t_row, .ref a_t_rows, .ref a_t_factors, .ref a_t_found, .ref a_t_foundOtherwise, .int c_t_acts, .int c_t_refusals, .int c_t_knocks])), (a_t_forms, .inl (cyJ, 6, .inr (.inl f_t_forms)))] := hD.sub [0, 1] (by decide) rfl
    exact vx_out (fun x hx => (hxt x hx).elim) hlocks hce9 hcv9 hcl9 (fun t ht hW => ⟨(), hx9, ⟨hE9, wQA_of ht hP9 hD9⟩, hS.F ht⟩) hS.2.2 (Nat.le_of_ble_eq_true rfl) (Nat.le_of_ble_eq_true rfl)
  · have h := it_ hx9 h
    have hP : va_P D vwCl [(a_t, .inr (6, [.ref a_t_forms, .ref a_t_roll, .ref a_t_row, .ref a_t_rows, .ref a_t_factors, .ref a_t_found, .ref a_t_foundOtherwise, .int c_t_acts, .int c_t_refusals, .int c_t_knocks])), (a_t_forms, .inl (cyJ, 6, .inr (.inl f_t_forms)))] H := hP
    have hD : va_D A [(a_t, .inr (6, [.ref a_t_forms, .ref a_t_roll, .ref a_t_row, .ref a_t_rows, .ref a_t_factors, .ref a_t_found, .ref a_t_foundOtherwise, .int c_t_acts, .int c_t_refusals, .int c_t_knocks])), (a_t_forms, .inl (cyJ, 6, .inr (.inl f_t_forms)))] := hD
    refine lv_iload_n hx hb dX7_order_4 rfl (lv_at hl 2 rfl) ?_
    obtain ⟨xc5, hc5, h⟩ := obn_h h
    have hPc := hP.sub (ws' := []) [] rfl
    have hDc := hD.sub (ws' := []) [] (by decide) rfl
    refine hx_v (w1 := []) (wr := [(a_t, .inr (6, [.ref a_t_forms, .ref a_t_roll, .ref a_t_row, .ref a_t_rows, .ref a_t_factors, .ref a_t_found, .ref a_t_foundOtherwise, .int c_t_acts, .int c_t_refusals, .int c_t_knocks])), (a_t_forms, .inl (cyJ, 6, .inr (.inl f_t_forms)))]) (vx_runS (As := [.int p1]) (rest := []) hcf (c_X7_testForm l hfl D cyJ H.size p1 xc5 hc5) (va_cwS 1 hts gX7_order_X7_testForm rfl rfl rfl ydX7_testForm ⟨Nat.le_of_ble_eq_true rfl, Nat.le_of_ble_eq_true rfl⟩) ⟨bl_PX, pr_PX hPc hK0 hDc hnw hE hS (va_free hD hS hA [] rfl)⟩ rfl rfl hl.1 rfl (lv_room (Nat.le_of_ble_eq_true rfl)) dX7_order_5 ⟨Nat.le_of_ble_eq_true rfl, Nat.le_of_ble_eq_true rfl⟩) hP hD hS hA [] [0, 1] rfl rfl (by decide) (by decide) (fun E9 ce9 q9 H locs hx9 hE9 hP hD hS hce9 hcv9 hcl9 => ?_) (fun hx9 H locs hP hD hS => ?_)
    · have h := if_ hx9 h
      have hP : va_P D vwCl [(a_t, .inr (6, [.ref a_t_forms, .ref a_t_roll, .ref a_t_row, .ref a_t_rows, .ref a_t_factors, .ref a_t_found, .ref a_t_foundOtherwise, .int c_t_acts, .int c_t_refusals, .int c_t_knocks])), (a_t_forms, .inl (cyJ, 6, .inr (.inl f_t_forms)))] H := hP
      have hD : va_D A [(a_t, .inr (6, [.ref a_t_forms, .ref a_t_roll, .ref a_t_row, .ref a_t_rows, .ref a_t_factors, .ref a_t_found, .ref a_t_foundOtherwise, .int c_t_acts, .int c_t_refusals, .int c_t_knocks])), (a_t_forms, .inl (cyJ, 6, .inr (.inl f_t_forms)))] := hD
      obtain ⟨e0, e1⟩ := tup2 h
      subst e0
      subst e1
      have hP9 : va_P D vwCl [(a_t, .inr (6, [.ref a_t_forms, .ref a_t_roll, .ref a_t_row, .ref a_t_rows, .ref a_t_factors, .ref a_t_found, .ref a_t_foundOtherwise, .int c_t_acts, .int c_t_refusals, .int c_t_knocks])), (a_t_forms, .inl (cyJ, 6, .inr (.inl f_t_forms)))] H := hP.sub [0, 1] rfl
      have hD9 : va_D A [(a_t, .inr (6, [.ref a_t_forms, .ref a_t_roll, .ref a_t_row, .ref a_t_rows, .ref a_t_factors, .ref a_t_found, .ref a_t_foundOtherwise, .int c_t_acts, .int c_t_refusals, .int c_t_knocks])), (a_t_forms, .inl (cyJ, 6, .inr (.inl f_t_forms)))] := hD.sub [0, 1] (by decide) rfl
      exact vx_out (fun x hx => (hxt x hx).elim) hlocks hce9 hcv9 hcl9 (fun t ht hW => ⟨(), hx9, ⟨hE9, wQA_of ht hP9 hD9⟩, hS.F ht⟩) hS.2.2 (Nat.le_of_ble_eq_true rfl) (Nat.le_of_ble_eq_true rfl)
    · have h := it_ hx9 h
      have hP : va_P D vwCl [(a_t, .inr (6, [.ref a_t_forms, .ref a_t_roll, .ref a_t_row, .ref a_t_rows, .ref a_t_factors, .ref a_t_found, .ref a_t_foundOtherwise, .int c_t_acts, .int c_t_refusals, .int c_t_knocks])), (a_t_forms, .inl (cyJ, 6, .inr (.inl f_t_forms)))] H := hP
      have hD : va_D A [(a_t, .inr (6, [.ref a_t_forms, .ref a_t_roll, .ref a_t_row, .ref a_t_rows, .ref a_t_factors, .ref a_t_found, .ref a_t_foundOtherwise, .int c_t_acts, .int c_t_refusals, .int c_t_knocks])), (a_t_forms, .inl (cyJ, 6, .inr (.inl f_t_forms)))] := hD
      refine lv_aload_n hx hb dX7_order_8 rfl (lv_at hl 0 rfl) ?_
      refine va_get (D := D) (ci := 6) (v := .ref a_t_forms) (C := RX7) (T := TX7) (N := 10) hx hb hts hinX7 hown hK hP 0 rfl rfl 0 (by decide) hfl9 (fun _ h9 => h9) rfl dX7_order_9 ?_
      refine lv_iload_n hx hb dX7_order_12 rfl (lv_at hl 1 rfl) ?_
      obtain ⟨hq13, h⟩ := chk_h h
      refine va_lald hx hb hK hP 1 0 rfl rfl hq13 dX7_order_13 ?_
      refine lv_aload_n hx hb dX7_order_14 rfl (lv_at hl 0 rfl) ?_
      refine va_get (D := D) (ci := 6) (v := .ref a_t_forms) (C := RX7) (T := TX7) (N := 10) hx hb hts hinX7 hown hK hP 0 rfl rfl 0 (by decide) hfl9 (fun _ h9 => h9) rfl dX7_order_15 ?_
      refine lv_iload_n hx hb dX7_order_18 rfl (lv_at hl 2 rfl) ?_
      obtain ⟨hq19, h⟩ := chk_h h
      refine va_lald hx hb hK hP 1 0 rfl rfl hq19 dX7_order_19 ?_
      refine W.lcmp hx hb dX7_order_20 ?_
      refine lv_if_ne (tgt := 26) hx hb dX7_order_21 (by decide) (fun c21 => ?_) (fun c21 => ?_)
      · have c21 := fun z => c21 ((lg_cmp_eq _ _).mpr z)
        have h := if_ c21 h
        refine lv_aload_n hx hb dX7_order_26 rfl (lv_at hl 0 rfl) ?_
        refine va_get (D := D) (ci := 6) (v := .ref a_t_forms) (C := RX7) (T := TX7) (N := 10) hx hb hts hinX7 hown hK hP 0 rfl rfl 0 (by decide) hfl9 (fun _ h9 => h9) rfl dX7_order_27 ?_
        refine lv_iload_n hx hb dX7_order_30 rfl (lv_at hl 1 rfl) ?_
        obtain ⟨hq31, h⟩ := chk_h h
        refine va_lald hx hb hK hP 1 0 rfl rfl hq31 dX7_order_31 ?_
        refine lv_aload_n hx hb dX7_order_32 rfl (lv_at hl 0 rfl) ?_
        refine va_get (D := D) (ci := 6) (v := .ref a_t_forms) (C := RX7) (T := TX7) (N := 10) hx hb hts hinX7 hown hK hP 0 rfl rfl 0 (by decide) hfl9 (fun _ h9 => h9) rfl dX7_order_33 ?_
        refine lv_iload_n hx hb dX7_order_36 rfl (lv_at hl 2 rfl) ?_
        obtain ⟨hq37, h⟩ := chk_h h
        refine va_lald hx hb hK hP 1 0 rfl rfl hq37 dX7_order_37 ?_
        refine W.lcmp hx hb dX7_order_38 ?_
        refine lv_if_ge (tgt := 46) hx hb dX7_order_39 (by decide) (fun c39 => ?_) (fun c39 => ?_)
        · have c39 := (lg_cmp_ge _ _).mp c39
          have h := it_ c39 h
          refine lv_iconst (v := 1) hx hb dX7_order_46 (by decide) ?_
          obtain ⟨e0, e1⟩ := tup2 h
          subst e0
          subst e1
          have hP9 : va_P D vwCl [(a_t, .inr (6, [.ref a_t_forms, .ref a_t_roll, .ref a_t_row, .ref a_t_rows, .ref a_t_factors, .ref a_t_found, .ref a_t_foundOtherwise, .int c_t_acts, .int c_t_refusals, .int c_t_knocks])), (a_t_forms, .inl (cyJ, 6, .inr (.inl f_t_forms)))] H := hP.sub [0, 1] rfl
          have hD9 : va_D A [(a_t, .inr (6, [.ref a_t_forms, .ref a_t_roll, .ref a_t_row, .ref a_t_rows, .ref a_t_factors, .ref a_t_found, .ref a_t_foundOtherwise, .int c_t_acts, .int c_t_refusals, .int c_t_knocks])), (a_t_forms, .inl (cyJ, 6, .inr (.inl f_t_forms)))] := hD.sub [0, 1] (by decide) rfl
          refine vx_ret ?_
          exact W.iret hx hb hr (fun t ht hW => ⟨⟨_, (), rfl, ⟨rfl, rfl⟩, wQA_of ht hP9 hD9⟩, hS.F ht⟩) hS.2.2 dX7_order_47
        · have c39 := fun z => c39 ((lg_cmp_ge _ _).mpr z)
          have h := if_ c39 h
          refine lv_iconst (v := -1) hx hb dX7_order_42 (by decide) ?_
          refine lv_goto (tgt := 47) hx hb dX7_order_43 (by decide) ?_
          obtain ⟨e0, e1⟩ := tup2 h
          subst e0
          subst e1
          have hP9 : va_P D vwCl [(a_t, .inr (6, [.ref a_t_forms, .ref a_t_roll, .ref a_t_row, .ref a_t_rows, .ref a_t_factors, .ref a_t_found, .ref a_t_foundOtherwise, .int c_t_acts, .int c_t_refusals, .int c_t_knocks])), (a_t_forms, .inl (cyJ, 6, .inr (.inl f_t_forms)))] H := hP.sub [0, 1] rfl
          have hD9 : va_D A [(a_t, .inr (6, [.ref a_t_forms, .ref a_t_roll, .ref a_t_row, .ref a_t_rows, .ref a_t_factors, .ref a_t_found, .ref a_t_foundOtherwise, .int c_t_acts, .int c_t_refusals, .int c_t_knocks])), (a_t_forms, .inl (cyJ, 6, .inr (.inl f_t_forms)))] := hD.sub [0, 1] (by decide) rfl
          refine vx_ret ?_
          exact W.iret hx hb hr (fun t ht hW => ⟨⟨_, (), rfl, ⟨rfl, rfl⟩, wQA_of ht hP9 hD9⟩, hS.F ht⟩) hS.2.2 dX7_order_47
      · have c21 := (lg_cmp_eq _ _).mp c21
        have h := it_ c21 h
        refine lv_iconst (v := 0) hx hb dX7_order_24 (by decide) ?_
        obtain ⟨e0, e1⟩ := tup2 h
        subst e0
        subst e1
        have hP9 : va_P D vwCl [(a_t, .inr (6, [.ref a_t_forms, .ref a_t_roll, .ref a_t_row, .ref a_t_rows, .ref a_t_factors, .ref a_t_found, .ref a_t_foundOtherwise, .int c_t_acts, .int c_t_refusals, .int c_t_knocks])), (a_t_forms, .inl (cyJ, 6, .inr (.inl f_t_forms)))] H := hP.sub [0, 1] rfl
        have hD9 : va_D A [(a_t, .inr (6, [.ref a_t_forms, .ref a_t_roll, .ref a_t_row, .ref a_t_rows, .ref a_t_factors, .ref a_t_found, .ref a_t_foundOtherwise, .int c_t_acts, .int c_t_refusals, .int c_t_knocks])), (a_t_forms, .inl (cyJ, 6, .inr (.inl f_t_forms)))] := hD.sub [0, 1] (by decide) rfl
        refine vx_ret ?_
        exact W.iret hx hb hr (fun t ht hW => ⟨⟨_, (), rfl, ⟨rfl, rfl⟩, wQA_of ht hP9 hD9⟩, hS.F ht⟩) hS.2.2 dX7_order_25

noncomputable abbrev rmX7_divides : Room := { frames := 9, cells := 2, slots := 12, locals := 120 }
theorem ydX7_divides : yX7_divides.cls = RX7 ∧ yX7_divides.cls ≠ "java/lang/invoke/MethodHandle" ∧ yX7_divides.cls ≠ "java/lang/invoke/VarHandle" ∧ (parseMethodDescriptor yX7_divides.desc).map (fun d => d.parameters.length) = some 2 := by decide +kernel
noncomputable def F_X7_divides (f_t_forms : Nat → Int64) (p0 : Int32) (p1 : Int32) : Option (Nat × Int32) :=
 obn (F_X7_testForm p0) (fun xc1 =>
 if xc1 = 0 then
 obn (F_X7_testForm p1) (fun xc5 =>
 if xc5 = 0 then
 chk (¬ (p0 < 0 ∨ 6 ≤ p0.toNatClampNeg)) (
 chk (¬ (p1 < 0 ∨ 6 ≤ p1.toNatClampNeg)) (
 obn (F_X0_goesInto (f_t_forms p0.toNatClampNeg) (f_t_forms p1.toNatClampNeg)) (fun r20 =>
 obn (zr r20) (fun rb23 =>
 some (0, rb23)))))
else
 some (xc5, 0))
else
 some (xc1, 0))
set_option maxHeartbeats 4000000 in
set_option maxRecDepth 100000 in
theorem c_X7_divides (l : Launch) (hfl : l.stackTraces = false) (D : va_G) (cyJ : ClassId) (sz : Nat) (a_t : Nat) (a_t_forms : Nat) (a_t_roll : Nat) (a_t_row : Nat) (a_t_rows : Nat) (a_t_factors : Nat) (a_t_found : Nat) (a_t_foundOtherwise : Nat) (c_t_acts : Int32) (c_t_refusals : Int32) (c_t_knocks : Int32) (f_t_forms : Nat → Int64) (p0 : Int32) (p1 : Int32) (xc : Nat) (r0 : Int32) (hF : F_X7_divides f_t_forms p0 p1 = some (xc, r0)) : vx_Met l yX7_divides wsX7_divides rmX7_divides (va_Pc [.ref a_t, .int p0, .int p1] (wPX D [(cyJ, .long)] [(a_t, .inr (6, [.ref a_t_forms, .ref a_t_roll, .ref a_t_row, .ref a_t_rows, .ref a_t_factors, .ref a_t_found, .ref a_t_foundOtherwise, .int c_t_acts, .int c_t_refusals, .int c_t_knocks])), (a_t_forms, .inl (cyJ, 6, .inr (.inl f_t_forms)))] sz)) (va_Qi (fun (r : Int32) (_ : Unit) => xc = 0 ∧ r = r0) (fun _ t => wQA D [(a_t, .inr (6, [.ref a_t_forms, .ref a_t_roll, .ref a_t_row, .ref a_t_rows, .ref a_t_factors, .ref a_t_found, .ref a_t_foundOtherwise, .int c_t_acts, .int c_t_refusals, .int c_t_knocks])), (a_t_forms, .inl (cyJ, 6, .inr (.inl f_t_forms)))] (va_A [(a_t, .inr (6, [.ref a_t_forms, .ref a_t_roll, .ref a_t_row, .ref a_t_rows, .ref a_t_factors, .ref a_t_found, .ref a_t_foundOtherwise, .int c_t_acts, .int c_t_refusals, .int c_t_knocks])), (a_t_forms, .inl (cyJ, 6, .inr (.inl f_t_forms)))] sz) t) (va_A [(a_t, .inr (6, [.ref a_t_forms, .ref a_t_roll, .ref a_t_row, .ref a_t_rows, .ref a_t_factors, .ref a_t_found, .ref a_t_foundOtherwise, .int c_t_acts, .int c_t_refusals, .int c_t_knocks])), (a_t_forms, .inl (cyJ, 6, .inr (.inl f_t_forms)))] sz)) (vx_X (fun (_ : Unit) => ¬ xc = 0) (fun E _ t => E = xcls xc ∧ wQA D [(a_t, .inr (6, [.ref a_t_forms, .ref a_t_roll, .ref a_t_row, .ref a_t_rows, .ref a_t_factors, .ref a_t_found, .ref a_t_foundOtherwise, .int c_t_acts, .int c_t_refusals, .int c_t_knocks])), (a_t_forms, .inl (cyJ, 6, .inr (.inl f_t_forms)))] (va_A [(a_t, .inr (6, [.ref a_t_forms, .ref a_t_roll, .ref a_t_row, .ref a_t_rows, .ref a_t_factors, .ref a_t_found, .ref a_t_foundOtherwise, .int c_t_acts, .int c_t_refusals, .int c_t_knocks])), (a_t_forms, .inl (cyJ, 6, .inr (.inl f_t_forms)))] sz) t) (va_A [(a_t, .inr (6, [.ref a_t_forms, .ref a_t_roll, .ref a_t_row, .ref a_t_rows, .ref a_t_factors, .ref a_t_found, .ref a_t_foundOtherwise, .int c_t_acts, .int c_t_refusals, .int c_t_knocks])), (a_t_forms, .inl (cyJ, 6, .inr (.inl f_t_forms)))] sz)) 2 12 (va_A [(a_t, .inr (6, [.ref a_t_forms, .ref a_t_roll, .ref a_t_row, .ref a_t_rows, .ref a_t_factors, .ref a_t_found, .ref a_t_foundOtherwise, .int c_t_acts, .int c_t_refusals, .int c_t_knocks])), (a_t_forms, .inl (cyJ, 6, .inr (.inl f_t_forms)))] sz) := by
  refine vx_ofW (cc := cX7_divides) (maxL := 3) (ret := (some .boolean)) (by decide) rfl ?_
  intro p e s m args below meth c s₁ B hml hxt hv
  obtain ⟨rfl, ⟨⟨hsz, hP, hK, hD0, hnw⟩, hE⟩⟩ := hv
  have hx := B.exec
  have hb := B.bytes
  have hr := B.returns
  have hts := atoms_spec (ws := wsX7_divides) B.pre
  have hown : s.vm.findClass RX7 = some m.cls := findClass_of_methodNamed B.named
  have hlocks := B.notSynchronized
  have hcf : CallFix _ _ _ _ _ _ _ _ _ := ⟨hx, hb, hml, hown, hts⟩
  have hinX7 : ∀ w ∈ u_ws RX7 TX7 10, w ∈ wsX7_divides := by decide +kernel
  have hfl9 := hts (.fieldLink RX7 9 "Formwheel" "forms" "[J") (by decide +kernel)
  subst hsz
  have hD := hD0.self (sz := s.heap.size)
  generalize hAe : va_A [(a_t, .inr (6, [.ref a_t_forms, .ref a_t_roll, .ref a_t_row, .ref a_t_rows, .ref a_t_factors, .ref a_t_found, .ref a_t_foundOtherwise, .int c_t_acts, .int c_t_refusals, .int c_t_knocks])), (a_t_forms, .inl (cyJ, 6, .inr (.inl f_t_forms)))] s.heap.size = A at hD hE ⊢
  have hA : ∀ q : Nat, s.heap.size ≤ q → A q := fun q h => by rw [← hAe]; exact Or.inr h
  have hS : va_S A s.heap s.heap [] := va_S.rf
  have hP : va_P D vwCl [(a_t, .inr (6, [.ref a_t_forms, .ref a_t_roll, .ref a_t_row, .ref a_t_rows, .ref a_t_factors, .ref a_t_found, .ref a_t_foundOtherwise, .int c_t_acts, .int c_t_refusals, .int c_t_knocks])), (a_t_forms, .inl (cyJ, 6, .inr (.inl f_t_forms)))] s.heap := hP
  have hK0 := hK
  have hl := lv_entry ([.ref a_t, .int p0, .int p1]) (n := 3) (Nat.le_of_ble_eq_true rfl)
  rw [lg_entry_eq]
  generalize (lg_sl ([.ref a_t, .int p0, .int p1]) ++ List.replicate (3 - (lg_sl ([.ref a_t, .int p0, .int p1])).length) Slot.unset).toArray = ls at hl ⊢
  have hl : lv_has ls 3 [(0, .ref a_t), (1, .int p0), (2, .int p1)] := hl
  have h := hF
  clear hF
  unfold F_X7_divides at h
  refine lv_iload_n hx hb dX7_divides_0 rfl (lv_at hl 1 rfl) ?_
  obtain ⟨xc1, hc1, h⟩ := obn_h h
  have hPc := hP.sub (ws' := []) [] rfl
  have hDc := hD.sub (ws' := []) [] (by decide) rfl
  refine hx_v (w1 := []) (wr := [(a_t, .inr (6, [.ref a_t_forms, .ref a_t_roll, .ref a_t_row, .ref a_t_rows, .ref a_t_factors, .ref a_t_found, .ref a_t_foundOtherwise, .int c_t_acts, .int c_t_refusals, .int c_t_knocks])), (a_t_forms, .inl (cyJ, 6, .inr (.inl f_t_forms)))]) (vx_runS (As := [.int p0]) (rest := []) hcf (c_X7_testForm l hfl D cyJ s.heap.size p0 xc1 hc1) (va_cwS 1 hts gX7_divides_X7_testForm rfl rfl rfl ydX7_testForm ⟨Nat.le_of_ble_eq_true rfl, Nat.le_of_ble_eq_true rfl⟩) ⟨bl_PX, pr_PX hPc hK0 hDc hnw hE hS (va_free hD hS hA [] rfl)⟩ rfl rfl hl.1 rfl (lv_room (Nat.le_of_ble_eq_true rfl)) dX7_divides_1 ⟨Nat.le_of_ble_eq_true rfl, Nat.le_of_ble_eq_true rfl⟩) hP hD hS hA [] [0, 1] rfl rfl (by decide) (by decide) (fun E9 ce9 q9 H locs hx9 hE9 hP hD hS hce9 hcv9 hcl9 => ?_) (fun hx9 H locs hP hD hS => ?_)
  · have h := if_ hx9 h
    have hP : va_P D vwCl [(a_t, .inr (6, [.ref a_t_forms, .ref a_t_roll, .ref a_t_row, .ref a_t_rows, .ref a_t_factors, .ref a_t_found, .ref a_t_foundOtherwise, .int c_t_acts, .int c_t_refusals, .int c_t_knocks])), (a_t_forms, .inl (cyJ, 6, .inr (.inl f_t_forms)))] H := hP
    have hD : va_D A [(a_t, .inr (6, [.ref a_t_forms, .ref a_t_roll, .ref a_t_row, .ref a_t_rows, .ref a_t_factors, .ref a_t_found, .ref a_t_foundOtherwise, .int c_t_acts, .int c_t_refusals, .int c_t_knocks])), (a_t_forms, .inl (cyJ, 6, .inr (.inl f_t_forms)))] := hD
    obtain ⟨e0, e1⟩ := tup2 h
    subst e0
    subst e1
    have hP9 : va_P D vwCl [(a_t, .inr (6, [.ref a_t_forms, .ref a_t_roll, .ref a_t_row, .ref a_t_rows, .ref a_t_factors, .ref a_t_found, .ref a_t_foundOtherwise, .int c_t_acts, .int c_t_refusals, .int c_t_knocks])), (a_t_forms, .inl (cyJ, 6, .inr (.inl f_t_forms)))] H := hP.sub [0, 1] rfl
    have hD9 : va_D A [(a_t, .inr (6, [.ref a_t_forms, .ref a_t_roll, .ref a_t_row, .ref a_t_rows, .ref a_t_factors, .ref a_t_found, .ref a_t_foundOtherwise, .int c_t_acts, .int c_t_refusals, .int c_t_knocks])), (a_t_forms, .inl (cyJ, 6, .inr (.inl f_t_forms)))] := hD.sub [0, 1] (by decide) rfl
    exact vx_out (fun x hx => (hxt x hx).elim) hlocks hce9 hcv9 hcl9 (fun t ht hW => ⟨(), hx9, ⟨hE9, wQA_of ht hP9 hD9⟩, hS.F ht⟩) hS.2.2 (Nat.le_of_ble_eq_true rfl) (Nat.le_of_ble_eq_true rfl)
  · have h := it_ hx9 h
    have hP : va_P D vwCl [(a_t, .inr (6, [.ref a_t_forms, .ref a_t_roll, .ref a_t_row, .ref a_t_rows, .ref a_t_factors, .ref a_t_found, .ref a_t_foundOtherwise, .int c_t_acts, .int c_t_refusals, .int c_t_knocks])), (a_t_forms, .inl (cyJ, 6, .inr (.inl f_t_forms)))] H := hP
    have hD : va_D A [(a_t, .inr (6, [.ref a_t_forms, .ref a_t_roll, .ref a_t_row, .ref a_t_rows, .ref a_t_factors, .ref a_t_found, .ref a_t_foundOtherwise, .int c_t_acts, .int c_t_refusals, .int c_t_knocks])), (a_t_forms, .inl (cyJ, 6, .inr (.inl f_t_forms)))] := hD
    refine lv_iload_n hx hb dX7_divides_4 rfl (lv_at hl 2 rfl) ?_
    obtain ⟨xc5, hc5, h⟩ := obn_h h
    have hPc := hP.sub (ws' := []) [] rfl
    have hDc := hD.sub (ws' := []) [] (by decide) rfl
    refine hx_v (w1 := []) (wr := [(a_t, .inr (6, [.ref a_t_forms, .ref a_t_roll, .ref a_t_row, .ref a_t_rows, .ref a_t_factors, .ref a_t_found, .ref a_t_foundOtherwise, .int c_t_acts, .int c_t_refusals, .int c_t_knocks])), (a_t_forms, .inl (cyJ, 6, .inr (.inl f_t_forms)))]) (vx_runS (As := [.int p1]) (rest := []) hcf (c_X7_testForm l hfl D cyJ H.size p1 xc5 hc5) (va_cwS 1 hts gX7_divides_X7_testForm rfl rfl rfl ydX7_testForm ⟨Nat.le_of_ble_eq_true rfl, Nat.le_of_ble_eq_true rfl⟩) ⟨bl_PX, pr_PX hPc hK0 hDc hnw hE hS (va_free hD hS hA [] rfl)⟩ rfl rfl hl.1 rfl (lv_room (Nat.le_of_ble_eq_true rfl)) dX7_divides_5 ⟨Nat.le_of_ble_eq_true rfl, Nat.le_of_ble_eq_true rfl⟩) hP hD hS hA [] [0, 1] rfl rfl (by decide) (by decide) (fun E9 ce9 q9 H locs hx9 hE9 hP hD hS hce9 hcv9 hcl9 => ?_) (fun hx9 H locs hP hD hS => ?_)
    · have h := if_ hx9 h
      have hP : va_P D vwCl [(a_t, .inr (6, [.ref a_t_forms, .ref a_t_roll, .ref a_t_row, .ref a_t_rows, .ref a_t_factors, .ref a_t_found, .ref a_t_foundOtherwise, .int c_t_acts, .int c_t_refusals, .int c_t_knocks])), (a_t_forms, .inl (cyJ, 6, .inr (.inl f_t_forms)))] H := hP
      have hD : va_D A [(a_t, .inr (6, [.ref a_t_forms, .ref a_t_roll, .ref a_t_row, .ref a_t_rows, .ref a_t_factors, .ref a_t_found, .ref a_t_foundOtherwise, .int c_t_acts, .int c_t_refusals, .int c_t_knocks])), (a_t_forms, .inl (cyJ, 6, .inr (.inl f_t_forms)))] := hD
      obtain ⟨e0, e1⟩ := tup2 h
      subst e0
      subst e1
      have hP9 : va_P D vwCl [(a_t, .inr (6, [.ref a_t_forms, .ref a_t_roll, .ref a_t_row, .ref a_t_rows, .ref a_t_factors, .ref a_t_found, .ref a_t_foundOtherwise, .int c_t_acts, .int c_t_refusals, .int c_t_knocks])), (a_t_forms, .inl (cyJ, 6, .inr (.inl f_t_forms)))] H := hP.sub [0, 1] rfl
      have hD9 : va_D A [(a_t, .inr (6, [.ref a_t_forms, .ref a_t_roll, .ref a_t_row, .ref a_t_rows, .ref a_t_factors, .ref a_t_found, .ref a_t_foundOtherwise, .int c_t_acts, .int c_t_refusals, .int c_t_knocks])), (a_t_forms, .inl (cyJ, 6, .inr (.inl f_t_forms)))] := hD.sub [0, 1] (by decide) rfl
      exact vx_out (fun x hx => (hxt x hx).elim) hlocks hce9 hcv9 hcl9 (fun t ht hW => ⟨(), hx9, ⟨hE9, wQA_of ht hP9 hD9⟩, hS.F ht⟩) hS.2.2 (Nat.le_of_ble_eq_true rfl) (Nat.le_of_ble_eq_true rfl)
    · have h := it_ hx9 h
      have hP : va_P D vwCl [(a_t, .inr (6, [.ref a_t_forms, .ref a_t_roll, .ref a_t_row, .ref a_t_rows, .ref a_t_factors, .ref a_t_found, .ref a_t_foundOtherwise, .int c_t_acts, .int c_t_refusals, .int c_t_knocks])), (a_t_forms, .inl (cyJ, 6, .inr (.inl f_t_forms)))] H := hP
      have hD : va_D A [(a_t, .inr (6, [.ref a_t_forms, .ref a_t_roll, .ref a_t_row, .ref a_t_rows, .ref a_t_factors, .ref a_t_found, .ref a_t_foundOtherwise, .int c_t_acts, .int c_t_refusals, .int c_t_knocks])), (a_t_forms, .inl (cyJ, 6, .inr (.inl f_t_forms)))] := hD
      refine lv_aload_n hx hb dX7_divides_8 rfl (lv_at hl 0 rfl) ?_
      refine va_get (D := D) (ci := 6) (v := .ref a_t_forms) (C := RX7) (T := TX7) (N := 10) hx hb hts hinX7 hown hK hP 0 rfl rfl 0 (by decide) hfl9 (fun _ h9 => h9) rfl dX7_divides_9 ?_
      refine lv_iload_n hx hb dX7_divides_12 rfl (lv_at hl 1 rfl) ?_
      obtain ⟨hq13, h⟩ := chk_h h
      refine va_lald hx hb hK hP 1 0 rfl rfl hq13 dX7_divides_13 ?_
      refine lv_aload_n hx hb dX7_divides_14 rfl (lv_at hl 0 rfl) ?_
      refine va_get (D := D) (ci := 6) (v := .ref a_t_forms) (C := RX7) (T := TX7) (N := 10) hx hb hts hinX7 hown hK hP 0 rfl rfl 0 (by decide) hfl9 (fun _ h9 => h9) rfl dX7_divides_15 ?_
      refine lv_iload_n hx hb dX7_divides_18 rfl (lv_at hl 2 rfl) ?_
      obtain ⟨hq19, h⟩ := chk_h h
      refine va_lald hx hb hK hP 1 0 rfl rfl hq19 dX7_divides_19 ?_
      obtain ⟨r20, hc20, h⟩ := obn_h h
      refine pz_callS (As := [.long (f_t_forms p0.toNatClampNeg), .long (f_t_forms p1.toNatClampNeg)]) (rest := []) hcf (c_X0_goesInto l (f_t_forms p0.toNatClampNeg) (f_t_forms p1.toNatClampNeg) r20 hc20) (va_cwS 2 hts gX7_divides_X0_goesInto rfl rfl rfl ydX0_goesInto ⟨Nat.le_of_ble_eq_true rfl, Nat.le_of_ble_eq_true rfl⟩) hnw rfl hl.1 rfl (Nat.le_of_ble_eq_true rfl) dX7_divides_20 ⟨Nat.le_of_ble_eq_true rfl, Nat.le_of_ble_eq_true rfl⟩ ?_
      obtain ⟨rb23, hz, h⟩ := obn_h h
      obtain ⟨hz, hnz⟩ := zr_h hz
      subst hz
      obtain ⟨e0, e1⟩ := tup2 h
      subst e0
      subst e1
      have hP9 : va_P D vwCl [(a_t, .inr (6, [.ref a_t_forms, .ref a_t_roll, .ref a_t_row, .ref a_t_rows, .ref a_t_factors, .ref a_t_found, .ref a_t_foundOtherwise, .int c_t_acts, .int c_t_refusals, .int c_t_knocks])), (a_t_forms, .inl (cyJ, 6, .inr (.inl f_t_forms)))] H := hP.sub [0, 1] rfl
      have hD9 : va_D A [(a_t, .inr (6, [.ref a_t_forms, .ref a_t_roll, .ref a_t_row, .ref a_t_rows, .ref a_t_factors, .ref a_t_found, .ref a_t_foundOtherwise, .int c_t_acts, .int c_t_refusals, .int c_t_knocks])), (a_t_forms, .inl (cyJ, 6, .inr (.inl f_t_forms)))] := hD.sub [0, 1] (by decide) rfl
      refine vx_ret ?_
      exact W.zret hx hb hr hnz (fun t ht hW => ⟨⟨_, (), rfl, ⟨rfl, rfl⟩, wQA_of ht hP9 hD9⟩, hS.F ht⟩) hS.2.2 dX7_divides_23

noncomputable abbrev rmX7_check : Room := { frames := 9, cells := 2, slots := 12, locals := 120 }
theorem ydX7_check : yX7_check.cls = RX7 ∧ yX7_check.cls ≠ "java/lang/invoke/MethodHandle" ∧ yX7_check.cls ≠ "java/lang/invoke/VarHandle" ∧ (parseMethodDescriptor yX7_check.desc).map (fun d => d.parameters.length) = some 2 := by decide +kernel
noncomputable def F_X7_check (f_t_forms : Nat → Int64) (p0 : Int32) (p1 : Int32) : Option (Nat × Int32) :=
 obn (F_X7_testForm p0) (fun xc1 =>
 if xc1 = 0 then
 obn (F_X7_testForm p1) (fun xc5 =>
 if xc5 = 0 then
 chk (¬ (p1 < 0 ∨ 6 ≤ p1.toNatClampNeg)) (
 obn (F_X0_degreeOf (f_t_forms p1.toNatClampNeg)) (fun r14 =>
 obn (F_X7_isBetween r14 (1 : Int32) (31 : Int32)) (fun r20 =>
 (if r20 = 0 then
 some (0, (-9 : Int32))
else
 obn (F_X7_canBeSealed f_t_forms p0 p1) (fun r29 =>
 (if r29 = 0 then
 some (0, (-9 : Int32))
else
 chk (¬ (p0 < 0 ∨ 6 ≤ p0.toNatClampNeg)) (
 chk (¬ (p1 < 0 ∨ 6 ≤ p1.toNatClampNeg)) (
 obn (F_X0_checkOf (f_t_forms p0.toNatClampNeg) (f_t_forms p1.toNatClampNeg)) (fun r50 =>
 some (0, r50.toInt32))))))))))
else
 some (xc5, 0))
else
 some (xc1, 0))
set_option maxHeartbeats 4000000 in
set_option maxRecDepth 100000 in
theorem c_X7_check (l : Launch) (hfl : l.stackTraces = false) (D : va_G) (cyJ : ClassId) (sz : Nat) (a_t : Nat) (a_t_forms : Nat) (a_t_roll : Nat) (a_t_row : Nat) (a_t_rows : Nat) (a_t_factors : Nat) (a_t_found : Nat) (a_t_foundOtherwise : Nat) (c_t_acts : Int32) (c_t_refusals : Int32) (c_t_knocks : Int32) (f_t_forms : Nat → Int64) (p0 : Int32) (p1 : Int32) (xc : Nat) (r0 : Int32) (hF : F_X7_check f_t_forms p0 p1 = some (xc, r0)) : vx_Met l yX7_check wsX7_check rmX7_check (va_Pc [.ref a_t, .int p0, .int p1] (wPX D [(cyJ, .long)] [(a_t, .inr (6, [.ref a_t_forms, .ref a_t_roll, .ref a_t_row, .ref a_t_rows, .ref a_t_factors, .ref a_t_found, .ref a_t_foundOtherwise, .int c_t_acts, .int c_t_refusals, .int c_t_knocks])), (a_t_forms, .inl (cyJ, 6, .inr (.inl f_t_forms)))] sz)) (va_Qi (fun (r : Int32) (_ : Unit) => xc = 0 ∧ r = r0) (fun _ t => wQA D [(a_t, .inr (6, [.ref a_t_forms, .ref a_t_roll, .ref a_t_row, .ref a_t_rows, .ref a_t_factors, .ref a_t_found, .ref a_t_foundOtherwise, .int c_t_acts, .int c_t_refusals, .int c_t_knocks])), (a_t_forms, .inl (cyJ, 6, .inr (.inl f_t_forms)))] (va_A [(a_t, .inr (6, [.ref a_t_forms, .ref a_t_roll, .ref a_t_row, .ref a_t_rows, .ref a_t_factors, .ref a_t_found, .ref a_t_foundOtherwise, .int c_t_acts, .int c_t_refusals, .int c_t_knocks])), (a_t_forms, .inl (cyJ, 6, .inr (.inl f_t_forms)))] sz) t) (va_A [(a_t, .inr (6, [.ref a_t_forms, .ref a_t_roll, .ref a_t_row, .ref a_t_rows, .ref a_t_factors, .ref a_t_found, .ref a_t_foundOtherwise, .int c_t_acts, .int c_t_refusals, .int c_t_knocks])), (a_t_forms, .inl (cyJ, 6, .inr (.inl f_t_forms)))] sz)) (vx_X (fun (_ : Unit) => ¬ xc = 0) (fun E _ t => E = xcls xc ∧ wQA D [(a_t, .inr (6, [.ref a_t_forms, .ref a_t_roll, .ref a_t_row, .ref a_t_rows, .ref a_t_factors, .ref a_t_found, .ref a_t_foundOtherwise, .int c_t_acts, .int c_t_refusals, .int c_t_knocks])), (a_t_forms, .inl (cyJ, 6, .inr (.inl f_t_forms)))] (va_A [(a_t, .inr (6, [.ref a_t_forms, .ref a_t_roll, .ref a_t_row, .ref a_t_rows, .ref a_t_factors, .ref a_t_found, .ref a_t_foundOtherwise, .int c_t_acts, .int c_t_refusals, .int c_t_knocks])), (a_t_forms, .inl (cyJ, 6, .inr (.inl f_t_forms)))] sz) t) (va_A [(a_t, .inr (6, [.ref a_t_forms, .ref a_t_roll, .ref a_t_row, .ref a_t_rows, .ref a_t_factors, .ref a_t_found, .ref a_t_foundOtherwise, .int c_t_acts, .int c_t_refusals, .int c_t_knocks])), (a_t_forms, .inl (cyJ, 6, .inr (.inl f_t_forms)))] sz)) 2 12 (va_A [(a_t, .inr (6, [.ref a_t_forms, .ref a_t_roll, .ref a_t_row, .ref a_t_rows, .ref a_t_factors, .ref a_t_found, .ref a_t_foundOtherwise, .int c_t_acts, .int c_t_refusals, .int c_t_knocks])), (a_t_forms, .inl (cyJ, 6, .inr (.inl f_t_forms)))] sz) := by
  refine vx_ofW (cc := cX7_check) (maxL := 3) (ret := (some .int)) (by decide) rfl ?_
  intro p e s m args below meth c s₁ B hml hxt hv
  obtain ⟨rfl, ⟨⟨hsz, hP, hK, hD0, hnw⟩, hE⟩⟩ := hv
  have hx := B.exec
  have hb := B.bytes
  have hr := B.returns
  have hts := atoms_spec (ws := wsX7_check) B.pre
  have hown : s.vm.findClass RX7 = some m.cls := findClass_of_methodNamed B.named
  have hlocks := B.notSynchronized
  have hcf : CallFix _ _ _ _ _ _ _ _ _ := ⟨hx, hb, hml, hown, hts⟩
  have hinX7 : ∀ w ∈ u_ws RX7 TX7 10, w ∈ wsX7_check := by decide +kernel
  have hfl9 := hts (.fieldLink RX7 9 "Formwheel" "forms" "[J") (by decide +kernel)
  subst hsz
  have hD := hD0.self (sz := s.heap.size)
  generalize hAe : va_A [(a_t, .inr (6, [.ref a_t_forms, .ref a_t_roll, .ref a_t_row, .ref a_t_rows, .ref a_t_factors, .ref a_t_found, .ref a_t_foundOtherwise, .int c_t_acts, .int c_t_refusals, .int c_t_knocks])), (a_t_forms, .inl (cyJ, 6, .inr (.inl f_t_forms)))] s.heap.size = A at hD hE ⊢
  have hA : ∀ q : Nat, s.heap.size ≤ q → A q := fun q h => by rw [← hAe]; exact Or.inr h
  have hS : va_S A s.heap s.heap [] := va_S.rf
  have hP : va_P D vwCl [(a_t, .inr (6, [.ref a_t_forms, .ref a_t_roll, .ref a_t_row, .ref a_t_rows, .ref a_t_factors, .ref a_t_found, .ref a_t_foundOtherwise, .int c_t_acts, .int c_t_refusals, .int c_t_knocks])), (a_t_forms, .inl (cyJ, 6, .inr (.inl f_t_forms)))] s.heap := hP
  have hK0 := hK
  have hl := lv_entry ([.ref a_t, .int p0, .int p1]) (n := 3) (Nat.le_of_ble_eq_true rfl)
  rw [lg_entry_eq]
  generalize (lg_sl ([.ref a_t, .int p0, .int p1]) ++ List.replicate (3 - (lg_sl ([.ref a_t, .int p0, .int p1])).length) Slot.unset).toArray = ls at hl ⊢
  have hl : lv_has ls 3 [(0, .ref a_t), (1, .int p0), (2, .int p1)] := hl
  have h := hF
  clear hF
  unfold F_X7_check at h
  refine lv_iload_n hx hb dX7_check_0 rfl (lv_at hl 1 rfl) ?_
  obtain ⟨xc1, hc1, h⟩ := obn_h h
  have hPc := hP.sub (ws' := []) [] rfl
  have hDc := hD.sub (ws' := []) [] (by decide) rfl
  refine hx_v (w1 := []) (wr := [(a_t, .inr (6, [.ref a_t_forms, .ref a_t_roll, .ref a_t_row, .ref a_t_rows, .ref a_t_factors, .ref a_t_found, .ref a_t_foundOtherwise, .int c_t_acts, .int c_t_refusals, .int c_t_knocks])), (a_t_forms, .inl (cyJ, 6, .inr (.inl f_t_forms)))]) (vx_runS (As := [.int p0]) (rest := []) hcf (c_X7_testForm l hfl D cyJ s.heap.size p0 xc1 hc1) (va_cwS 1 hts gX7_check_X7_testForm rfl rfl rfl ydX7_testForm ⟨Nat.le_of_ble_eq_true rfl, Nat.le_of_ble_eq_true rfl⟩) ⟨bl_PX, pr_PX hPc hK0 hDc hnw hE hS (va_free hD hS hA [] rfl)⟩ rfl rfl hl.1 rfl (lv_room (Nat.le_of_ble_eq_true rfl)) dX7_check_1 ⟨Nat.le_of_ble_eq_true rfl, Nat.le_of_ble_eq_true rfl⟩) hP hD hS hA [] [0, 1] rfl rfl (by decide) (by decide) (fun E9 ce9 q9 H locs hx9 hE9 hP hD hS hce9 hcv9 hcl9 => ?_) (fun hx9 H locs hP hD hS => ?_)
  · have h := if_ hx9 h
    have hP : va_P D vwCl [(a_t, .inr (6, [.ref a_t_forms, .ref a_t_roll, .ref a_t_row, .ref a_t_rows, .ref a_t_factors, .ref a_t_found, .ref a_t_foundOtherwise, .int c_t_acts, .int c_t_refusals, .int c_t_knocks])), (a_t_forms, .inl (cyJ, 6, .inr (.inl f_t_forms)))] H := hP
    have hD : va_D A [(a_t, .inr (6, [.ref a_t_forms, .ref a_t_roll, .ref a_t_row, .ref a_t_rows, .ref a_t_factors, .ref a_t_found, .ref a_t_foundOtherwise, .int c_t_acts, .int c_t_refusals, .int c_t_knocks])), (a_t_forms, .inl (cyJ, 6, .inr (.inl f_t_forms)))] := hD
    obtain ⟨e0, e1⟩ := tup2 h
    subst e0
    subst e1
    have hP9 : va_P D vwCl [(a_t, .inr (6, [.ref a_t_forms, .ref a_t_roll, .ref a_t_row, .ref a_t_rows, .ref a_t_factors, .ref a_t_found, .ref a_t_foundOtherwise, .int c_t_acts, .int c_t_refusals, .int c_t_knocks])), (a_t_forms, .inl (cyJ, 6, .inr (.inl f_t_forms)))] H := hP.sub [0, 1] rfl
    have hD9 : va_D A [(a_t, .inr (6, [.ref a_t_forms, .ref a_t_roll, .ref a_t_row, .ref a_t_rows, .ref a_t_factors, .ref a_t_found, .ref a_t_foundOtherwise, .int c_t_acts, .int c_t_refusals, .int c_t_knocks])), (a_t_forms, .inl (cyJ, 6, .inr (.inl f_t_forms)))] := hD.sub [0, 1] (by decide) rfl
    exact vx_out (fun x hx => (hxt x hx).elim) hlocks hce9 hcv9 hcl9 (fun t ht hW => ⟨(), hx9, ⟨hE9, wQA_of ht hP9 hD9⟩, hS.F ht⟩) hS.2.2 (Nat.le_of_ble_eq_true rfl) (Nat.le_of_ble_eq_true rfl)
  · have h := it_ hx9 h
    have hP : va_P D vwCl [(a_t, .inr (6, [.ref a_t_forms, .ref a_t_roll, .ref a_t_row, .ref a_t_rows, .ref a_t_factors, .ref a_t_found, .ref a_t_foundOtherwise, .int c_t_acts, .int c_t_refusals, .int c_t_knocks])), (a_t_forms, .inl (cyJ, 6, .inr (.inl f_t_forms)))] H := hP
    have hD : va_D A [(a_t, .inr (6, [.ref a_t_forms, .ref a_t_roll, .ref a_t_row, .ref a_t_rows, .ref a_t_factors, .ref a_t_found, .ref a_t_foundOtherwise, .int c_t_acts, .int c_t_refusals, .int c_t_knocks])), (a_t_forms, .inl (cyJ, 6, .inr (.inl f_t_forms)))] := hD
    refine lv_iload_n hx hb dX7_check_4 rfl (lv_at hl 2 rfl) ?_
    obtain ⟨xc5, hc5, h⟩ := obn_h h
    have hPc := hP.sub (ws' := []) [] rfl
    have hDc := hD.sub (ws' := []) [] (by decide) rfl
    refine hx_v (w1 := []) (wr := [(a_t, .inr (6, [.ref a_t_forms, .ref a_t_roll, .ref a_t_row, .ref a_t_rows, .ref a_t_factors, .ref a_t_found, .ref a_t_foundOtherwise, .int c_t_acts, .int c_t_refusals, .int c_t_knocks])), (a_t_forms, .inl (cyJ, 6, .inr (.inl f_t_forms)))]) (vx_runS (As := [.int p1]) (rest := []) hcf (c_X7_testForm l hfl D cyJ H.size p1 xc5 hc5) (va_cwS 1 hts gX7_check_X7_testForm rfl rfl rfl ydX7_testForm ⟨Nat.le_of_ble_eq_true rfl, Nat.le_of_ble_eq_true rfl⟩) ⟨bl_PX, pr_PX hPc hK0 hDc hnw hE hS (va_free hD hS hA [] rfl)⟩ rfl rfl hl.1 rfl (lv_room (Nat.le_of_ble_eq_true rfl)) dX7_check_5 ⟨Nat.le_of_ble_eq_true rfl, Nat.le_of_ble_eq_true rfl⟩) hP hD hS hA [] [0, 1] rfl rfl (by decide) (by decide) (fun E9 ce9 q9 H locs hx9 hE9 hP hD hS hce9 hcv9 hcl9 => ?_) (fun hx9 H locs hP hD hS => ?_)
    · have h := if_ hx9 h
      have hP : va_P D vwCl [(a_t, .inr (6, [.ref a_t_forms, .ref a_t_roll, .ref a_t_row, .ref a_t_rows, .ref a_t_factors, .ref a_t_found, .ref a_t_foundOtherwise, .int c_t_acts, .int c_t_refusals, .int c_t_knocks])), (a_t_forms, .inl (cyJ, 6, .inr (.inl f_t_forms)))] H := hP
      have hD : va_D A [(a_t, .inr (6, [.ref a_t_forms, .ref a_t_roll, .ref a_t_row, .ref a_t_rows, .ref a_t_factors, .ref a_t_found, .ref a_t_foundOtherwise, .int c_t_acts, .int c_t_refusals, .int c_t_knocks])), (a_t_forms, .inl (cyJ, 6, .inr (.inl f_t_forms)))] := hD
      obtain ⟨e0, e1⟩ := tup2 h
      subst e0
      subst e1
      have hP9 : va_P D vwCl [(a_t, .inr (6, [.ref a_t_forms, .ref a_t_roll, .ref a_t_row, .ref a_t_rows, .ref a_t_factors, .ref a_t_found, .ref a_t_foundOtherwise, .int c_t_acts, .int c_t_refusals, .int c_t_knocks])), (a_t_forms, .inl (cyJ, 6, .inr (.inl f_t_forms)))] H := hP.sub [0, 1] rfl
      have hD9 : va_D A [(a_t, .inr (6, [.ref a_t_forms, .ref a_t_roll, .ref a_t_row, .ref a_t_rows, .ref a_t_factors, .ref a_t_found, .ref a_t_foundOtherwise, .int c_t_acts, .int c_t_refusals, .int c_t_knocks])), (a_t_forms, .inl (cyJ, 6, .inr (.inl f_t_forms)))] := hD.sub [0, 1] (by decide) rfl
      exact vx_out (fun x hx => (hxt x hx).elim) hlocks hce9 hcv9 hcl9 (fun t ht hW => ⟨(), hx9, ⟨hE9, wQA_of ht hP9 hD9⟩, hS.F ht⟩) hS.2.2 (Nat.le_of_ble_eq_true rfl) (Nat.le_of_ble_eq_true rfl)
    · have h := it_ hx9 h
      have hP : va_P D vwCl [(a_t, .inr (6, [.ref a_t_forms, .ref a_t_roll, .ref a_t_row, .ref a_t_rows, .ref a_t_factors, .ref a_t_found, .ref a_t_foundOtherwise, .int c_t_acts, .int c_t_refusals, .int c_t_knocks])), (a_t_forms, .inl (cyJ, 6, .inr (.inl f_t_forms)))] H := hP
      have hD : va_D A [(a_t, .inr (6, [.ref a_t_forms, .ref a_t_roll, .ref a_t_row, .ref a_t_rows, .ref a_t_factors, .ref a_t_found, .ref a_t_foundOtherwise, .int c_t_acts, .int c_t_refusals, .int c_t_knocks])), (a_t_forms, .inl (cyJ, 6, .inr (.inl f_t_forms)))] := hD
      refine lv_aload_n hx hb dX7_check_8 rfl (lv_at hl 0 rfl) ?_
      refine va_get (D := D) (ci := 6) (v := .ref a_t_forms) (C := RX7) (T := TX7) (N := 10) hx hb hts hinX7 hown hK hP 0 rfl rfl 0 (by decide) hfl9 (fun _ h9 => h9) rfl dX7_check_9 ?_
      refine lv_iload_n hx hb dX7_check_12 rfl (lv_at hl 2 rfl) ?_
      obtain ⟨hq13, h⟩ := chk_h h
      refine va_lald hx hb hK hP 1 0 rfl rfl hq13 dX7_check_13 ?_
      obtain ⟨r14, hc14, h⟩ := obn_h h
      refine pz_callS (As := [.long (f_t_forms p1.toNatClampNeg)]) (rest := []) hcf (c_X0_degreeOf l (f_t_forms p1.toNatClampNeg) r14 hc14) (va_cwS 1 hts gX7_check_X0_degreeOf rfl rfl rfl ydX0_degreeOf ⟨Nat.le_of_ble_eq_true rfl, Nat.le_of_ble_eq_true rfl⟩) hnw rfl hl.1 rfl (Nat.le_of_ble_eq_true rfl) dX7_check_14 ⟨Nat.le_of_ble_eq_true rfl, Nat.le_of_ble_eq_true rfl⟩ ?_
      refine lv_iconst (v := 1) hx hb dX7_check_17 (by decide) ?_
      refine lv_bipush (v := 31) hx hb dX7_check_18 (by decide) ?_
      obtain ⟨r20, hc20, h⟩ := obn_h h
      refine pz_callS (As := [.int r14, .int (1 : Int32), .int (31 : Int32)]) (rest := []) hcf (c_X7_isBetween l r14 (1 : Int32) (31 : Int32) r20 hc20) (va_cwS 3 hts gX7_check_X7_isBetween rfl rfl rfl ydX7_isBetween ⟨Nat.le_of_ble_eq_true rfl, Nat.le_of_ble_eq_true rfl⟩) hnw rfl hl.1 rfl (Nat.le_of_ble_eq_true rfl) dX7_check_20 ⟨Nat.le_of_ble_eq_true rfl, Nat.le_of_ble_eq_true rfl⟩ ?_
      refine lv_if_eq (tgt := 35) hx hb dX7_check_23 (by decide) (fun c23 => ?_) (fun c23 => ?_)
      · have h := it_ c23 h
        refine lv_bipush (v := -9) hx hb dX7_check_35 (by decide) ?_
        obtain ⟨e0, e1⟩ := tup2 h
        subst e0
        subst e1
        have hP9 : va_P D vwCl [(a_t, .inr (6, [.ref a_t_forms, .ref a_t_roll, .ref a_t_row, .ref a_t_rows, .ref a_t_factors, .ref a_t_found, .ref a_t_foundOtherwise, .int c_t_acts, .int c_t_refusals, .int c_t_knocks])), (a_t_forms, .inl (cyJ, 6, .inr (.inl f_t_forms)))] H := hP.sub [0, 1] rfl
        have hD9 : va_D A [(a_t, .inr (6, [.ref a_t_forms, .ref a_t_roll, .ref a_t_row, .ref a_t_rows, .ref a_t_factors, .ref a_t_found, .ref a_t_foundOtherwise, .int c_t_acts, .int c_t_refusals, .int c_t_knocks])), (a_t_forms, .inl (cyJ, 6, .inr (.inl f_t_forms)))] := hD.sub [0, 1] (by decide) rfl
        refine vx_ret ?_
        exact W.iret hx hb hr (fun t ht hW => ⟨⟨_, (), rfl, ⟨rfl, rfl⟩, wQA_of ht hP9 hD9⟩, hS.F ht⟩) hS.2.2 dX7_check_37
      · have h := if_ c23 h
        refine lv_aload_n hx hb dX7_check_26 rfl (lv_at hl 0 rfl) ?_
        refine lv_iload_n hx hb dX7_check_27 rfl (lv_at hl 1 rfl) ?_
        refine lv_iload_n hx hb dX7_check_28 rfl (lv_at hl 2 rfl) ?_
        obtain ⟨r29, hc29, h⟩ := obn_h h
        have hPc : va_P D vwCl [(a_t, .inr (6, [.ref a_t_forms, .ref a_t_roll, .ref a_t_row, .ref a_t_rows, .ref a_t_factors, .ref a_t_found, .ref a_t_foundOtherwise, .int c_t_acts, .int c_t_refusals, .int c_t_knocks])), (a_t_forms, .inl (cyJ, 6, .inr (.inl f_t_forms)))] H := hP.sub [0, 1] rfl
        refine rd_callV (As := [.int p0, .int p1]) (rest := []) hcf (c_X7_canBeSealed l D cyJ a_t a_t_forms a_t_roll a_t_row a_t_rows a_t_factors a_t_found a_t_foundOtherwise c_t_acts c_t_refusals c_t_knocks f_t_forms p0 p1 r29 hc29) (cwV 2 hts gX7_check_X7_canBeSealed rfl rfl rfl ydX7_canBeSealed ⟨Nat.le_of_ble_eq_true rfl, Nat.le_of_ble_eq_true rfl⟩) hnw hPc hK0 (va_recv hK hP (ci := 6) (q0 := 0) rfl rfl) rfl hl.1 rfl (Nat.le_of_ble_eq_true rfl) dX7_check_29 ⟨Nat.le_of_ble_eq_true rfl, Nat.le_of_ble_eq_true rfl⟩ ?_
        refine lv_if_ne (tgt := 38) hx hb dX7_check_32 (by decide) (fun c32 => ?_) (fun c32 => ?_)
        · have h := if_ c32 h
          refine lv_aload_n hx hb dX7_check_38 rfl (lv_at hl 0 rfl) ?_
          refine va_get (D := D) (ci := 6) (v := .ref a_t_forms) (C := RX7) (T := TX7) (N := 10) hx hb hts hinX7 hown hK hP 0 rfl rfl 0 (by decide) hfl9 (fun _ h9 => h9) rfl dX7_check_39 ?_
          refine lv_iload_n hx hb dX7_check_42 rfl (lv_at hl 1 rfl) ?_
          obtain ⟨hq43, h⟩ := chk_h h
          refine va_lald hx hb hK hP 1 0 rfl rfl hq43 dX7_check_43 ?_
          refine lv_aload_n hx hb dX7_check_44 rfl (lv_at hl 0 rfl) ?_
          refine va_get (D := D) (ci := 6) (v := .ref a_t_forms) (C := RX7) (T := TX7) (N := 10) hx hb hts hinX7 hown hK hP 0 rfl rfl 0 (by decide) hfl9 (fun _ h9 => h9) rfl dX7_check_45 ?_
          refine lv_iload_n hx hb dX7_check_48 rfl (lv_at hl 2 rfl) ?_
          obtain ⟨hq49, h⟩ := chk_h h
          refine va_lald hx hb hK hP 1 0 rfl rfl hq49 dX7_check_49 ?_
          obtain ⟨r50, hc50, h⟩ := obn_h h
          refine pz_callS (As := [.long (f_t_forms p0.toNatClampNeg), .long (f_t_forms p1.toNatClampNeg)]) (rest := []) hcf (c_X0_checkOf l (f_t_forms p0.toNatClampNeg) (f_t_forms p1.toNatClampNeg) r50 hc50) (va_cwS 2 hts gX7_check_X0_checkOf rfl rfl rfl ydX0_checkOf ⟨Nat.le_of_ble_eq_true rfl, Nat.le_of_ble_eq_true rfl⟩) hnw rfl hl.1 rfl (Nat.le_of_ble_eq_true rfl) dX7_check_50 ⟨Nat.le_of_ble_eq_true rfl, Nat.le_of_ble_eq_true rfl⟩ ?_
          refine lv_l2i (v := r50.toInt32) hx hb dX7_check_53 rfl ?_
          obtain ⟨e0, e1⟩ := tup2 h
          subst e0
          subst e1
          have hP9 : va_P D vwCl [(a_t, .inr (6, [.ref a_t_forms, .ref a_t_roll, .ref a_t_row, .ref a_t_rows, .ref a_t_factors, .ref a_t_found, .ref a_t_foundOtherwise, .int c_t_acts, .int c_t_refusals, .int c_t_knocks])), (a_t_forms, .inl (cyJ, 6, .inr (.inl f_t_forms)))] H := hP.sub [0, 1] rfl
          have hD9 : va_D A [(a_t, .inr (6, [.ref a_t_forms, .ref a_t_roll, .ref a_t_row, .ref a_t_rows, .ref a_t_factors, .ref a_t_found, .ref a_t_foundOtherwise, .int c_t_acts, .int c_t_refusals, .int c_t_knocks])), (a_t_forms, .inl (cyJ, 6, .inr (.inl f_t_forms)))] := hD.sub [0, 1] (by decide) rfl
          refine vx_ret ?_
          exact W.iret hx hb hr (fun t ht hW => ⟨⟨_, (), rfl, ⟨rfl, rfl⟩, wQA_of ht hP9 hD9⟩, hS.F ht⟩) hS.2.2 dX7_check_54
        · have h := it_ c32 h
          refine lv_bipush (v := -9) hx hb dX7_check_35 (by decide) ?_
          obtain ⟨e0, e1⟩ := tup2 h
          subst e0
          subst e1
          have hP9 : va_P D vwCl [(a_t, .inr (6, [.ref a_t_forms, .ref a_t_roll, .ref a_t_row, .ref a_t_rows, .ref a_t_factors, .ref a_t_found, .ref a_t_foundOtherwise, .int c_t_acts, .int c_t_refusals, .int c_t_knocks])), (a_t_forms, .inl (cyJ, 6, .inr (.inl f_t_forms)))] H := hP.sub [0, 1] rfl
          have hD9 : va_D A [(a_t, .inr (6, [.ref a_t_forms, .ref a_t_roll, .ref a_t_row, .ref a_t_rows, .ref a_t_factors, .ref a_t_found, .ref a_t_foundOtherwise, .int c_t_acts, .int c_t_refusals, .int c_t_knocks])), (a_t_forms, .inl (cyJ, 6, .inr (.inl f_t_forms)))] := hD.sub [0, 1] (by decide) rfl
          refine vx_ret ?_
          exact W.iret hx hb hr (fun t ht hW => ⟨⟨_, (), rfl, ⟨rfl, rfl⟩, wQA_of ht hP9 hD9⟩, hS.F ht⟩) hS.2.2 dX7_check_37

noncomputable abbrev rmX2_isPrimeNumber : Room := { frames := 0, cells := 0, slots := 0, locals := 0 }
theorem ydX2_isPrimeNumber : yX2_isPrimeNumber.cls ≠ "java/lang/invoke/MethodHandle" ∧ yX2_isPrimeNumber.cls ≠ "java/lang/invoke/VarHandle" ∧ (parseMethodDescriptor yX2_isPrimeNumber.desc).map (fun d => d.parameters.length) = some 1 := by decide +kernel
noncomputable def S_X2_isPrimeNumber_2 (z0_2 : Int32) (k13 : Unit → Option (Int32)) (k21 : Unit → Option (Int32)) (ih2 : Int32 → Option (Int32)) (y1_2 : Int32) : Option (Int32) :=
 (if z0_2 ≤ y1_2 then
 k21 ()
else
 chk (¬ y1_2 = 0) (
 (if (z0_2 - z0_2 / y1_2 * y1_2) = 0 then
 k13 ()
else
 bnd (y1_2 + 1) (fun x1_15 =>
 ih2 x1_15))))
noncomputable def F_X2_isPrimeNumber (p0 : Int32) : Option (Int32) :=
 LQ1 (S_X2_isPrimeNumber_2 p0 (fun _ =>
 some (0 : Int32)) (fun _ =>
 (if p0 < (2 : Int32) then
 some (0 : Int32)
else
 some (1 : Int32)))) 20000 (2 : Int32)
set_option maxHeartbeats 4000000 in
set_option maxRecDepth 100000 in
theorem c_X2_isPrimeNumber (l : Launch) (p0 : Int32) (r0 : Int32) (hF : F_X2_isPrimeNumber p0 = some r0) : Met l yX2_isPrimeNumber wsX2_isPrimeNumber rmX2_isPrimeNumber (va_Pc [.int p0] NW) (k2_QcV (.int r0)) 0 0 (fun _ => False) := by
  refine Met.ofW (cc := cX2_isPrimeNumber) (maxL := 2) (ret := (some .boolean)) (by decide) rfl ?_
  intro p e s m args below meth c s₁ B hml hv
  obtain ⟨rfl, hnw⟩ := hv
  have hx := B.exec
  have hb := B.bytes
  have hr := B.returns
  have hts := atoms_spec (ws := wsX2_isPrimeNumber) B.pre
  have hown : s.vm.findClass RX2 = some m.cls := findClass_of_methodNamed B.named
  have hlocks := B.notSynchronized
  have hcf : CallFix _ _ _ _ _ _ _ _ _ := ⟨hx, hb, hml, hown, hts⟩
  have hl := lv_entry ([.int p0]) (n := 2) (Nat.le_of_ble_eq_true rfl)
  rw [lg_entry_eq]
  generalize (lg_sl ([.int p0]) ++ List.replicate (2 - (lg_sl ([.int p0])).length) Slot.unset).toArray = ls at hl ⊢
  have hl : lv_has ls 2 [(0, .int p0)] := hl
  have h := hF
  clear hF
  unfold F_X2_isPrimeNumber at h
  refine lv_iconst (v := 2) hx hb dX2_isPrimeNumber_0 (by decide) ?_
  refine lv_istore_n (lv' := [(1, .int (2 : Int32)), (0, .int p0)]) hx hb dX2_isPrimeNumber_1 rfl hl (by decide) rfl (fun ls hl => ?_)
  refine LQ1_k2 (M := fun (y1_2 : Int32) => ∀ (ls : Array Slot), lv_has ls 2 [(0, .int p0), (1, .int y1_2)] → W p l e rmX2_isPrimeNumber s m ([.int p0] : List Value).toArray below meth c s.heap [] 0 0 (MQ below (k2_QcV (.int r0)) ([.int p0] : List Value).toArray s 0 0 (fun _ => False)) (F0 m 2 ls [])) ?_ _ _ h ls (lv_sub hl [1, 0] rfl)
  intro k13 hk13 k21 hk21 ih2 hih2 y1_2 h ls hl
  unfold S_X2_isPrimeNumber_2 at h
  refine lv_iload_n hx hb dX2_isPrimeNumber_2 rfl (lv_at hl 1 rfl) ?_
  refine lv_iload_n hx hb dX2_isPrimeNumber_3 rfl (lv_at hl 0 rfl) ?_
  refine lv_icmp_ge (tgt := 21) hx hb dX2_isPrimeNumber_4 (by decide) (fun c4 => ?_) (fun c4 => ?_)
  · have h := it_ c4 h
    rw [hk21] at h
    refine lv_iload_n hx hb dX2_isPrimeNumber_21 rfl (lv_at hl 0 rfl) ?_
    refine lv_iconst (v := 2) hx hb dX2_isPrimeNumber_22 (by decide) ?_
    refine lv_icmp_lt (tgt := 30) hx hb dX2_isPrimeNumber_23 (by decide) (fun c23 => ?_) (fun c23 => ?_)
    · have h := it_ c23 h
      refine lv_iconst (v := 0) hx hb dX2_isPrimeNumber_30 (by decide) ?_
      have e1 := Option.some.inj h
      subst e1
      exact W.zret hx hb hr narrow_b0 (fun t ht _ => ⟨rfl, ht⟩) no_q dX2_isPrimeNumber_31
    · have h := if_ c23 h
      refine lv_iconst (v := 1) hx hb dX2_isPrimeNumber_26 (by decide) ?_
      refine lv_goto (tgt := 31) hx hb dX2_isPrimeNumber_27 (by decide) ?_
      have e1 := Option.some.inj h
      subst e1
      exact W.zret hx hb hr narrow_b1 (fun t ht _ => ⟨rfl, ht⟩) no_q dX2_isPrimeNumber_31
  · have h := if_ c4 h
    refine lv_iload_n hx hb dX2_isPrimeNumber_7 rfl (lv_at hl 0 rfl) ?_
    refine lv_iload_n hx hb dX2_isPrimeNumber_8 rfl (lv_at hl 1 rfl) ?_
    obtain ⟨hq9, h⟩ := chk_h h
    refine lv_irem hx hb dX2_isPrimeNumber_9 hq9 ?_
    refine lv_if_ne (tgt := 15) hx hb dX2_isPrimeNumber_10 (by decide) (fun c10 => ?_) (fun c10 => ?_)
    · have h := if_ c10 h
      obtain ⟨x1_15, e_x1_15⟩ : ∃ z : Int32, z = y1_2 + 1 := ⟨_, rfl⟩
      have h := bnd_h e_x1_15 h
      refine lv_iinc (v := x1_15) (lv' := [(1, .int x1_15), (0, .int p0)]) hx hb dX2_isPrimeNumber_15 hl (k := 1) rfl (by rw [e_x1_15]; rfl) (by decide) rfl (fun ls hl => ?_)
      refine lv_goto (tgt := 2) hx hb dX2_isPrimeNumber_18 (by decide) ?_
      exact hih2 x1_15 h ls (lv_sub hl [1, 0] rfl)
    · have h := it_ c10 h
      rw [hk13] at h
      refine lv_iconst (v := 0) hx hb dX2_isPrimeNumber_13 (by decide) ?_
      have e1 := Option.some.inj h
      subst e1
      exact W.zret hx hb hr narrow_b0 (fun t ht _ => ⟨rfl, ht⟩) no_q dX2_isPrimeNumber_14

noncomputable abbrev rmX2_isByRising : Room := { frames := 4, cells := 0, slots := 0, locals := 101 }
theorem ydX2_isByRising : yX2_isByRising.cls ≠ "java/lang/invoke/MethodHandle" ∧ yX2_isByRising.cls ≠ "java/lang/invoke/VarHandle" ∧ (parseMethodDescriptor yX2_isByRising.desc).map (fun d => d.parameters.length) = some 1 := by decide +kernel
noncomputable def S_X2_isByRising_30 (z0_30 : Int64) (z2_30 : Int32) (k68 : Unit → Option (Int32)) (k76 : Unit → Option (Int32)) (ih30 : Int32 → Option (Int32)) (y3_30 : Int32) : Option (Int32) :=
 (if z2_30 < y3_30 then
 k76 ()
else
 chk (¬ y3_30 = 0) (
 (if (z2_30 - z2_30 / y3_30 * y3_30) = 0 then
 obn (F_X2_isPrimeNumber y3_30) (fun r42 =>
 (if r42 = 0 then
 bnd (y3_30 + 1) (fun x3_70 =>
 ih30 x3_70)
else
 chk (¬ y3_30 = 0) (
 obn (F_X0_risenRest (z2_30 / y3_30) z0_30) (fun r53 =>
 obn (F_X0_greatestBoth z0_30 (r53 ^^^ (2 : Int64))) (fun r60 =>
 (if r60 = (1 : Int64) then
 bnd (y3_30 + 1) (fun x3_70 =>
 ih30 x3_70)
else
 k68 ()))))))
else
 bnd (y3_30 + 1) (fun x3_70 =>
 ih30 x3_70))))
noncomputable def F_X2_isByRising (p0 : Int64) : Option (Int32) :=
 obn (F_X0_degreeOf p0) (fun r1 =>
 (if r1 < (1 : Int32) then
 some (0 : Int32)
else
 obn (F_X0_risenRest r1 p0) (fun r13 =>
 obn (F_X0_goesInto p0 (r13 ^^^ (2 : Int64))) (fun r20 =>
 (if r20 = 0 then
 some (0 : Int32)
else
 LQ1 (S_X2_isByRising_30 p0 r1 (fun _ =>
 some (0 : Int32)) (fun _ =>
 some (1 : Int32))) 20000 (2 : Int32))))))
set_option maxHeartbeats 4000000 in
set_option maxRecDepth 100000 in
theorem c_X2_isByRising (l : Launch) (p0 : Int64) (r0 : Int32) (hF : F_X2_isByRising p0 = some r0) : Met l yX2_isByRising wsX2_isByRising rmX2_isByRising (va_Pc [.long p0] NW) (k2_QcV (.int r0)) 0 0 (fun _ => False) := by
  refine Met.ofW (cc := cX2_isByRising) (maxL := 4) (ret := (some .boolean)) (by decide) rfl ?_
  intro p e s m args below meth c s₁ B hml hv
  obtain ⟨rfl, hnw⟩ := hv
  have hx := B.exec
  have hb := B.bytes
  have hr := B.returns
  have hts := atoms_spec (ws := wsX2_isByRising) B.pre
  have hown : s.vm.findClass RX2 = some m.cls := findClass_of_methodNamed B.named
  have hlocks := B.notSynchronized
  have hcf : CallFix _ _ _ _ _ _ _ _ _ := ⟨hx, hb, hml, hown, hts⟩
  have hl := lv_entry ([.long p0]) (n := 4) (Nat.le_of_ble_eq_true rfl)
  rw [lg_entry_eq]
  generalize (lg_sl ([.long p0]) ++ List.replicate (4 - (lg_sl ([.long p0])).length) Slot.unset).toArray = ls at hl ⊢
  have hl : lv_has ls 4 [(0, .long p0)] := hl
  have h := hF
  clear hF
  unfold F_X2_isByRising at h
  refine lv_lload_n hx hb dX2_isByRising_0 rfl (lv_at hl 0 rfl) ?_
  obtain ⟨r1, hc1, h⟩ := obn_h h
  refine pz_callS (As := [.long p0]) (rest := []) hcf (c_X0_degreeOf l p0 r1 hc1) (va_cwS 1 hts gX2_isByRising_X0_degreeOf rfl rfl rfl ydX0_degreeOf ⟨Nat.le_of_ble_eq_true rfl, Nat.le_of_ble_eq_true rfl⟩) hnw rfl hl.1 rfl (Nat.le_of_ble_eq_true rfl) dX2_isByRising_1 ⟨Nat.le_of_ble_eq_true rfl, Nat.le_of_ble_eq_true rfl⟩ ?_
  refine lv_istore_n (lv' := [(2, .int r1), (0, .long p0)]) hx hb dX2_isByRising_4 rfl hl (by decide) rfl (fun ls hl => ?_)
  refine lv_iload_n hx hb dX2_isByRising_5 rfl (lv_at hl 0 rfl) ?_
  refine lv_iconst (v := 1) hx hb dX2_isByRising_6 (by decide) ?_
  refine lv_icmp_lt (tgt := 26) hx hb dX2_isByRising_7 (by decide) (fun c7 => ?_) (fun c7 => ?_)
  · have h := it_ c7 h
    refine lv_iconst (v := 0) hx hb dX2_isByRising_26 (by decide) ?_
    have e1 := Option.some.inj h
    subst e1
    exact W.zret hx hb hr narrow_b0 (fun t ht _ => ⟨rfl, ht⟩) no_q dX2_isByRising_27
  · have h := if_ c7 h
    refine lv_lload_n hx hb dX2_isByRising_10 rfl (lv_at hl 1 rfl) ?_
    refine lv_iload_n hx hb dX2_isByRising_11 rfl (lv_at hl 0 rfl) ?_
    refine lv_lload_n hx hb dX2_isByRising_12 rfl (lv_at hl 1 rfl) ?_
    obtain ⟨r13, hc13, h⟩ := obn_h h
    refine pz_callS (As := [.int r1, .long p0]) (rest := [.long p0]) hcf (c_X0_risenRest l r1 p0 r13 hc13) (va_cwS 2 hts gX2_isByRising_X0_risenRest rfl rfl rfl ydX0_risenRest ⟨Nat.le_of_ble_eq_true rfl, Nat.le_of_ble_eq_true rfl⟩) hnw rfl hl.1 rfl (Nat.le_of_ble_eq_true rfl) dX2_isByRising_13 ⟨Nat.le_of_ble_eq_true rfl, Nat.le_of_ble_eq_true rfl⟩ ?_
    refine lv_ldc2 hx hb hown (hts (.constantLong RX2 15 (2)) (by decide +kernel)) dX2_isByRising_16 ?_
    refine lv_lxor hx hb dX2_isByRising_19 ?_
    obtain ⟨r20, hc20, h⟩ := obn_h h
    refine pz_callS (As := [.long p0, .long (r13 ^^^ (2 : Int64))]) (rest := []) hcf (c_X0_goesInto l p0 (r13 ^^^ (2 : Int64)) r20 hc20) (va_cwS 2 hts gX2_isByRising_X0_goesInto rfl rfl rfl ydX0_goesInto ⟨Nat.le_of_ble_eq_true rfl, Nat.le_of_ble_eq_true rfl⟩) hnw rfl hl.1 rfl (Nat.le_of_ble_eq_true rfl) dX2_isByRising_20 ⟨Nat.le_of_ble_eq_true rfl, Nat.le_of_ble_eq_true rfl⟩ ?_
    refine lv_if_ne (tgt := 28) hx hb dX2_isByRising_23 (by decide) (fun c23 => ?_) (fun c23 => ?_)
    · have h := if_ c23 h
      refine lv_iconst (v := 2) hx hb dX2_isByRising_28 (by decide) ?_
      refine lv_istore_n (lv' := [(3, .int (2 : Int32)), (2, .int r1), (0, .long p0)]) hx hb dX2_isByRising_29 rfl hl (by decide) rfl (fun ls hl => ?_)
      refine LQ1_k2 (M := fun (y3_30 : Int32) => ∀ (ls : Array Slot), lv_has ls 4 [(0, .long p0), (2, .int r1), (3, .int y3_30)] → W p l e rmX2_isByRising s m ([.long p0] : List Value).toArray below meth c s.heap [] 0 0 (MQ below (k2_QcV (.int r0)) ([.long p0] : List Value).toArray s 0 0 (fun _ => False)) (F0 m 30 ls [])) ?_ _ _ h ls (lv_sub hl [2, 1, 0] rfl)
      intro k68 hk68 k76 hk76 ih30 hih30 y3_30 h ls hl
      unfold S_X2_isByRising_30 at h
      refine lv_iload_n hx hb dX2_isByRising_30 rfl (lv_at hl 2 rfl) ?_
      refine lv_iload_n hx hb dX2_isByRising_31 rfl (lv_at hl 1 rfl) ?_
      refine lv_icmp_gt (tgt := 76) hx hb dX2_isByRising_32 (by decide) (fun c32 => ?_) (fun c32 => ?_)
      · have h := it_ c32 h
        rw [hk76] at h
        refine lv_iconst (v := 1) hx hb dX2_isByRising_76 (by decide) ?_
        have e1 := Option.some.inj h
        subst e1
        exact W.zret hx hb hr narrow_b1 (fun t ht _ => ⟨rfl, ht⟩) no_q dX2_isByRising_77
      · have h := if_ c32 h
        refine lv_iload_n hx hb dX2_isByRising_35 rfl (lv_at hl 1 rfl) ?_
        refine lv_iload_n hx hb dX2_isByRising_36 rfl (lv_at hl 2 rfl) ?_
        obtain ⟨hq37, h⟩ := chk_h h
        refine lv_irem hx hb dX2_isByRising_37 hq37 ?_
        refine lv_if_ne (tgt := 70) hx hb dX2_isByRising_38 (by decide) (fun c38 => ?_) (fun c38 => ?_)
        · have h := if_ c38 h
          obtain ⟨x3_70, e_x3_70⟩ : ∃ z : Int32, z = y3_30 + 1 := ⟨_, rfl⟩
          have h := bnd_h e_x3_70 h
          refine lv_iinc (v := x3_70) (lv' := [(3, .int x3_70), (0, .long p0), (2, .int r1)]) hx hb dX2_isByRising_70 hl (k := 2) rfl (by rw [e_x3_70]; rfl) (by decide) rfl (fun ls hl => ?_)
          refine lv_goto (tgt := 30) hx hb dX2_isByRising_73 (by decide) ?_
          exact hih30 x3_70 h ls (lv_sub hl [1, 2, 0] rfl)
        · have h := it_ c38 h
          refine lv_iload_n hx hb dX2_isByRising_41 rfl (lv_at hl 2 rfl) ?_
          obtain ⟨r42, hc42, h⟩ := obn_h h
          refine pz_callS (As := [.int y3_30]) (rest := []) hcf (c_X2_isPrimeNumber l y3_30 r42 hc42) (va_cwS 1 hts gX2_isByRising_X2_isPrimeNumber rfl rfl rfl ydX2_isPrimeNumber ⟨Nat.le_of_ble_eq_true rfl, Nat.le_of_ble_eq_true rfl⟩) hnw rfl hl.1 rfl (Nat.le_of_ble_eq_true rfl) dX2_isByRising_42 ⟨Nat.le_of_ble_eq_true rfl, Nat.le_of_ble_eq_true rfl⟩ ?_
          refine lv_if_eq (tgt := 70) hx hb dX2_isByRising_45 (by decide) (fun c45 => ?_) (fun c45 => ?_)
          · have h := it_ c45 h
            obtain ⟨x3_70, e_x3_70⟩ : ∃ z : Int32, z = y3_30 + 1 := ⟨_, rfl⟩
            have h := bnd_h e_x3_70 h
            refine lv_iinc (v := x3_70) (lv' := [(3, .int x3_70), (0, .long p0), (2, .int r1)]) hx hb dX2_isByRising_70 hl (k := 2) rfl (by rw [e_x3_70]; rfl) (by decide) rfl (fun ls hl => ?_)
            refine lv_goto (tgt := 30) hx hb dX2_isByRising_73 (by decide) ?_
            exact hih30 x3_70 h ls (lv_sub hl [1, 2, 0] rfl)
          · have h := if_ c45 h
            refine lv_lload_n hx hb dX2_isByRising_48 rfl (lv_at hl 0 rfl) ?_
            refine lv_iload_n hx hb dX2_isByRising_49 rfl (lv_at hl 1 rfl) ?_
            refine lv_iload_n hx hb dX2_isByRising_50 rfl (lv_at hl 2 rfl) ?_
            obtain ⟨hq51, h⟩ := chk_h h
            refine lv_idiv hx hb dX2_isByRising_51 hq51 ?_
            refine lv_lload_n hx hb dX2_isByRising_52 rfl (lv_at hl 0 rfl) ?_
            obtain ⟨r53, hc53, h⟩ := obn_h h
            refine pz_callS (As := [.int (r1 / y3_30), .long p0]) (rest := [.long p0]) hcf (c_X0_risenRest l (r1 / y3_30) p0 r53 hc53) (va_cwS 2 hts gX2_isByRising_X0_risenRest rfl rfl rfl ydX0_risenRest ⟨Nat.le_of_ble_eq_true rfl, Nat.le_of_ble_eq_true rfl⟩) hnw rfl hl.1 rfl (Nat.le_of_ble_eq_true rfl) dX2_isByRising_53 ⟨Nat.le_of_ble_eq_true rfl, Nat.le_of_ble_eq_true rfl⟩ ?_
            refine lv_ldc2 hx hb hown (hts (.constantLong RX2 15 (2)) (by decide +kernel)) dX2_isByRising_56 ?_
            refine lv_lxor hx hb dX2_isByRising_59 ?_
            obtain ⟨r60, hc60, h⟩ := obn_h h
            refine pz_callS (As := [.long p0, .long (r53 ^^^ (2 : Int64))]) (rest := []) hcf (c_X0_greatestBoth l p0 (r53 ^^^ (2 : Int64)) r60 hc60) (va_cwS 2 hts gX2_isByRising_X0_greatestBoth rfl rfl rfl ydX0_greatestBoth ⟨Nat.le_of_ble_eq_true rfl, Nat.le_of_ble_eq_true rfl⟩) hnw rfl hl.1 rfl (Nat.le_of_ble_eq_true rfl) dX2_isByRising_60 ⟨Nat.le_of_ble_eq_true rfl, Nat.le_of_ble_eq_true rfl⟩ ?_
            refine lv_lconst (v := 1) hx hb dX2_isByRising_63 (by decide) ?_
            refine W.lcmp hx hb dX2_isByRising_64 ?_
            refine lv_if_eq (tgt := 70) hx hb dX2_isByRising_65 (by decide) (fun c65 => ?_) (fun c65 => ?_)
            · have c65 := (lg_cmp_eq _ _).mp c65
              have h := it_ c65 h
              obtain ⟨x3_70, e_x3_70⟩ : ∃ z : Int32, z = y3_30 + 1 := ⟨_, rfl⟩
              have h := bnd_h e_x3_70 h
              refine lv_iinc (v := x3_70) (lv' := [(3, .int x3_70), (0, .long p0), (2, .int r1)]) hx hb dX2_isByRising_70 hl (k := 2) rfl (by rw [e_x3_70]; rfl) (by decide) rfl (fun ls hl => ?_)
              refine lv_goto (tgt := 30) hx hb dX2_isByRising_73 (by decide) ?_
              exact hih30 x3_70 h ls (lv_sub hl [1, 2, 0] rfl)
            · have c65 := fun z => c65 ((lg_cmp_eq _ _).mpr z)
              have h := if_ c65 h
              rw [hk68] at h
              refine lv_iconst (v := 0) hx hb dX2_isByRising_68 (by decide) ?_
              have e1 := Option.some.inj h
              subst e1
              exact W.zret hx hb hr narrow_b0 (fun t ht _ => ⟨rfl, ht⟩) no_q dX2_isByRising_69
    · have h := it_ c23 h
      refine lv_iconst (v := 0) hx hb dX2_isByRising_26 (by decide) ?_
      have e1 := Option.some.inj h
      subst e1
      exact W.zret hx hb hr narrow_b0 (fun t ht _ => ⟨rfl, ht⟩) no_q dX2_isByRising_27

noncomputable abbrev rmX7_isPrime : Room := { frames := 9, cells := 2, slots := 12, locals := 124 }
theorem ydX7_isPrime : yX7_isPrime.cls = RX7 ∧ yX7_isPrime.cls ≠ "java/lang/invoke/MethodHandle" ∧ yX7_isPrime.cls ≠ "java/lang/invoke/VarHandle" ∧ (parseMethodDescriptor yX7_isPrime.desc).map (fun d => d.parameters.length) = some 2 := by decide +kernel
noncomputable def F_X7_isPrime (f_t_forms : Nat → Int64) (p0 : Int32) (p1 : Int32) : Option (Nat × Int32) :=
 obn (F_X7_testForm p0) (fun xc1 =>
 if xc1 = 0 then
 obn (F_X7_testRange p1 (0 : Int32) (1 : Int32)) (fun xc7 =>
 if xc7 = 0 then
 chk (¬ (p0 < 0 ∨ 6 ≤ p0.toNatClampNeg)) (
 obn (F_X0_degreeOf (f_t_forms p0.toNatClampNeg)) (fun r16 =>
 (if r16 ≤ (10 : Int32) then
 (if p1 = 0 then
 chk (¬ (p0 < 0 ∨ 6 ≤ p0.toNatClampNeg)) (
 obn (F_X2_isByTrying (f_t_forms p0.toNatClampNeg)) (fun r37 =>
 (if r37 = 0 then
 some (0, (0 : Int32))
else
 some (0, (1 : Int32)))))
else
 chk (¬ (p0 < 0 ∨ 6 ≤ p0.toNatClampNeg)) (
 obn (F_X2_isByRising (f_t_forms p0.toNatClampNeg)) (fun r49 =>
 (if r49 = 0 then
 some (0, (0 : Int32))
else
 some (0, (1 : Int32))))))
else
 some (0, (-9 : Int32)))))
else
 some (xc7, 0))
else
 some (xc1, 0))
set_option maxHeartbeats 4000000 in
set_option maxRecDepth 100000 in
theorem c_X7_isPrime (l : Launch) (hfl : l.stackTraces = false) (D : va_G) (cyJ : ClassId) (sz : Nat) (a_t : Nat) (a_t_forms : Nat) (a_t_roll : Nat) (a_t_row : Nat) (a_t_rows : Nat) (a_t_factors : Nat) (a_t_found : Nat) (a_t_foundOtherwise : Nat) (c_t_acts : Int32) (c_t_refusals : Int32) (c_t_knocks : Int32) (f_t_forms : Nat → Int64) (p0 : Int32) (p1 : Int32) (xc : Nat) (r0 : Int32) (hF : F_X7_isPrime f_t_forms p0 p1 = some (xc, r0)) : vx_Met l yX7_isPrime wsX7_isPrime rmX7_isPrime (va_Pc [.ref a_t, .int p0, .int p1] (wPX D [(cyJ, .long)] [(a_t, .inr (6, [.ref a_t_forms, .ref a_t_roll, .ref a_t_row, .ref a_t_rows, .ref a_t_factors, .ref a_t_found, .ref a_t_foundOtherwise, .int c_t_acts, .int c_t_refusals, .int c_t_knocks])), (a_t_forms, .inl (cyJ, 6, .inr (.inl f_t_forms)))] sz)) (va_Qi (fun (r : Int32) (_ : Unit) => xc = 0 ∧ r = r0) (fun _ t => wQA D [(a_t, .inr (6, [.ref a_t_forms, .ref a_t_roll, .ref a_t_row, .ref a_t_rows, .ref a_t_factors, .ref a_t_found, .ref a_t_foundOtherwise, .int c_t_acts, .int c_t_refusals, .int c_t_knocks])), (a_t_forms, .inl (cyJ, 6, .inr (.inl f_t_forms)))] (va_A [(a_t, .inr (6, [.ref a_t_forms, .ref a_t_roll, .ref a_t_row, .ref a_t_rows, .ref a_t_factors, .ref a_t_found, .ref a_t_foundOtherwise, .int c_t_acts, .int c_t_refusals, .int c_t_knocks])), (a_t_forms, .inl (cyJ, 6, .inr (.inl f_t_forms)))] sz) t) (va_A [(a_t, .inr (6, [.ref a_t_forms, .ref a_t_roll, .ref a_t_row, .ref a_t_rows, .ref a_t_factors, .ref a_t_found, .ref a_t_foundOtherwise, .int c_t_acts, .int c_t_refusals, .int c_t_knocks])), (a_t_forms, .inl (cyJ, 6, .inr (.inl f_t_forms)))] sz)) (vx_X (fun (_ : Unit) => ¬ xc = 0) (fun E _ t => E = xcls xc ∧ wQA D [(a_t, .inr (6, [.ref a_t_forms, .ref a_t_roll, .ref a_t_row, .ref a_t_rows, .ref a_t_factors, .ref a_t_found, .ref a_t_foundOtherwise, .int c_t_acts, .int c_t_refusals, .int c_t_knocks])), (a_t_forms, .inl (cyJ, 6, .inr (.inl f_t_forms)))] (va_A [(a_t, .inr (6, [.ref a_t_forms, .ref a_t_roll, .ref a_t_row, .ref a_t_rows, .ref a_t_factors, .ref a_t_found, .ref a_t_foundOtherwise, .int c_t_acts, .int c_t_refusals, .int c_t_knocks])), (a_t_forms, .inl (cyJ, 6, .inr (.inl f_t_forms)))] sz) t) (va_A [(a_t, .inr (6, [.ref a_t_forms, .ref a_t_roll, .ref a_t_row, .ref a_t_rows, .ref a_t_factors, .ref a_t_found, .ref a_t_foundOtherwise, .int c_t_acts, .int c_t_refusals, .int c_t_knocks])), (a_t_forms, .inl (cyJ, 6, .inr (.inl f_t_forms)))] sz)) 2 12 (va_A [(a_t, .inr (6, [.ref a_t_forms, .ref a_t_roll, .ref a_t_row, .ref a_t_rows, .ref a_t_factors, .ref a_t_found, .ref a_t_foundOtherwise, .int c_t_acts, .int c_t_refusals, .int c_t_knocks])), (a_t_forms, .inl (cyJ, 6, .inr (.inl f_t_forms)))] sz) := by
  refine vx_ofW (cc := cX7_isPrime) (maxL := 4) (ret := (some .int)) (by decide) rfl ?_
  intro p e s m args below meth c s₁ B hml hxt hv
  obtain ⟨rfl, ⟨⟨hsz, hP, hK, hD0, hnw⟩, hE⟩⟩ := hv
  have hx := B.exec
  have hb := B.bytes
  have hr := B.returns
  have hts := atoms_spec (ws := wsX7_isPrime) B.pre
  have hown : s.vm.findClass RX7 = some m.cls := findClass_of_methodNamed B.named
  have hlocks := B.notSynchronized
  have hcf : CallFix _ _ _ _ _ _ _ _ _ := ⟨hx, hb, hml, hown, hts⟩
  have hinX7 : ∀ w ∈ u_ws RX7 TX7 10, w ∈ wsX7_isPrime := by decide +kernel
  have hfl9 := hts (.fieldLink RX7 9 "Formwheel" "forms" "[J") (by decide +kernel)
  subst hsz
  have hD := hD0.self (sz := s.heap.size)
  generalize hAe : va_A [(a_t, .inr (6, [.ref a_t_forms, .ref a_t_roll, .ref a_t_row, .ref a_t_rows, .ref a_t_factors, .ref a_t_found, .ref a_t_foundOtherwise, .int c_t_acts, .int c_t_refusals, .int c_t_knocks])), (a_t_forms, .inl (cyJ, 6, .inr (.inl f_t_forms)))] s.heap.size = A at hD hE ⊢
  have hA : ∀ q : Nat, s.heap.size ≤ q → A q := fun q h => by rw [← hAe]; exact Or.inr h
  have hS : va_S A s.heap s.heap [] := va_S.rf
  have hP : va_P D vwCl [(a_t, .inr (6, [.ref a_t_forms, .ref a_t_roll, .ref a_t_row, .ref a_t_rows, .ref a_t_factors, .ref a_t_found, .ref a_t_foundOtherwise, .int c_t_acts, .int c_t_refusals, .int c_t_knocks])), (a_t_forms, .inl (cyJ, 6, .inr (.inl f_t_forms)))] s.heap := hP
  have hK0 := hK
  have hl := lv_entry ([.ref a_t, .int p0, .int p1]) (n := 4) (Nat.le_of_ble_eq_true rfl)
  rw [lg_entry_eq]
  generalize (lg_sl ([.ref a_t, .int p0, .int p1]) ++ List.replicate (4 - (lg_sl ([.ref a_t, .int p0, .int p1])).length) Slot.unset).toArray = ls at hl ⊢
  have hl : lv_has ls 4 [(0, .ref a_t), (1, .int p0), (2, .int p1)] := hl
  have h := hF
  clear hF
  unfold F_X7_isPrime at h
  refine lv_iload_n hx hb dX7_isPrime_0 rfl (lv_at hl 1 rfl) ?_
  obtain ⟨xc1, hc1, h⟩ := obn_h h
  have hPc := hP.sub (ws' := []) [] rfl
  have hDc := hD.sub (ws' := []) [] (by decide) rfl
  refine hx_v (w1 := []) (wr := [(a_t, .inr (6, [.ref a_t_forms, .ref a_t_roll, .ref a_t_row, .ref a_t_rows, .ref a_t_factors, .ref a_t_found, .ref a_t_foundOtherwise, .int c_t_acts, .int c_t_refusals, .int c_t_knocks])), (a_t_forms, .inl (cyJ, 6, .inr (.inl f_t_forms)))]) (vx_runS (As := [.int p0]) (rest := []) hcf (c_X7_testForm l hfl D cyJ s.heap.size p0 xc1 hc1) (va_cwS 1 hts gX7_isPrime_X7_testForm rfl rfl rfl ydX7_testForm ⟨Nat.le_of_ble_eq_true rfl, Nat.le_of_ble_eq_true rfl⟩) ⟨bl_PX, pr_PX hPc hK0 hDc hnw hE hS (va_free hD hS hA [] rfl)⟩ rfl rfl hl.1 rfl (lv_room (Nat.le_of_ble_eq_true rfl)) dX7_isPrime_1 ⟨Nat.le_of_ble_eq_true rfl, Nat.le_of_ble_eq_true rfl⟩) hP hD hS hA [] [0, 1] rfl rfl (by decide) (by decide) (fun E9 ce9 q9 H locs hx9 hE9 hP hD hS hce9 hcv9 hcl9 => ?_) (fun hx9 H locs hP hD hS => ?_)
  · have h := if_ hx9 h
    have hP : va_P D vwCl [(a_t, .inr (6, [.ref a_t_forms, .ref a_t_roll, .ref a_t_row, .ref a_t_rows, .ref a_t_factors, .ref a_t_found, .ref a_t_foundOtherwise, .int c_t_acts, .int c_t_refusals, .int c_t_knocks])), (a_t_forms, .inl (cyJ, 6, .inr (.inl f_t_forms)))] H := hP
    have hD : va_D A [(a_t, .inr (6, [.ref a_t_forms, .ref a_t_roll, .ref a_t_row, .ref a_t_rows, .ref a_t_factors, .ref a_t_found, .ref a_t_foundOtherwise, .int c_t_acts, .int c_t_refusals, .int c_t_knocks])), (a_t_forms, .inl (cyJ, 6, .inr (.inl f_t_forms)))] := hD
    obtain ⟨e0, e1⟩ := tup2 h
    subst e0
    subst e1
    have hP9 : va_P D vwCl [(a_t, .inr (6, [.ref a_t_forms, .ref a_t_roll, .ref a_t_row, .ref a_t_rows, .ref a_t_factors, .ref a_t_found, .ref a_t_foundOtherwise, .int c_t_acts, .int c_t_refusals, .int c_t_knocks])), (a_t_forms, .inl (cyJ, 6, .inr (.inl f_t_forms)))] H := hP.sub [0, 1] rfl
    have hD9 : va_D A [(a_t, .inr (6, [.ref a_t_forms, .ref a_t_roll, .ref a_t_row, .ref a_t_rows, .ref a_t_factors, .ref a_t_found, .ref a_t_foundOtherwise, .int c_t_acts, .int c_t_refusals, .int c_t_knocks])), (a_t_forms, .inl (cyJ, 6, .inr (.inl f_t_forms)))] := hD.sub [0, 1] (by decide) rfl
    exact vx_out (fun x hx => (hxt x hx).elim) hlocks hce9 hcv9 hcl9 (fun t ht hW => ⟨(), hx9, ⟨hE9, wQA_of ht hP9 hD9⟩, hS.F ht⟩) hS.2.2 (Nat.le_of_ble_eq_true rfl) (Nat.le_of_ble_eq_true rfl)
  · have h := it_ hx9 h
    have hP : va_P D vwCl [(a_t, .inr (6, [.ref a_t_forms, .ref a_t_roll, .ref a_t_row, .ref a_t_rows, .ref a_t_factors, .ref a_t_found, .ref a_t_foundOtherwise, .int c_t_acts, .int c_t_refusals, .int c_t_knocks])), (a_t_forms, .inl (cyJ, 6, .inr (.inl f_t_forms)))] H := hP
    have hD : va_D A [(a_t, .inr (6, [.ref a_t_forms, .ref a_t_roll, .ref a_t_row, .ref a_t_rows, .ref a_t_factors, .ref a_t_found, .ref a_t_foundOtherwise, .int c_t_acts, .int c_t_refusals, .int c_t_knocks])), (a_t_forms, .inl (cyJ, 6, .inr (.inl f_t_forms)))] := hD
    refine lv_iload_n hx hb dX7_isPrime_4 rfl (lv_at hl 2 rfl) ?_
    refine lv_iconst (v := 0) hx hb dX7_isPrime_5 (by decide) ?_
    refine lv_iconst (v := 1) hx hb dX7_isPrime_6 (by decide) ?_
    obtain ⟨xc7, hc7, h⟩ := obn_h h
    have hPc := hP.sub (ws' := []) [] rfl
    have hDc := hD.sub (ws' := []) [] (by decide) rfl
    refine hx_v (w1 := []) (wr := [(a_t, .inr (6, [.ref a_t_forms, .ref a_t_roll, .ref a_t_row, .ref a_t_rows, .ref a_t_factors, .ref a_t_found, .ref a_t_foundOtherwise, .int c_t_acts, .int c_t_refusals, .int c_t_knocks])), (a_t_forms, .inl (cyJ, 6, .inr (.inl f_t_forms)))]) (vx_runS (As := [.int p1, .int (0 : Int32), .int (1 : Int32)]) (rest := []) hcf (c_X7_testRange l hfl D cyJ H.size p1 (0 : Int32) (1 : Int32) xc7 hc7) (va_cwS 3 hts gX7_isPrime_X7_testRange rfl rfl rfl ydX7_testRange ⟨Nat.le_of_ble_eq_true rfl, Nat.le_of_ble_eq_true rfl⟩) ⟨bl_PX, pr_PX hPc hK0 hDc hnw hE hS (va_free hD hS hA [] rfl)⟩ rfl rfl hl.1 rfl (lv_room (Nat.le_of_ble_eq_true rfl)) dX7_isPrime_7 ⟨Nat.le_of_ble_eq_true rfl, Nat.le_of_ble_eq_true rfl⟩) hP hD hS hA [] [0, 1] rfl rfl (by decide) (by decide) (fun E9 ce9 q9 H locs hx9 hE9 hP hD hS hce9 hcv9 hcl9 => ?_) (fun hx9 H locs hP hD hS => ?_)
    · have h := if_ hx9 h
      have hP : va_P D vwCl [(a_t, .inr (6, [.ref a_t_forms, .ref a_t_roll, .ref a_t_row, .ref a_t_rows, .ref a_t_factors, .ref a_t_found, .ref a_t_foundOtherwise, .int c_t_acts, .int c_t_refusals, .int c_t_knocks])), (a_t_forms, .inl (cyJ, 6, .inr (.inl f_t_forms)))] H := hP
      have hD : va_D A [(a_t, .inr (6, [.ref a_t_forms, .ref a_t_roll, .ref a_t_row, .ref a_t_rows, .ref a_t_factors, .ref a_t_found, .ref a_t_foundOtherwise, .int c_t_acts, .int c_t_refusals, .int c_t_knocks])), (a_t_forms, .inl (cyJ, 6, .inr (.inl f_t_forms)))] := hD
      obtain ⟨e0, e1⟩ := tup2 h
      subst e0
      subst e1
      have hP9 : va_P D vwCl [(a_t, .inr (6, [.ref a_t_forms, .ref a_t_roll, .ref a_t_row, .ref a_t_rows, .ref a_t_factors, .ref a_t_found, .ref a_t_foundOtherwise, .int c_t_acts, .int c_t_refusals, .int c_t_knocks])), (a_t_forms, .inl (cyJ, 6, .inr (.inl f_t_forms)))] H := hP.sub [0, 1] rfl
      have hD9 : va_D A [(a_t, .inr (6, [.ref a_t_forms, .ref a_t_roll, .ref a_t_row, .ref a_t_rows, .ref a_t_factors, .ref a_t_found, .ref a_t_foundOtherwise, .int c_t_acts, .int c_t_refusals, .int c_t_knocks])), (a_t_forms, .inl (cyJ, 6, .inr (.inl f_t_forms)))] := hD.sub [0, 1] (by decide) rfl
      exact vx_out (fun x hx => (hxt x hx).elim) hlocks hce9 hcv9 hcl9 (fun t ht hW => ⟨(), hx9, ⟨hE9, wQA_of ht hP9 hD9⟩, hS.F ht⟩) hS.2.2 (Nat.le_of_ble_eq_true rfl) (Nat.le_of_ble_eq_true rfl)
    · have h := it_ hx9 h
      have hP : va_P D vwCl [(a_t, .inr (6, [.ref a_t_forms, .ref a_t_roll, .ref a_t_row, .ref a_t_rows, .ref a_t_factors, .ref a_t_found, .ref a_t_foundOtherwise, .int c_t_acts, .int c_t_refusals, .int c_t_knocks])), (a_t_forms, .inl (cyJ, 6, .inr (.inl f_t_forms)))] H := hP
      have hD : va_D A [(a_t, .inr (6, [.ref a_t_forms, .ref a_t_roll, .ref a_t_row, .ref a_t_rows, .ref a_t_factors, .ref a_t_found, .ref a_t_foundOtherwise, .int c_t_acts, .int c_t_refusals, .int c_t_knocks])), (a_t_forms, .inl (cyJ, 6, .inr (.inl f_t_forms)))] := hD
      refine lv_aload_n hx hb dX7_isPrime_10 rfl (lv_at hl 0 rfl) ?_
      refine va_get (D := D) (ci := 6) (v := .ref a_t_forms) (C := RX7) (T := TX7) (N := 10) hx hb hts hinX7 hown hK hP 0 rfl rfl 0 (by decide) hfl9 (fun _ h9 => h9) rfl dX7_isPrime_11 ?_
      refine lv_iload_n hx hb dX7_isPrime_14 rfl (lv_at hl 1 rfl) ?_
      obtain ⟨hq15, h⟩ := chk_h h
      refine va_lald hx hb hK hP 1 0 rfl rfl hq15 dX7_isPrime_15 ?_
      obtain ⟨r16, hc16, h⟩ := obn_h h
      refine pz_callS (As := [.long (f_t_forms p0.toNatClampNeg)]) (rest := []) hcf (c_X0_degreeOf l (f_t_forms p0.toNatClampNeg) r16 hc16) (va_cwS 1 hts gX7_isPrime_X0_degreeOf rfl rfl rfl ydX0_degreeOf ⟨Nat.le_of_ble_eq_true rfl, Nat.le_of_ble_eq_true rfl⟩) hnw rfl hl.1 rfl (Nat.le_of_ble_eq_true rfl) dX7_isPrime_16 ⟨Nat.le_of_ble_eq_true rfl, Nat.le_of_ble_eq_true rfl⟩ ?_
      refine lv_bipush (v := 10) hx hb dX7_isPrime_19 (by decide) ?_
      refine lv_icmp_le (tgt := 27) hx hb dX7_isPrime_21 (by decide) (fun c21 => ?_) (fun c21 => ?_)
      · have h := it_ c21 h
        refine lv_iload_n hx hb dX7_isPrime_27 rfl (lv_at hl 2 rfl) ?_
        refine lv_if_ne (tgt := 43) hx hb dX7_isPrime_28 (by decide) (fun c28 => ?_) (fun c28 => ?_)
        · have h := if_ c28 h
          refine lv_aload_n hx hb dX7_isPrime_43 rfl (lv_at hl 0 rfl) ?_
          refine va_get (D := D) (ci := 6) (v := .ref a_t_forms) (C := RX7) (T := TX7) (N := 10) hx hb hts hinX7 hown hK hP 0 rfl rfl 0 (by decide) hfl9 (fun _ h9 => h9) rfl dX7_isPrime_44 ?_
          refine lv_iload_n hx hb dX7_isPrime_47 rfl (lv_at hl 1 rfl) ?_
          obtain ⟨hq48, h⟩ := chk_h h
          refine va_lald hx hb hK hP 1 0 rfl rfl hq48 dX7_isPrime_48 ?_
          obtain ⟨r49, hc49, h⟩ := obn_h h
          refine pz_callS (As := [.long (f_t_forms p0.toNatClampNeg)]) (rest := []) hcf (c_X2_isByRising l (f_t_forms p0.toNatClampNeg) r49 hc49) (va_cwS 1 hts gX7_isPrime_X2_isByRising rfl rfl rfl ydX2_isByRising ⟨Nat.le_of_ble_eq_true rfl, Nat.le_of_ble_eq_true rfl⟩) hnw rfl hl.1 rfl (Nat.le_of_ble_eq_true rfl) dX7_isPrime_49 ⟨Nat.le_of_ble_eq_true rfl, Nat.le_of_ble_eq_true rfl⟩ ?_
          refine lv_istore_n (lv' := [(3, .int r49), (0, .ref a_t), (1, .int p0), (2, .int p1)]) hx hb dX7_isPrime_52 rfl hl (by decide) rfl (fun ls hl => ?_)
          refine lv_iload_n hx hb dX7_isPrime_53 rfl (lv_at hl 0 rfl) ?_
          refine lv_if_eq (tgt := 61) hx hb dX7_isPrime_54 (by decide) (fun c54 => ?_) (fun c54 => ?_)
          · have h := it_ c54 h
            refine lv_iconst (v := 0) hx hb dX7_isPrime_61 (by decide) ?_
            obtain ⟨e0, e1⟩ := tup2 h
            subst e0
            subst e1
            have hP9 : va_P D vwCl [(a_t, .inr (6, [.ref a_t_forms, .ref a_t_roll, .ref a_t_row, .ref a_t_rows, .ref a_t_factors, .ref a_t_found, .ref a_t_foundOtherwise, .int c_t_acts, .int c_t_refusals, .int c_t_knocks])), (a_t_forms, .inl (cyJ, 6, .inr (.inl f_t_forms)))] H := hP.sub [0, 1] rfl
            have hD9 : va_D A [(a_t, .inr (6, [.ref a_t_forms, .ref a_t_roll, .ref a_t_row, .ref a_t_rows, .ref a_t_factors, .ref a_t_found, .ref a_t_foundOtherwise, .int c_t_acts, .int c_t_refusals, .int c_t_knocks])), (a_t_forms, .inl (cyJ, 6, .inr (.inl f_t_forms)))] := hD.sub [0, 1] (by decide) rfl
            refine vx_ret ?_
            exact W.iret hx hb hr (fun t ht hW => ⟨⟨_, (), rfl, ⟨rfl, rfl⟩, wQA_of ht hP9 hD9⟩, hS.F ht⟩) hS.2.2 dX7_isPrime_62
          · have h := if_ c54 h
            refine lv_iconst (v := 1) hx hb dX7_isPrime_57 (by decide) ?_
            refine lv_goto (tgt := 62) hx hb dX7_isPrime_58 (by decide) ?_
            obtain ⟨e0, e1⟩ := tup2 h
            subst e0
            subst e1
            have hP9 : va_P D vwCl [(a_t, .inr (6, [.ref a_t_forms, .ref a_t_roll, .ref a_t_row, .ref a_t_rows, .ref a_t_factors, .ref a_t_found, .ref a_t_foundOtherwise, .int c_t_acts, .int c_t_refusals, .int c_t_knocks])), (a_t_forms, .inl (cyJ, 6, .inr (.inl f_t_forms)))] H := hP.sub [0, 1] rfl
            have hD9 : va_D A [(a_t, .inr (6, [.ref a_t_forms, .ref a_t_roll, .ref a_t_row, .ref a_t_rows, .ref a_t_factors, .ref a_t_found, .ref a_t_foundOtherwise, .int c_t_acts, .int c_t_refusals, .int c_t_knocks])), (a_t_forms, .inl (cyJ, 6, .inr (.inl f_t_forms)))] := hD.sub [0, 1] (by decide) rfl
            refine vx_ret ?_
            exact W.iret hx hb hr (fun t ht hW => ⟨⟨_, (), rfl, ⟨rfl, rfl⟩, wQA_of ht hP9 hD9⟩, hS.F ht⟩) hS.2.2 dX7_isPrime_62
        · have h := it_ c28 h
          refine lv_aload_n hx hb dX7_isPrime_31 rfl (lv_at hl 0 rfl) ?_
          refine va_get (D := D) (ci := 6) (v := .ref a_t_forms) (C := RX7) (T := TX7) (N := 10) hx hb hts hinX7 hown hK hP 0 rfl rfl 0 (by decide) hfl9 (fun _ h9 => h9) rfl dX7_isPrime_32 ?_
          refine lv_iload_n hx hb dX7_isPrime_35 rfl (lv_at hl 1 rfl) ?_
          obtain ⟨hq36, h⟩ := chk_h h
          refine va_lald hx hb hK hP 1 0 rfl rfl hq36 dX7_isPrime_36 ?_
          obtain ⟨r37, hc37, h⟩ := obn_h h
          refine pz_callS (As := [.long (f_t_forms p0.toNatClampNeg)]) (rest := []) hcf (c_X2_isByTrying l (f_t_forms p0.toNatClampNeg) r37 hc37) (va_cwS 1 hts gX7_isPrime_X2_isByTrying rfl rfl rfl ydX2_isByTrying ⟨Nat.le_of_ble_eq_true rfl, Nat.le_of_ble_eq_true rfl⟩) hnw rfl hl.1 rfl (Nat.le_of_ble_eq_true rfl) dX7_isPrime_37 ⟨Nat.le_of_ble_eq_true rfl, Nat.le_of_ble_eq_true rfl⟩ ?_
          refine lv_goto (tgt := 52) hx hb dX7_isPrime_40 (by decide) ?_
          refine lv_istore_n (lv' := [(3, .int r37), (0, .ref a_t), (1, .int p0), (2, .int p1)]) hx hb dX7_isPrime_52 rfl hl (by decide) rfl (fun ls hl => ?_)
          refine lv_iload_n hx hb dX7_isPrime_53 rfl (lv_at hl 0 rfl) ?_
          refine lv_if_eq (tgt := 61) hx hb dX7_isPrime_54 (by decide) (fun c54 => ?_) (fun c54 => ?_)
          · have h := it_ c54 h
            refine lv_iconst (v := 0) hx hb dX7_isPrime_61 (by decide) ?_
            obtain ⟨e0, e1⟩ := tup2 h
            subst e0
            subst e1
            have hP9 : va_P D vwCl [(a_t, .inr (6, [.ref a_t_forms, .ref a_t_roll, .ref a_t_row, .ref a_t_rows, .ref a_t_factors, .ref a_t_found, .ref a_t_foundOtherwise, .int c_t_acts, .int c_t_refusals, .int c_t_knocks])), (a_t_forms, .inl (cyJ, 6, .inr (.inl f_t_forms)))] H := hP.sub [0, 1] rfl
            have hD9 : va_D A [(a_t, .inr (6, [.ref a_t_forms, .ref a_t_roll, .ref a_t_row, .ref a_t_rows, .ref a_t_factors, .ref a_t_found, .ref a_t_foundOtherwise, .int c_t_acts, .int c_t_refusals, .int c_t_knocks])), (a_t_forms, .inl (cyJ, 6, .inr (.inl f_t_forms)))] := hD.sub [0, 1] (by decide) rfl
            refine vx_ret ?_
            exact W.iret hx hb hr (fun t ht hW => ⟨⟨_, (), rfl, ⟨rfl, rfl⟩, wQA_of ht hP9 hD9⟩, hS.F ht⟩) hS.2.2 dX7_isPrime_62
          · have h := if_ c54 h
            refine lv_iconst (v := 1) hx hb dX7_isPrime_57 (by decide) ?_
            refine lv_goto (tgt := 62) hx hb dX7_isPrime_58 (by decide) ?_
            obtain ⟨e0, e1⟩ := tup2 h
            subst e0
            subst e1
            have hP9 : va_P D vwCl [(a_t, .inr (6, [.ref a_t_forms, .ref a_t_roll, .ref a_t_row, .ref a_t_rows, .ref a_t_factors, .ref a_t_found, .ref a_t_foundOtherwise, .int c_t_acts, .int c_t_refusals, .int c_t_knocks])), (a_t_forms, .inl (cyJ, 6, .inr (.inl f_t_forms)))] H := hP.sub [0, 1] rfl
            have hD9 : va_D A [(a_t, .inr (6, [.ref a_t_forms, .ref a_t_roll, .ref a_t_row, .ref a_t_rows, .ref a_t_factors, .ref a_t_found, .ref a_t_foundOtherwise, .int c_t_acts, .int c_t_refusals, .int c_t_knocks])), (a_t_forms, .inl (cyJ, 6, .inr (.inl f_t_forms)))] := hD.sub [0, 1] (by decide) rfl
            refine vx_ret ?_
            exact W.iret hx hb hr (fun t ht hW => ⟨⟨_, (), rfl, ⟨rfl, rfl⟩, wQA_of ht hP9 hD9⟩, hS.F ht⟩) hS.2.2 dX7_isPrime_62
      · have h := if_ c21 h
        refine lv_bipush (v := -9) hx hb dX7_isPrime_24 (by decide) ?_
        obtain ⟨e0, e1⟩ := tup2 h
        subst e0
        subst e1
        have hP9 : va_P D vwCl [(a_t, .inr (6, [.ref a_t_forms, .ref a_t_roll, .ref a_t_row, .ref a_t_rows, .ref a_t_factors, .ref a_t_found, .ref a_t_foundOtherwise, .int c_t_acts, .int c_t_refusals, .int c_t_knocks])), (a_t_forms, .inl (cyJ, 6, .inr (.inl f_t_forms)))] H := hP.sub [0, 1] rfl
        have hD9 : va_D A [(a_t, .inr (6, [.ref a_t_forms, .ref a_t_roll, .ref a_t_row, .ref a_t_rows, .ref a_t_factors, .ref a_t_found, .ref a_t_foundOtherwise, .int c_t_acts, .int c_t_refusals, .int c_t_knocks])), (a_t_forms, .inl (cyJ, 6, .inr (.inl f_t_forms)))] := hD.sub [0, 1] (by decide) rfl
        refine vx_ret ?_
        exact W.iret hx hb hr (fun t ht hW => ⟨⟨_, (), rfl, ⟨rfl, rfl⟩, wQA_of ht hP9 hD9⟩, hS.F ht⟩) hS.2.2 dX7_isPrime_26

noncomputable abbrev rmX2_howManyByCounting : Room := { frames := 5, cells := 0, slots := 0, locals := 120 }
theorem ydX2_howManyByCounting : yX2_howManyByCounting.cls ≠ "java/lang/invoke/MethodHandle" ∧ yX2_howManyByCounting.cls ≠ "java/lang/invoke/VarHandle" ∧ (parseMethodDescriptor yX2_howManyByCounting.desc).map (fun d => d.parameters.length) = some 1 := by decide +kernel
noncomputable def S_X2_howManyByCounting_6 (z0_6 : Int32) (k33 : Int32 → Option (Int32)) (ih6 : Int32 → Int64 → Option (Int32)) (y1_6 : Int32) (y2_6 : Int64) : Option (Int32) :=
 (if ((2 : Int64) <<< (z0_6.toInt64 &&& 63)) ≤ y2_6 then
 k33 y1_6
else
 obn (F_X2_isByTrying y2_6) (fun r17 =>
 (if r17 = 0 then
 bnd (y2_6 + (1 : Int64)) (fun x2_29 =>
 ih6 y1_6 x2_29)
else
 bnd (y1_6 + 1) (fun x1_23 =>
 bnd (y2_6 + (1 : Int64)) (fun x2_29 =>
 ih6 x1_23 x2_29)))))
noncomputable def F_X2_howManyByCounting (p0 : Int32) : Option (Int32) :=
 bnd ((1 : Int64) <<< (p0.toInt64 &&& 63)) (fun x2_5 =>
 LQ2 (S_X2_howManyByCounting_6 p0 (fun y1_6_33 =>
 some y1_6_33)) 20000 (0 : Int32) x2_5)
set_option maxHeartbeats 4000000 in
set_option maxRecDepth 100000 in
theorem c_X2_howManyByCounting (l : Launch) (p0 : Int32) (r0 : Int32) (hF : F_X2_howManyByCounting p0 = some r0) : Met l yX2_howManyByCounting wsX2_howManyByCounting rmX2_howManyByCounting (va_Pc [.int p0] NW) (k2_QcV (.int r0)) 0 0 (fun _ => False) := by
  refine Met.ofW (cc := cX2_howManyByCounting) (maxL := 4) (ret := (some .int)) (by decide) rfl ?_
  intro p e s m args below meth c s₁ B hml hv
  obtain ⟨rfl, hnw⟩ := hv
  have hx := B.exec
  have hb := B.bytes
  have hr := B.returns
  have hts := atoms_spec (ws := wsX2_howManyByCounting) B.pre
  have hown : s.vm.findClass RX2 = some m.cls := findClass_of_methodNamed B.named
  have hlocks := B.notSynchronized
  have hcf : CallFix _ _ _ _ _ _ _ _ _ := ⟨hx, hb, hml, hown, hts⟩
  have hl := lv_entry ([.int p0]) (n := 4) (Nat.le_of_ble_eq_true rfl)
  rw [lg_entry_eq]
  generalize (lg_sl ([.int p0]) ++ List.replicate (4 - (lg_sl ([.int p0])).length) Slot.unset).toArray = ls at hl ⊢
  have hl : lv_has ls 4 [(0, .int p0)] := hl
  have h := hF
  clear hF
  unfold F_X2_howManyByCounting at h
  refine lv_iconst (v := 0) hx hb dX2_howManyByCounting_0 (by decide) ?_
  refine lv_istore_n (lv' := [(1, .int (0 : Int32)), (0, .int p0)]) hx hb dX2_howManyByCounting_1 rfl hl (by decide) rfl (fun ls hl => ?_)
  refine lv_lconst (v := 1) hx hb dX2_howManyByCounting_2 (by decide) ?_
  refine lv_iload_n hx hb dX2_howManyByCounting_3 rfl (lv_at hl 1 rfl) ?_
  refine lv_lshl (v := (1 : Int64) <<< (p0.toInt64 &&& 63)) hx hb dX2_howManyByCounting_4 rfl ?_
  refine lv_topl (fun x2_5 e_x2_5 => ?_)
  have h := bnd_h e_x2_5 h
  refine lv_lstore_n (lv' := [(2, .long x2_5), (1, .int (0 : Int32)), (0, .int p0)]) hx hb dX2_howManyByCounting_5 rfl hl (by decide) rfl (fun ls hl => ?_)
  refine LQ2_k1 (M := fun (y1_6 : Int32) (y2_6 : Int64) => ∀ (ls : Array Slot), lv_has ls 4 [(0, .int p0), (1, .int y1_6), (2, .long y2_6)] → W p l e rmX2_howManyByCounting s m ([.int p0] : List Value).toArray below meth c s.heap [] 0 0 (MQ below (k2_QcV (.int r0)) ([.int p0] : List Value).toArray s 0 0 (fun _ => False)) (F0 m 6 ls [])) ?_ _ _ _ h ls (lv_sub hl [2, 1, 0] rfl)
  intro k33 hk33 ih6 hih6 y1_6 y2_6 h ls hl
  unfold S_X2_howManyByCounting_6 at h
  refine lv_lload_n hx hb dX2_howManyByCounting_6 rfl (lv_at hl 2 rfl) ?_
  refine lv_ldc2 hx hb hown (hts (.constantLong RX2 15 (2)) (by decide +kernel)) dX2_howManyByCounting_7 ?_
  refine lv_iload_n hx hb dX2_howManyByCounting_10 rfl (lv_at hl 0 rfl) ?_
  refine lv_lshl (v := (2 : Int64) <<< (p0.toInt64 &&& 63)) hx hb dX2_howManyByCounting_11 rfl ?_
  refine W.lcmp hx hb dX2_howManyByCounting_12 ?_
  refine lv_if_ge (tgt := 33) hx hb dX2_howManyByCounting_13 (by decide) (fun c13 => ?_) (fun c13 => ?_)
  · have c13 := (lg_cmp_ge _ _).mp c13
    have h := it_ c13 h
    rw [hk33] at h
    refine lv_iload_n hx hb dX2_howManyByCounting_33 rfl (lv_at hl 1 rfl) ?_
    have e1 := Option.some.inj h
    subst e1
    exact W.iret hx hb hr (fun t ht _ => ⟨rfl, ht⟩) no_q dX2_howManyByCounting_34
  · have c13 := fun z => c13 ((lg_cmp_ge _ _).mpr z)
    have h := if_ c13 h
    refine lv_lload_n hx hb dX2_howManyByCounting_16 rfl (lv_at hl 2 rfl) ?_
    obtain ⟨r17, hc17, h⟩ := obn_h h
    refine pz_callS (As := [.long y2_6]) (rest := []) hcf (c_X2_isByTrying l y2_6 r17 hc17) (va_cwS 1 hts gX2_howManyByCounting_X2_isByTrying rfl rfl rfl ydX2_isByTrying ⟨Nat.le_of_ble_eq_true rfl, Nat.le_of_ble_eq_true rfl⟩) hnw rfl hl.1 rfl (Nat.le_of_ble_eq_true rfl) dX2_howManyByCounting_17 ⟨Nat.le_of_ble_eq_true rfl, Nat.le_of_ble_eq_true rfl⟩ ?_
    refine lv_if_eq (tgt := 26) hx hb dX2_howManyByCounting_20 (by decide) (fun c20 => ?_) (fun c20 => ?_)
    · have h := it_ c20 h
      refine lv_lload_n hx hb dX2_howManyByCounting_26 rfl (lv_at hl 2 rfl) ?_
      refine lv_lconst (v := 1) hx hb dX2_howManyByCounting_27 (by decide) ?_
      refine lv_ladd hx hb dX2_howManyByCounting_28 ?_
      refine lv_topl (fun x2_29 e_x2_29 => ?_)
      have h := bnd_h e_x2_29 h
      refine lv_lstore_n (lv' := [(2, .long x2_29), (0, .int p0), (1, .int y1_6)]) hx hb dX2_howManyByCounting_29 rfl hl (by decide) rfl (fun ls hl => ?_)
      refine lv_goto (tgt := 6) hx hb dX2_howManyByCounting_30 (by decide) ?_
      exact hih6 y1_6 x2_29 h ls (lv_sub hl [1, 2, 0] rfl)
    · have h := if_ c20 h
      obtain ⟨x1_23, e_x1_23⟩ : ∃ z : Int32, z = y1_6 + 1 := ⟨_, rfl⟩
      have h := bnd_h e_x1_23 h
      refine lv_iinc (v := x1_23) (lv' := [(1, .int x1_23), (0, .int p0), (2, .long y2_6)]) hx hb dX2_howManyByCounting_23 hl (k := 1) rfl (by rw [e_x1_23]; rfl) (by decide) rfl (fun ls hl => ?_)
      refine lv_lload_n hx hb dX2_howManyByCounting_26 rfl (lv_at hl 2 rfl) ?_
      refine lv_lconst (v := 1) hx hb dX2_howManyByCounting_27 (by decide) ?_
      refine lv_ladd hx hb dX2_howManyByCounting_28 ?_
      refine lv_topl (fun x2_29 e_x2_29 => ?_)
      have h := bnd_h e_x2_29 h
      refine lv_lstore_n (lv' := [(2, .long x2_29), (1, .int x1_23), (0, .int p0)]) hx hb dX2_howManyByCounting_29 rfl hl (by decide) rfl (fun ls hl => ?_)
      refine lv_goto (tgt := 6) hx hb dX2_howManyByCounting_30 (by decide) ?_
      exact hih6 x1_23 x2_29 h ls (lv_sub hl [2, 1, 0] rfl)
