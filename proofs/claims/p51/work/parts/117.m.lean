noncomputable abbrev rmX9_multipliers : Room := { frames := 4, cells := 2, slots := 6, locals := 93 }
theorem ydX9_multipliers : yX9_multipliers.cls = RX9 ∧ yX9_multipliers.cls ≠ "java/lang/invoke/MethodHandle" ∧ yX9_multipliers.cls ≠ "java/lang/invoke/VarHandle" ∧ (parseMethodDescriptor yX9_multipliers.desc).map (fun d => d.parameters.length) = some 4 := by decide +kernel
noncomputable def S_X9_multipliers_123 (z7_123 : Int64) (k170 : (Nat → Int64) → (Nat → Int64) → Option (Int32 × Int32 × Int32 × (Nat → Int64))) (ih123 : Int32 → (Nat → Int64) → (Nat → Int64) → Option (Int32 × Int32 × Int32 × (Nat → Int64))) (y9_123 : Int32) (f_n55_123 : Nat → Int64) (f_n77_123 : Nat → Int64) : Option (Int32 × Int32 × Int32 × (Nat → Int64)) :=
 (if (3 : Int32) ≤ y9_123 then
 k170 f_n55_123 f_n77_123
else
 chk (¬ (y9_123 < 0 ∨ 3 ≤ y9_123.toNatClampNeg)) (
 chk (¬ (y9_123 < 0 ∨ 3 ≤ y9_123.toNatClampNeg)) (
 obn (F_X9_productOf z7_123 (f_n77_123 y9_123.toNatClampNeg)) (fun r141 =>
 bnd ((f_n55_123 y9_123.toNatClampNeg) ^^^ r141) (fun x10_145 =>
 chk (¬ (y9_123 < 0 ∨ 3 ≤ y9_123.toNatClampNeg)) (
 chk (¬ (y9_123 < 0 ∨ 3 ≤ y9_123.toNatClampNeg)) (
 bnd (vp_updL f_n55_123 y9_123.toNatClampNeg (f_n77_123 y9_123.toNatClampNeg)) (fun f_n55_156 =>
 chk (¬ (y9_123 < 0 ∨ 3 ≤ y9_123.toNatClampNeg)) (
 bnd (vp_updL f_n77_123 y9_123.toNatClampNeg x10_145) (fun f_n77_163 =>
 bnd (y9_123 + 1) (fun x9_164 =>
 ih123 x9_164 f_n55_156 f_n77_163)))))))))))
noncomputable def S_X9_multipliers_98 (k173 : (Nat → Int64) → (Nat → Int64) → Option (Int32 × Int32 × Int32 × (Nat → Int64))) (ih98 : (Nat → Int64) → (Nat → Int64) → Option (Int32 × Int32 × Int32 × (Nat → Int64))) (f_n55_98 : Nat → Int64) (f_n77_98 : Nat → Int64) : Option (Int32 × Int32 × Int32 × (Nat → Int64)) :=
 (if (f_n77_98 (0 : Int32).toNatClampNeg) = (0 : Int64) then
 k173 f_n55_98 f_n77_98
else
 obn (F_X9_quotientOf (f_n55_98 (0 : Int32).toNatClampNeg) (f_n77_98 (0 : Int32).toNatClampNeg)) (fun r115 =>
 LQ3 (S_X9_multipliers_123 r115 (fun f_n55_123_170 f_n77_123_170 =>
 ih98 f_n55_123_170 f_n77_123_170)) 20000 (0 : Int32) f_n55_98 f_n77_98))
noncomputable def J_X9_multipliers_46 (jl1_46 : Int32) (jl2_46 : Int32) (jl3_46 : Int32) (jl4_46 : Int32) (js1_46 : Int32) (js2_46 : Int32) (c_t_acts_j46 : Int32) (c_t_thrown_j46 : Int32) (f_t_forms_j46 : Nat → Int64) : Option (Int32 × Int32 × Int32 × (Nat → Int64)) :=
 obn2 (F_X9_isThrown js1_46 js2_46) (fun r46 c_t_thrown_46 =>
 (if r46 = 0 then
 chk (¬ (jl1_46 < 0 ∨ 6 ≤ jl1_46.toNatClampNeg)) (
 bnd (vp_updL (fun _ => (0 : Int64)) (0 : Int32).toNatClampNeg (f_t_forms_j46 jl1_46.toNatClampNeg)) (fun f_n55_65 =>
 bnd (vp_updL f_n55_65 (1 : Int32).toNatClampNeg (1 : Int64)) (fun f_n55_69 =>
 bnd (vp_updL f_n55_69 (2 : Int32).toNatClampNeg (0 : Int64)) (fun f_n55_73 =>
 chk (¬ (jl2_46 < 0 ∨ 6 ≤ jl2_46.toNatClampNeg)) (
 bnd (vp_updL (fun _ => (0 : Int64)) (0 : Int32).toNatClampNeg (f_t_forms_j46 jl2_46.toNatClampNeg)) (fun f_n77_87 =>
 bnd (vp_updL f_n77_87 (1 : Int32).toNatClampNeg (0 : Int64)) (fun f_n77_91 =>
 bnd (vp_updL f_n77_91 (2 : Int32).toNatClampNeg (1 : Int64)) (fun f_n77_95 =>
 LQ2 (S_X9_multipliers_98 (fun f_n55_98_173 f_n77_98_173 =>
 chk (¬ (jl3_46 < 0 ∨ 6 ≤ jl3_46.toNatClampNeg)) (
 bnd (vp_updL f_t_forms_j46 jl3_46.toNatClampNeg (f_n55_98_173 (1 : Int32).toNatClampNeg)) (fun f_t_forms_182 =>
 chk (¬ (jl4_46 < 0 ∨ 6 ≤ jl4_46.toNatClampNeg)) (
 bnd (vp_updL f_t_forms_182 jl4_46.toNatClampNeg (f_n55_98_173 (2 : Int32).toNatClampNeg)) (fun f_t_forms_193 =>
 obn (F_X9_degreeOf (f_n55_98_173 (0 : Int32).toNatClampNeg)) (fun r199 =>
 obn2 (F_X9_done c_t_acts_j46 r199) (fun r202 c_t_acts_202 =>
 some (r202, c_t_acts_202, c_t_thrown_46, f_t_forms_193))))))))) 20000 f_n55_73 f_n77_95))))))))
else
 some ((0 : Int32), c_t_acts_j46, c_t_thrown_46, f_t_forms_j46)))
noncomputable def J_X9_multipliers_35 (jl1_35 : Int32) (jl2_35 : Int32) (jl3_35 : Int32) (jl4_35 : Int32) (js1_35 : Int32) (c_t_acts_j35 : Int32) (c_t_thrown_j35 : Int32) (f_t_forms_j35 : Nat → Int64) : Option (Int32 × Int32 × Int32 × (Nat → Int64)) :=
 (if jl3_35 = jl4_35 then
 J_X9_multipliers_46 jl1_35 jl2_35 jl3_35 jl4_35 js1_35 (1 : Int32) c_t_acts_j35 c_t_thrown_j35 f_t_forms_j35
else
 J_X9_multipliers_46 jl1_35 jl2_35 jl3_35 jl4_35 js1_35 (0 : Int32) c_t_acts_j35 c_t_thrown_j35 f_t_forms_j35)
noncomputable def J_X9_multipliers_30 (jl1_30 : Int32) (jl2_30 : Int32) (jl3_30 : Int32) (jl4_30 : Int32) (c_t_acts_j30 : Int32) (c_t_thrown_j30 : Int32) (f_t_forms_j30 : Nat → Int64) : Option (Int32 × Int32 × Int32 × (Nat → Int64)) :=
 J_X9_multipliers_35 jl1_30 jl2_30 jl3_30 jl4_30 (1 : Int32) c_t_acts_j30 c_t_thrown_j30 f_t_forms_j30
noncomputable def F_X9_multipliers (c_t_acts : Int32) (c_t_thrown : Int32) (f_t_forms : Nat → Int64) (p0 : Int32) (p1 : Int32) (p2 : Int32) (p3 : Int32) : Option (Int32 × Int32 × Int32 × (Nat → Int64)) :=
 obn (F_X9_isForm p0) (fun r2 =>
 (if r2 = 0 then
 J_X9_multipliers_30 p0 p1 p2 p3 c_t_acts c_t_thrown f_t_forms
else
 obn (F_X9_isForm p1) (fun r9 =>
 (if r9 = 0 then
 J_X9_multipliers_30 p0 p1 p2 p3 c_t_acts c_t_thrown f_t_forms
else
 obn (F_X9_isForm p2) (fun r16 =>
 (if r16 = 0 then
 J_X9_multipliers_30 p0 p1 p2 p3 c_t_acts c_t_thrown f_t_forms
else
 obn (F_X9_isForm p3) (fun r24 =>
 (if r24 = 0 then
 J_X9_multipliers_30 p0 p1 p2 p3 c_t_acts c_t_thrown f_t_forms
else
 J_X9_multipliers_35 p0 p1 p2 p3 (0 : Int32) c_t_acts c_t_thrown f_t_forms))))))))
set_option maxHeartbeats 4000000 in
set_option maxRecDepth 100000 in
theorem c_X9_multipliers (l : Launch) (D : va_G) (cyJ : ClassId) (sz : Nat) (a_t : Nat) (a_t_forms : Nat) (a_t_roll : Nat) (c_t_many : Int32) (c_t_taps : Int64) (c_t_cells : Int32) (c_t_acts : Int32) (c_t_refused : Int32) (c_t_knocks : Int32) (c_t_thrown : Int32) (f_t_forms : Nat → Int64) (p0 : Int32) (p1 : Int32) (p2 : Int32) (p3 : Int32) (r0 : Int32) (o_c_t_acts : Int32) (o_c_t_thrown : Int32) (o_f_t_forms : Nat → Int64) (hF : F_X9_multipliers c_t_acts c_t_thrown f_t_forms p0 p1 p2 p3 = some (r0, o_c_t_acts, o_c_t_thrown, o_f_t_forms)) : Met l yX9_multipliers wsX9_multipliers rmX9_multipliers (va_Pc [.ref a_t, .int p0, .int p1, .int p2, .int p3] (wPD D [(cyJ, .long)] [(a_t, .inr (8, [.ref a_t_forms, .ref a_t_roll, .int c_t_many, .long c_t_taps, .int c_t_cells, .int c_t_acts, .int c_t_refused, .int c_t_knocks, .int c_t_thrown])), (a_t_forms, .inl (cyJ, 6, .inr (.inl f_t_forms)))] sz)) (va_Qi (fun (r : Int32) (_ : Unit) => r = r0) (fun _ t => wQA D [(a_t, .inr (8, [.ref a_t_forms, .ref a_t_roll, .int c_t_many, .long c_t_taps, .int c_t_cells, .int o_c_t_acts, .int c_t_refused, .int c_t_knocks, .int o_c_t_thrown])), (a_t_forms, .inl (cyJ, 6, .inr (.inl o_f_t_forms)))] (va_A [(a_t, .inr (8, [.ref a_t_forms, .ref a_t_roll, .int c_t_many, .long c_t_taps, .int c_t_cells, .int c_t_acts, .int c_t_refused, .int c_t_knocks, .int c_t_thrown])), (a_t_forms, .inl (cyJ, 6, .inr (.inl f_t_forms)))] sz) t) (va_A [(a_t, .inr (8, [.ref a_t_forms, .ref a_t_roll, .int c_t_many, .long c_t_taps, .int c_t_cells, .int c_t_acts, .int c_t_refused, .int c_t_knocks, .int c_t_thrown])), (a_t_forms, .inl (cyJ, 6, .inr (.inl f_t_forms)))] sz)) 2 6 (va_A [(a_t, .inr (8, [.ref a_t_forms, .ref a_t_roll, .int c_t_many, .long c_t_taps, .int c_t_cells, .int c_t_acts, .int c_t_refused, .int c_t_knocks, .int c_t_thrown])), (a_t_forms, .inl (cyJ, 6, .inr (.inl f_t_forms)))] sz) := by
  refine Met.ofW (cc := cX9_multipliers) (maxL := 12) (ret := (some .int)) (by decide) rfl ?_
  intro p e s m args below meth c s₁ B hml hv
  obtain ⟨rfl, hsz, hP, hK, hD0, hnw⟩ := hv
  have hx := B.exec
  have hb := B.bytes
  have hr := B.returns
  have hts := atoms_spec (ws := wsX9_multipliers) B.pre
  have hown : s.vm.findClass RX9 = some m.cls := findClass_of_methodNamed B.named
  have hlocks := B.notSynchronized
  have hcf : CallFix _ _ _ _ _ _ _ _ _ := ⟨hx, hb, hml, hown, hts⟩
  have hinX9 : ∀ w ∈ u_ws RX9 TX9 9, w ∈ wsX9_multipliers := by decide +kernel
  have hfl9 := hts (.fieldLink RX9 9 "FormwheelModel" "forms" "[J") (by decide +kernel)
  subst hsz
  have hD := hD0.self (sz := s.heap.size)
  generalize hAe : va_A [(a_t, .inr (8, [.ref a_t_forms, .ref a_t_roll, .int c_t_many, .long c_t_taps, .int c_t_cells, .int c_t_acts, .int c_t_refused, .int c_t_knocks, .int c_t_thrown])), (a_t_forms, .inl (cyJ, 6, .inr (.inl f_t_forms)))] s.heap.size = A at hD ⊢
  have hA : ∀ q : Nat, s.heap.size ≤ q → A q := fun q h => by rw [← hAe]; exact Or.inr h
  have hS : va_S A s.heap s.heap [] := va_S.rf
  have hP : va_P D vwCl [(a_t, .inr (8, [.ref a_t_forms, .ref a_t_roll, .int c_t_many, .long c_t_taps, .int c_t_cells, .int c_t_acts, .int c_t_refused, .int c_t_knocks, .int c_t_thrown])), (a_t_forms, .inl (cyJ, 6, .inr (.inl f_t_forms)))] s.heap := hP
  have hK0 := hK
  have hl := lv_entry ([.ref a_t, .int p0, .int p1, .int p2, .int p3]) (n := 12) (Nat.le_of_ble_eq_true rfl)
  rw [lg_entry_eq]
  generalize (lg_sl ([.ref a_t, .int p0, .int p1, .int p2, .int p3]) ++ List.replicate (12 - (lg_sl ([.ref a_t, .int p0, .int p1, .int p2, .int p3])).length) Slot.unset).toArray = ls at hl ⊢
  have hl : lv_has ls 12 [(0, .ref a_t), (1, .int p0), (2, .int p1), (3, .int p2), (4, .int p3)] := hl
  have h := hF
  clear hF
  unfold F_X9_multipliers at h
  have hj46 : ∀ (js1_46 : Int32) (js2_46 : Int32) (c_t_acts_j46 : Int32) (c_t_thrown_j46 : Int32) (f_t_forms_j46 : Nat → Int64), J_X9_multipliers_46 p0 p1 p2 p3 js1_46 js2_46 c_t_acts_j46 c_t_thrown_j46 f_t_forms_j46 = some (r0, o_c_t_acts, o_c_t_thrown, o_f_t_forms) → ∀ (H : Heap) (locs : List Loc), va_P D vwCl [(a_t, .inr (8, [.ref a_t_forms, .ref a_t_roll, .int c_t_many, .long c_t_taps, .int c_t_cells, .int c_t_acts_j46, .int c_t_refused, .int c_t_knocks, .int c_t_thrown_j46])), (a_t_forms, .inl (cyJ, 6, .inr (.inl f_t_forms_j46)))] H → va_D A [(a_t, .inr (8, [.ref a_t_forms, .ref a_t_roll, .int c_t_many, .long c_t_taps, .int c_t_cells, .int c_t_acts_j46, .int c_t_refused, .int c_t_knocks, .int c_t_thrown_j46])), (a_t_forms, .inl (cyJ, 6, .inr (.inl f_t_forms_j46)))] → va_S A s.heap H locs → ∀ (ls : Array Slot), lv_has ls 12 [(0, .ref a_t), (1, .int p0), (2, .int p1), (3, .int p2), (4, .int p3)] → W p l e rmX9_multipliers s m ([.ref a_t, .int p0, .int p1, .int p2, .int p3] : List Value).toArray below meth c H locs 0 0 (MQ below (va_Qi (fun (r : Int32) (_ : Unit) => r = r0) (fun _ t => wQA D [(a_t, .inr (8, [.ref a_t_forms, .ref a_t_roll, .int c_t_many, .long c_t_taps, .int c_t_cells, .int o_c_t_acts, .int c_t_refused, .int c_t_knocks, .int o_c_t_thrown])), (a_t_forms, .inl (cyJ, 6, .inr (.inl o_f_t_forms)))] A t) A) ([.ref a_t, .int p0, .int p1, .int p2, .int p3] : List Value).toArray s 2 6 A) (F0 m 46 ls [.int js2_46, .int js1_46, .ref a_t]) := by
    intro js1_46 js2_46 c_t_acts_j46 c_t_thrown_j46 f_t_forms_j46 h H locs hP hD hS ls hl
    unfold J_X9_multipliers_46 at h
    obtain ⟨r46, c_t_thrown_46, hc46, h⟩ := obn2_h h
    have hPc := hP.sub (ws' := [(a_t, .inr (8, [.ref a_t_forms, .ref a_t_roll, .int c_t_many, .long c_t_taps, .int c_t_cells, .int c_t_acts_j46, .int c_t_refused, .int c_t_knocks, .int c_t_thrown_j46]))]) [0] rfl
    have hDc := hD.sub (ws' := [(a_t, .inr (8, [.ref a_t_forms, .ref a_t_roll, .int c_t_many, .long c_t_taps, .int c_t_cells, .int c_t_acts_j46, .int c_t_refused, .int c_t_knocks, .int c_t_thrown_j46]))]) [0] (by decide) rfl
    refine hp_i (w1 := [(a_t, .inr (8, [.ref a_t_forms, .ref a_t_roll, .int c_t_many, .long c_t_taps, .int c_t_cells, .int c_t_acts_j46, .int c_t_refused, .int c_t_knocks, .int c_t_thrown_46]))]) (wr := [(a_t_forms, .inl (cyJ, 6, .inr (.inl f_t_forms_j46)))]) (va_runV (As := [.int js1_46, .int js2_46]) (rest := []) hcf (c_X9_isThrown l D cyJ H.size a_t a_t_forms a_t_roll c_t_many c_t_taps c_t_cells c_t_acts_j46 c_t_refused c_t_knocks c_t_thrown_j46 js1_46 js2_46 r46 c_t_thrown_46 hc46) (cwV 2 hts gX9_multipliers_X9_isThrown rfl rfl rfl ydX9_isThrown ⟨Nat.le_of_ble_eq_true rfl, Nat.le_of_ble_eq_true rfl⟩) ⟨bl_PD, va_recv hK hP (ci := 8) (q0 := 0) rfl rfl, pr_PD hPc hK0 hDc hnw⟩ rfl rfl hl.1 rfl (lv_room (Nat.le_of_ble_eq_true rfl)) dX9_multipliers_46 ⟨Nat.le_of_ble_eq_true rfl, Nat.le_of_ble_eq_true rfl⟩) hP hD hS hA [0] [1] rfl rfl (by decide) (by decide) (fun H locs hP hD hS => ?_)
    have hP : va_P D vwCl [(a_t_forms, .inl (cyJ, 6, .inr (.inl f_t_forms_j46))), (a_t, .inr (8, [.ref a_t_forms, .ref a_t_roll, .int c_t_many, .long c_t_taps, .int c_t_cells, .int c_t_acts_j46, .int c_t_refused, .int c_t_knocks, .int c_t_thrown_46]))] H := hP
    have hD : va_D A [(a_t_forms, .inl (cyJ, 6, .inr (.inl f_t_forms_j46))), (a_t, .inr (8, [.ref a_t_forms, .ref a_t_roll, .int c_t_many, .long c_t_taps, .int c_t_cells, .int c_t_acts_j46, .int c_t_refused, .int c_t_knocks, .int c_t_thrown_46]))] := hD
    refine lv_if_eq (tgt := 54) hx hb dX9_multipliers_49 (by decide) (fun c49 => ?_) (fun c49 => ?_)
    · have h := it_ c49 h
      refine lv_iconst (v := 3) hx hb dX9_multipliers_54 (by decide) ?_
      refine va_newa (atype := .long) (ty := .long) (a0 := (3, .inr (.inl (fun _ => (0 : Int64))))) (N' := 3) hx hb (hts (.arrayClass .long) (by decide +kernel)) rfl hK hP hD hS hA (fun _ => rfl) (by decide) rfl (by decide) (Nat.le_of_ble_eq_true rfl) (Nat.le_of_ble_eq_true rfl) dX9_multipliers_55 (fun a_n55 cy_55 H hK hP hD hS => ?_)
      have e_cy_55 := cy_eq hK0 hK
      subst e_cy_55
      have hK := hK0
      have hP : va_P D vwCl [(a_t_forms, .inl (cyJ, 6, .inr (.inl f_t_forms_j46))), (a_t, .inr (8, [.ref a_t_forms, .ref a_t_roll, .int c_t_many, .long c_t_taps, .int c_t_cells, .int c_t_acts_j46, .int c_t_refused, .int c_t_knocks, .int c_t_thrown_46])), (a_n55, .inl (cyJ, 3, .inr (.inl (fun _ => (0 : Int64)))))] H := hP
      have hD : va_D A [(a_t_forms, .inl (cyJ, 6, .inr (.inl f_t_forms_j46))), (a_t, .inr (8, [.ref a_t_forms, .ref a_t_roll, .int c_t_many, .long c_t_taps, .int c_t_cells, .int c_t_acts_j46, .int c_t_refused, .int c_t_knocks, .int c_t_thrown_46])), (a_n55, .inl (cyJ, 3, .inr (.inl (fun _ => (0 : Int64)))))] := hD
      refine W.widen (k := 1) (n := 3) (Nat.le_of_ble_eq_true rfl) (Nat.le_of_ble_eq_true rfl) ?_
      refine lv_dup hx hb dX9_multipliers_57 rfl ?_
      refine lv_iconst (v := 0) hx hb dX9_multipliers_58 (by decide) ?_
      refine lv_aload_n hx hb dX9_multipliers_59 rfl (lv_at hl 0 rfl) ?_
      refine va_get (D := D) (ci := 8) (v := .ref a_t_forms) (C := RX9) (T := TX9) (N := 9) hx hb hts hinX9 hown hK hP 1 rfl rfl 0 (by decide) hfl9 (fun _ h9 => h9) rfl dX9_multipliers_60 ?_
      refine lv_iload_n hx hb dX9_multipliers_63 rfl (lv_at hl 1 rfl) ?_
      obtain ⟨hq64, h⟩ := chk_h h
      refine va_lald hx hb hK hP 0 0 rfl rfl hq64 dX9_multipliers_64 ?_
      refine va_last hx hb hK hP hD hS 2 0 rfl rfl (show ¬ ((0 : Int32) < 0 ∨ 3 ≤ (0 : Int32).toNatClampNeg) from by decide) dX9_multipliers_65 (fun H locs hP hD hS => ?_)
      obtain ⟨f_n55_65, e_f_n55_65⟩ : ∃ z, z = vp_updL (fun _ => (0 : Int64)) (0 : Int32).toNatClampNeg (f_t_forms_j46 p0.toNatClampNeg) := ⟨_, rfl⟩
      have h := bnd_h e_f_n55_65 h
      have hP : va_P D vwCl [(a_t_forms, .inl (cyJ, 6, .inr (.inl f_t_forms_j46))), (a_t, .inr (8, [.ref a_t_forms, .ref a_t_roll, .int c_t_many, .long c_t_taps, .int c_t_cells, .int c_t_acts_j46, .int c_t_refused, .int c_t_knocks, .int c_t_thrown_46])), (a_n55, .inl (cyJ, 3, .inr (.inl f_n55_65)))] H := by rw [e_f_n55_65]; exact hP
      have hD : va_D A [(a_t_forms, .inl (cyJ, 6, .inr (.inl f_t_forms_j46))), (a_t, .inr (8, [.ref a_t_forms, .ref a_t_roll, .int c_t_many, .long c_t_taps, .int c_t_cells, .int c_t_acts_j46, .int c_t_refused, .int c_t_knocks, .int c_t_thrown_46])), (a_n55, .inl (cyJ, 3, .inr (.inl f_n55_65)))] := by rw [e_f_n55_65]; exact hD
      refine lv_dup hx hb dX9_multipliers_66 rfl ?_
      refine lv_iconst (v := 1) hx hb dX9_multipliers_67 (by decide) ?_
      refine lv_lconst (v := 1) hx hb dX9_multipliers_68 (by decide) ?_
      refine va_last hx hb hK hP hD hS 2 0 rfl rfl (show ¬ ((1 : Int32) < 0 ∨ 3 ≤ (1 : Int32).toNatClampNeg) from by decide) dX9_multipliers_69 (fun H locs hP hD hS => ?_)
      obtain ⟨f_n55_69, e_f_n55_69⟩ : ∃ z, z = vp_updL f_n55_65 (1 : Int32).toNatClampNeg (1 : Int64) := ⟨_, rfl⟩
      have h := bnd_h e_f_n55_69 h
      have hP : va_P D vwCl [(a_t_forms, .inl (cyJ, 6, .inr (.inl f_t_forms_j46))), (a_t, .inr (8, [.ref a_t_forms, .ref a_t_roll, .int c_t_many, .long c_t_taps, .int c_t_cells, .int c_t_acts_j46, .int c_t_refused, .int c_t_knocks, .int c_t_thrown_46])), (a_n55, .inl (cyJ, 3, .inr (.inl f_n55_69)))] H := by rw [e_f_n55_69]; exact hP
      have hD : va_D A [(a_t_forms, .inl (cyJ, 6, .inr (.inl f_t_forms_j46))), (a_t, .inr (8, [.ref a_t_forms, .ref a_t_roll, .int c_t_many, .long c_t_taps, .int c_t_cells, .int c_t_acts_j46, .int c_t_refused, .int c_t_knocks, .int c_t_thrown_46])), (a_n55, .inl (cyJ, 3, .inr (.inl f_n55_69)))] := by rw [e_f_n55_69]; exact hD
      refine lv_dup hx hb dX9_multipliers_70 rfl ?_
      refine lv_iconst (v := 2) hx hb dX9_multipliers_71 (by decide) ?_
      refine lv_lconst (v := 0) hx hb dX9_multipliers_72 (by decide) ?_
      refine va_last hx hb hK hP hD hS 2 0 rfl rfl (show ¬ ((2 : Int32) < 0 ∨ 3 ≤ (2 : Int32).toNatClampNeg) from by decide) dX9_multipliers_73 (fun H locs hP hD hS => ?_)
      obtain ⟨f_n55_73, e_f_n55_73⟩ : ∃ z, z = vp_updL f_n55_69 (2 : Int32).toNatClampNeg (0 : Int64) := ⟨_, rfl⟩
      have h := bnd_h e_f_n55_73 h
      have hP : va_P D vwCl [(a_t_forms, .inl (cyJ, 6, .inr (.inl f_t_forms_j46))), (a_t, .inr (8, [.ref a_t_forms, .ref a_t_roll, .int c_t_many, .long c_t_taps, .int c_t_cells, .int c_t_acts_j46, .int c_t_refused, .int c_t_knocks, .int c_t_thrown_46])), (a_n55, .inl (cyJ, 3, .inr (.inl f_n55_73)))] H := by rw [e_f_n55_73]; exact hP
      have hD : va_D A [(a_t_forms, .inl (cyJ, 6, .inr (.inl f_t_forms_j46))), (a_t, .inr (8, [.ref a_t_forms, .ref a_t_roll, .int c_t_many, .long c_t_taps, .int c_t_cells, .int c_t_acts_j46, .int c_t_refused, .int c_t_knocks, .int c_t_thrown_46])), (a_n55, .inl (cyJ, 3, .inr (.inl f_n55_73)))] := by rw [e_f_n55_73]; exact hD
      refine lv_astore (lv' := [(5, .ref a_n55), (0, .ref a_t), (1, .int p0), (2, .int p1), (3, .int p2), (4, .int p3)]) hx hb dX9_multipliers_74 hl (by decide) rfl (fun ls hl => ?_)
      refine lv_iconst (v := 3) hx hb dX9_multipliers_76 (by decide) ?_
      refine va_newa (atype := .long) (ty := .long) (a0 := (3, .inr (.inl (fun _ => (0 : Int64))))) (N' := 3) hx hb (hts (.arrayClass .long) (by decide +kernel)) rfl hK hP hD hS hA (fun _ => rfl) (by decide) rfl (by decide) (Nat.le_of_ble_eq_true rfl) (Nat.le_of_ble_eq_true rfl) dX9_multipliers_77 (fun a_n77 cy_77 H hK hP hD hS => ?_)
      have e_cy_77 := cy_eq hK0 hK
      subst e_cy_77
      have hK := hK0
      have hP : va_P D vwCl [(a_t_forms, .inl (cyJ, 6, .inr (.inl f_t_forms_j46))), (a_t, .inr (8, [.ref a_t_forms, .ref a_t_roll, .int c_t_many, .long c_t_taps, .int c_t_cells, .int c_t_acts_j46, .int c_t_refused, .int c_t_knocks, .int c_t_thrown_46])), (a_n55, .inl (cyJ, 3, .inr (.inl f_n55_73))), (a_n77, .inl (cyJ, 3, .inr (.inl (fun _ => (0 : Int64)))))] H := hP
      have hD : va_D A [(a_t_forms, .inl (cyJ, 6, .inr (.inl f_t_forms_j46))), (a_t, .inr (8, [.ref a_t_forms, .ref a_t_roll, .int c_t_many, .long c_t_taps, .int c_t_cells, .int c_t_acts_j46, .int c_t_refused, .int c_t_knocks, .int c_t_thrown_46])), (a_n55, .inl (cyJ, 3, .inr (.inl f_n55_73))), (a_n77, .inl (cyJ, 3, .inr (.inl (fun _ => (0 : Int64)))))] := hD
      refine W.widen (k := 2) (n := 6) (Nat.le_of_ble_eq_true rfl) (Nat.le_of_ble_eq_true rfl) ?_
      refine lv_dup hx hb dX9_multipliers_79 rfl ?_
      refine lv_iconst (v := 0) hx hb dX9_multipliers_80 (by decide) ?_
      refine lv_aload_n hx hb dX9_multipliers_81 rfl (lv_at hl 1 rfl) ?_
      refine va_get (D := D) (ci := 8) (v := .ref a_t_forms) (C := RX9) (T := TX9) (N := 9) hx hb hts hinX9 hown hK hP 1 rfl rfl 0 (by decide) hfl9 (fun _ h9 => h9) rfl dX9_multipliers_82 ?_
      refine lv_iload_n hx hb dX9_multipliers_85 rfl (lv_at hl 3 rfl) ?_
      obtain ⟨hq86, h⟩ := chk_h h
      refine va_lald hx hb hK hP 0 0 rfl rfl hq86 dX9_multipliers_86 ?_
      refine va_last hx hb hK hP hD hS 3 0 rfl rfl (show ¬ ((0 : Int32) < 0 ∨ 3 ≤ (0 : Int32).toNatClampNeg) from by decide) dX9_multipliers_87 (fun H locs hP hD hS => ?_)
      obtain ⟨f_n77_87, e_f_n77_87⟩ : ∃ z, z = vp_updL (fun _ => (0 : Int64)) (0 : Int32).toNatClampNeg (f_t_forms_j46 p1.toNatClampNeg) := ⟨_, rfl⟩
      have h := bnd_h e_f_n77_87 h
      have hP : va_P D vwCl [(a_t_forms, .inl (cyJ, 6, .inr (.inl f_t_forms_j46))), (a_t, .inr (8, [.ref a_t_forms, .ref a_t_roll, .int c_t_many, .long c_t_taps, .int c_t_cells, .int c_t_acts_j46, .int c_t_refused, .int c_t_knocks, .int c_t_thrown_46])), (a_n55, .inl (cyJ, 3, .inr (.inl f_n55_73))), (a_n77, .inl (cyJ, 3, .inr (.inl f_n77_87)))] H := by rw [e_f_n77_87]; exact hP
      have hD : va_D A [(a_t_forms, .inl (cyJ, 6, .inr (.inl f_t_forms_j46))), (a_t, .inr (8, [.ref a_t_forms, .ref a_t_roll, .int c_t_many, .long c_t_taps, .int c_t_cells, .int c_t_acts_j46, .int c_t_refused, .int c_t_knocks, .int c_t_thrown_46])), (a_n55, .inl (cyJ, 3, .inr (.inl f_n55_73))), (a_n77, .inl (cyJ, 3, .inr (.inl f_n77_87)))] := by rw [e_f_n77_87]; exact hD
      refine lv_dup hx hb dX9_multipliers_88 rfl ?_
      refine lv_iconst (v := 1) hx hb dX9_multipliers_89 (by decide) ?_
      refine lv_lconst (v := 0) hx hb dX9_multipliers_90 (by decide) ?_
      refine va_last hx hb hK hP hD hS 3 0 rfl rfl (show ¬ ((1 : Int32) < 0 ∨ 3 ≤ (1 : Int32).toNatClampNeg) from by decide) dX9_multipliers_91 (fun H locs hP hD hS => ?_)
      obtain ⟨f_n77_91, e_f_n77_91⟩ : ∃ z, z = vp_updL f_n77_87 (1 : Int32).toNatClampNeg (0 : Int64) := ⟨_, rfl⟩
      have h := bnd_h e_f_n77_91 h
      have hP : va_P D vwCl [(a_t_forms, .inl (cyJ, 6, .inr (.inl f_t_forms_j46))), (a_t, .inr (8, [.ref a_t_forms, .ref a_t_roll, .int c_t_many, .long c_t_taps, .int c_t_cells, .int c_t_acts_j46, .int c_t_refused, .int c_t_knocks, .int c_t_thrown_46])), (a_n55, .inl (cyJ, 3, .inr (.inl f_n55_73))), (a_n77, .inl (cyJ, 3, .inr (.inl f_n77_91)))] H := by rw [e_f_n77_91]; exact hP
      have hD : va_D A [(a_t_forms, .inl (cyJ, 6, .inr (.inl f_t_forms_j46))), (a_t, .inr (8, [.ref a_t_forms, .ref a_t_roll, .int c_t_many, .long c_t_taps, .int c_t_cells, .int c_t_acts_j46, .int c_t_refused, .int c_t_knocks, .int c_t_thrown_46])), (a_n55, .inl (cyJ, 3, .inr (.inl f_n55_73))), (a_n77, .inl (cyJ, 3, .inr (.inl f_n77_91)))] := by rw [e_f_n77_91]; exact hD
      refine lv_dup hx hb dX9_multipliers_92 rfl ?_
      refine lv_iconst (v := 2) hx hb dX9_multipliers_93 (by decide) ?_
      refine lv_lconst (v := 1) hx hb dX9_multipliers_94 (by decide) ?_
      refine va_last hx hb hK hP hD hS 3 0 rfl rfl (show ¬ ((2 : Int32) < 0 ∨ 3 ≤ (2 : Int32).toNatClampNeg) from by decide) dX9_multipliers_95 (fun H locs hP hD hS => ?_)
      obtain ⟨f_n77_95, e_f_n77_95⟩ : ∃ z, z = vp_updL f_n77_91 (2 : Int32).toNatClampNeg (1 : Int64) := ⟨_, rfl⟩
      have h := bnd_h e_f_n77_95 h
      have hP : va_P D vwCl [(a_t_forms, .inl (cyJ, 6, .inr (.inl f_t_forms_j46))), (a_t, .inr (8, [.ref a_t_forms, .ref a_t_roll, .int c_t_many, .long c_t_taps, .int c_t_cells, .int c_t_acts_j46, .int c_t_refused, .int c_t_knocks, .int c_t_thrown_46])), (a_n55, .inl (cyJ, 3, .inr (.inl f_n55_73))), (a_n77, .inl (cyJ, 3, .inr (.inl f_n77_95)))] H := by rw [e_f_n77_95]; exact hP
      have hD : va_D A [(a_t_forms, .inl (cyJ, 6, .inr (.inl f_t_forms_j46))), (a_t, .inr (8, [.ref a_t_forms, .ref a_t_roll, .int c_t_many, .long c_t_taps, .int c_t_cells, .int c_t_acts_j46, .int c_t_refused, .int c_t_knocks, .int c_t_thrown_46])), (a_n55, .inl (cyJ, 3, .inr (.inl f_n55_73))), (a_n77, .inl (cyJ, 3, .inr (.inl f_n77_95)))] := by rw [e_f_n77_95]; exact hD
      refine lv_astore (lv' := [(6, .ref a_n77), (5, .ref a_n55), (0, .ref a_t), (1, .int p0), (2, .int p1), (3, .int p2), (4, .int p3)]) hx hb dX9_multipliers_96 hl (by decide) rfl (fun ls hl => ?_)
      refine LQ2_k1 (M := fun (f_n55_98 : Nat → Int64) (f_n77_98 : Nat → Int64) => ∀ (H : Heap) (locs : List Loc), va_P D vwCl [(a_t_forms, .inl (cyJ, 6, .inr (.inl f_t_forms_j46))), (a_t, .inr (8, [.ref a_t_forms, .ref a_t_roll, .int c_t_many, .long c_t_taps, .int c_t_cells, .int c_t_acts_j46, .int c_t_refused, .int c_t_knocks, .int c_t_thrown_46])), (a_n55, .inl (cyJ, 3, .inr (.inl f_n55_98))), (a_n77, .inl (cyJ, 3, .inr (.inl f_n77_98)))] H → va_D A [(a_t_forms, .inl (cyJ, 6, .inr (.inl f_t_forms_j46))), (a_t, .inr (8, [.ref a_t_forms, .ref a_t_roll, .int c_t_many, .long c_t_taps, .int c_t_cells, .int c_t_acts_j46, .int c_t_refused, .int c_t_knocks, .int c_t_thrown_46])), (a_n55, .inl (cyJ, 3, .inr (.inl f_n55_98))), (a_n77, .inl (cyJ, 3, .inr (.inl f_n77_98)))] → va_S A s.heap H locs → ∀ (ls : Array Slot), lv_has ls 12 [(0, .ref a_t), (3, .int p2), (4, .int p3), (5, .ref a_n55), (6, .ref a_n77)] → W p l e rmX9_multipliers s m ([.ref a_t, .int p0, .int p1, .int p2, .int p3] : List Value).toArray below meth c H locs 2 6 (MQ below (va_Qi (fun (r : Int32) (_ : Unit) => r = r0) (fun _ t => wQA D [(a_t, .inr (8, [.ref a_t_forms, .ref a_t_roll, .int c_t_many, .long c_t_taps, .int c_t_cells, .int o_c_t_acts, .int c_t_refused, .int c_t_knocks, .int o_c_t_thrown])), (a_t_forms, .inl (cyJ, 6, .inr (.inl o_f_t_forms)))] A t) A) ([.ref a_t, .int p0, .int p1, .int p2, .int p3] : List Value).toArray s 2 6 A) (F0 m 98 ls [])) ?_ _ _ _ h _ _ hP hD hS ls (lv_sub hl [2, 5, 6, 1, 0] rfl)
      intro k173 hk173 ih98 hih98 f_n55_98 f_n77_98 h H locs hP hD hS ls hl
      unfold S_X9_multipliers_98 at h
      refine lv_aload hx hb dX9_multipliers_98 (lv_at hl 4 rfl) ?_
      refine lv_iconst (v := 0) hx hb dX9_multipliers_100 (by decide) ?_
      refine va_lald hx hb hK hP 3 0 rfl rfl (show ¬ ((0 : Int32) < 0 ∨ 3 ≤ (0 : Int32).toNatClampNeg) from by decide) dX9_multipliers_101 ?_
      refine lv_lconst (v := 0) hx hb dX9_multipliers_102 (by decide) ?_
      refine W.lcmp hx hb dX9_multipliers_103 ?_
      refine lv_if_eq (tgt := 173) hx hb dX9_multipliers_104 (by decide) (fun c104 => ?_) (fun c104 => ?_)
      · have c104 := (lg_cmp_eq _ _).mp c104
        have h := it_ c104 h
        rw [hk173] at h
        refine lv_aload_n hx hb dX9_multipliers_173 rfl (lv_at hl 0 rfl) ?_
        refine va_get (D := D) (ci := 8) (v := .ref a_t_forms) (C := RX9) (T := TX9) (N := 9) hx hb hts hinX9 hown hK hP 1 rfl rfl 0 (by decide) hfl9 (fun _ h9 => h9) rfl dX9_multipliers_174 ?_
        refine lv_iload_n hx hb dX9_multipliers_177 rfl (lv_at hl 1 rfl) ?_
        refine lv_aload hx hb dX9_multipliers_178 (lv_at hl 3 rfl) ?_
        refine lv_iconst (v := 1) hx hb dX9_multipliers_180 (by decide) ?_
        refine va_lald hx hb hK hP 2 0 rfl rfl (show ¬ ((1 : Int32) < 0 ∨ 3 ≤ (1 : Int32).toNatClampNeg) from by decide) dX9_multipliers_181 ?_
        obtain ⟨hq182, h⟩ := chk_h h
        refine va_last hx hb hK hP hD hS 0 0 rfl rfl hq182 dX9_multipliers_182 (fun H locs hP hD hS => ?_)
        obtain ⟨f_t_forms_182, e_f_t_forms_182⟩ : ∃ z, z = vp_updL f_t_forms_j46 p2.toNatClampNeg (f_n55_98 (1 : Int32).toNatClampNeg) := ⟨_, rfl⟩
        have h := bnd_h e_f_t_forms_182 h
        have hP : va_P D vwCl [(a_t_forms, .inl (cyJ, 6, .inr (.inl f_t_forms_182))), (a_t, .inr (8, [.ref a_t_forms, .ref a_t_roll, .int c_t_many, .long c_t_taps, .int c_t_cells, .int c_t_acts_j46, .int c_t_refused, .int c_t_knocks, .int c_t_thrown_46])), (a_n55, .inl (cyJ, 3, .inr (.inl f_n55_98))), (a_n77, .inl (cyJ, 3, .inr (.inl f_n77_98)))] H := by rw [e_f_t_forms_182]; exact hP
        have hD : va_D A [(a_t_forms, .inl (cyJ, 6, .inr (.inl f_t_forms_182))), (a_t, .inr (8, [.ref a_t_forms, .ref a_t_roll, .int c_t_many, .long c_t_taps, .int c_t_cells, .int c_t_acts_j46, .int c_t_refused, .int c_t_knocks, .int c_t_thrown_46])), (a_n55, .inl (cyJ, 3, .inr (.inl f_n55_98))), (a_n77, .inl (cyJ, 3, .inr (.inl f_n77_98)))] := by rw [e_f_t_forms_182]; exact hD
        refine lv_aload_n hx hb dX9_multipliers_183 rfl (lv_at hl 0 rfl) ?_
        refine va_get (D := D) (ci := 8) (v := .ref a_t_forms) (C := RX9) (T := TX9) (N := 9) hx hb hts hinX9 hown hK hP 1 rfl rfl 0 (by decide) hfl9 (fun _ h9 => h9) rfl dX9_multipliers_184 ?_
        refine lv_iload hx hb dX9_multipliers_187 (lv_at hl 2 rfl) ?_
        refine lv_aload hx hb dX9_multipliers_189 (lv_at hl 3 rfl) ?_
        refine lv_iconst (v := 2) hx hb dX9_multipliers_191 (by decide) ?_
        refine va_lald hx hb hK hP 2 0 rfl rfl (show ¬ ((2 : Int32) < 0 ∨ 3 ≤ (2 : Int32).toNatClampNeg) from by decide) dX9_multipliers_192 ?_
        obtain ⟨hq193, h⟩ := chk_h h
        refine va_last hx hb hK hP hD hS 0 0 rfl rfl hq193 dX9_multipliers_193 (fun H locs hP hD hS => ?_)
        obtain ⟨f_t_forms_193, e_f_t_forms_193⟩ : ∃ z, z = vp_updL f_t_forms_182 p3.toNatClampNeg (f_n55_98 (2 : Int32).toNatClampNeg) := ⟨_, rfl⟩
        have h := bnd_h e_f_t_forms_193 h
        have hP : va_P D vwCl [(a_t_forms, .inl (cyJ, 6, .inr (.inl f_t_forms_193))), (a_t, .inr (8, [.ref a_t_forms, .ref a_t_roll, .int c_t_many, .long c_t_taps, .int c_t_cells, .int c_t_acts_j46, .int c_t_refused, .int c_t_knocks, .int c_t_thrown_46])), (a_n55, .inl (cyJ, 3, .inr (.inl f_n55_98))), (a_n77, .inl (cyJ, 3, .inr (.inl f_n77_98)))] H := by rw [e_f_t_forms_193]; exact hP
        have hD : va_D A [(a_t_forms, .inl (cyJ, 6, .inr (.inl f_t_forms_193))), (a_t, .inr (8, [.ref a_t_forms, .ref a_t_roll, .int c_t_many, .long c_t_taps, .int c_t_cells, .int c_t_acts_j46, .int c_t_refused, .int c_t_knocks, .int c_t_thrown_46])), (a_n55, .inl (cyJ, 3, .inr (.inl f_n55_98))), (a_n77, .inl (cyJ, 3, .inr (.inl f_n77_98)))] := by rw [e_f_t_forms_193]; exact hD
        refine lv_aload_n hx hb dX9_multipliers_194 rfl (lv_at hl 0 rfl) ?_
        refine lv_aload hx hb dX9_multipliers_195 (lv_at hl 3 rfl) ?_
        refine lv_iconst (v := 0) hx hb dX9_multipliers_197 (by decide) ?_
        refine va_lald hx hb hK hP 2 0 rfl rfl (show ¬ ((0 : Int32) < 0 ∨ 3 ≤ (0 : Int32).toNatClampNeg) from by decide) dX9_multipliers_198 ?_
        obtain ⟨r199, hc199, h⟩ := obn_h h
        refine pz_callS (As := [.long (f_n55_98 (0 : Int32).toNatClampNeg)]) (rest := [.ref a_t]) hcf (c_X9_degreeOf l (f_n55_98 (0 : Int32).toNatClampNeg) r199 hc199) (va_cwS 1 hts gX9_multipliers_X9_degreeOf rfl rfl rfl ydX9_degreeOf ⟨Nat.le_of_ble_eq_true rfl, Nat.le_of_ble_eq_true rfl⟩) hnw rfl hl.1 rfl (Nat.le_of_ble_eq_true rfl) dX9_multipliers_199 ⟨Nat.le_of_ble_eq_true rfl, Nat.le_of_ble_eq_true rfl⟩ ?_
        obtain ⟨r202, c_t_acts_202, hc202, h⟩ := obn2_h h
        have hPc := hP.sub (ws' := [(a_t, .inr (8, [.ref a_t_forms, .ref a_t_roll, .int c_t_many, .long c_t_taps, .int c_t_cells, .int c_t_acts_j46, .int c_t_refused, .int c_t_knocks, .int c_t_thrown_46]))]) [1] rfl
        have hDc := hD.sub (ws' := [(a_t, .inr (8, [.ref a_t_forms, .ref a_t_roll, .int c_t_many, .long c_t_taps, .int c_t_cells, .int c_t_acts_j46, .int c_t_refused, .int c_t_knocks, .int c_t_thrown_46]))]) [1] (by decide) rfl
        refine hp_i (w1 := [(a_t, .inr (8, [.ref a_t_forms, .ref a_t_roll, .int c_t_many, .long c_t_taps, .int c_t_cells, .int c_t_acts_202, .int c_t_refused, .int c_t_knocks, .int c_t_thrown_46]))]) (wr := [(a_t_forms, .inl (cyJ, 6, .inr (.inl f_t_forms_193))), (a_n55, .inl (cyJ, 3, .inr (.inl f_n55_98))), (a_n77, .inl (cyJ, 3, .inr (.inl f_n77_98)))]) (va_runV (As := [.int r199]) (rest := []) hcf (c_X9_done l D cyJ H.size a_t a_t_forms a_t_roll c_t_many c_t_taps c_t_cells c_t_acts_j46 c_t_refused c_t_knocks c_t_thrown_46 r199 r202 c_t_acts_202 hc202) (cwV 1 hts gX9_multipliers_X9_done rfl rfl rfl ydX9_done ⟨Nat.le_of_ble_eq_true rfl, Nat.le_of_ble_eq_true rfl⟩) ⟨bl_PD, va_recv hK hP (ci := 8) (q0 := 1) rfl rfl, pr_PD hPc hK0 hDc hnw⟩ rfl rfl hl.1 rfl (lv_room (Nat.le_of_ble_eq_true rfl)) dX9_multipliers_202 ⟨Nat.le_of_ble_eq_true rfl, Nat.le_of_ble_eq_true rfl⟩) hP hD hS hA [1] [0, 2, 3] rfl rfl (by decide) (by decide) (fun H locs hP hD hS => ?_)
        have hP : va_P D vwCl [(a_t_forms, .inl (cyJ, 6, .inr (.inl f_t_forms_193))), (a_n55, .inl (cyJ, 3, .inr (.inl f_n55_98))), (a_n77, .inl (cyJ, 3, .inr (.inl f_n77_98))), (a_t, .inr (8, [.ref a_t_forms, .ref a_t_roll, .int c_t_many, .long c_t_taps, .int c_t_cells, .int c_t_acts_202, .int c_t_refused, .int c_t_knocks, .int c_t_thrown_46]))] H := hP
        have hD : va_D A [(a_t_forms, .inl (cyJ, 6, .inr (.inl f_t_forms_193))), (a_n55, .inl (cyJ, 3, .inr (.inl f_n55_98))), (a_n77, .inl (cyJ, 3, .inr (.inl f_n77_98))), (a_t, .inr (8, [.ref a_t_forms, .ref a_t_roll, .int c_t_many, .long c_t_taps, .int c_t_cells, .int c_t_acts_202, .int c_t_refused, .int c_t_knocks, .int c_t_thrown_46]))] := hD
        obtain ⟨e0, e1, e2, e3⟩ := tup4 h
        subst e0
        subst e1
        subst e2
        subst e3
        have hP9 : va_P D vwCl [(a_t, .inr (8, [.ref a_t_forms, .ref a_t_roll, .int c_t_many, .long c_t_taps, .int c_t_cells, .int c_t_acts_202, .int c_t_refused, .int c_t_knocks, .int c_t_thrown_46])), (a_t_forms, .inl (cyJ, 6, .inr (.inl f_t_forms_193)))] H := hP.sub [3, 0] rfl
        have hD9 : va_D A [(a_t, .inr (8, [.ref a_t_forms, .ref a_t_roll, .int c_t_many, .long c_t_taps, .int c_t_cells, .int c_t_acts_202, .int c_t_refused, .int c_t_knocks, .int c_t_thrown_46])), (a_t_forms, .inl (cyJ, 6, .inr (.inl f_t_forms_193)))] := hD.sub [3, 0] (by decide) rfl
        exact W.iret hx hb hr (fun t ht hW => ⟨⟨_, (), rfl, rfl, wQA_of ht hP9 hD9⟩, hS.F ht⟩) hS.2.2 dX9_multipliers_205
      · have c104 := fun z => c104 ((lg_cmp_eq _ _).mpr z)
        have h := if_ c104 h
        refine lv_aload hx hb dX9_multipliers_107 (lv_at hl 3 rfl) ?_
        refine lv_iconst (v := 0) hx hb dX9_multipliers_109 (by decide) ?_
        refine va_lald hx hb hK hP 2 0 rfl rfl (show ¬ ((0 : Int32) < 0 ∨ 3 ≤ (0 : Int32).toNatClampNeg) from by decide) dX9_multipliers_110 ?_
        refine lv_aload hx hb dX9_multipliers_111 (lv_at hl 4 rfl) ?_
        refine lv_iconst (v := 0) hx hb dX9_multipliers_113 (by decide) ?_
        refine va_lald hx hb hK hP 3 0 rfl rfl (show ¬ ((0 : Int32) < 0 ∨ 3 ≤ (0 : Int32).toNatClampNeg) from by decide) dX9_multipliers_114 ?_
        obtain ⟨r115, hc115, h⟩ := obn_h h
        refine pz_callS (As := [.long (f_n55_98 (0 : Int32).toNatClampNeg), .long (f_n77_98 (0 : Int32).toNatClampNeg)]) (rest := []) hcf (c_X9_quotientOf l (f_n55_98 (0 : Int32).toNatClampNeg) (f_n77_98 (0 : Int32).toNatClampNeg) r115 hc115) (va_cwS 2 hts gX9_multipliers_X9_quotientOf rfl rfl rfl ydX9_quotientOf ⟨Nat.le_of_ble_eq_true rfl, Nat.le_of_ble_eq_true rfl⟩) hnw rfl hl.1 rfl (Nat.le_of_ble_eq_true rfl) dX9_multipliers_115 ⟨Nat.le_of_ble_eq_true rfl, Nat.le_of_ble_eq_true rfl⟩ ?_
        refine lv_lstore (lv' := [(7, .long r115), (0, .ref a_t), (3, .int p2), (4, .int p3), (5, .ref a_n55), (6, .ref a_n77)]) hx hb dX9_multipliers_118 hl (by decide) rfl (fun ls hl => ?_)
        refine lv_iconst (v := 0) hx hb dX9_multipliers_120 (by decide) ?_
        refine lv_istore (lv' := [(9, .int (0 : Int32)), (7, .long r115), (0, .ref a_t), (3, .int p2), (4, .int p3), (5, .ref a_n55), (6, .ref a_n77)]) hx hb dX9_multipliers_121 hl (by decide) rfl (fun ls hl => ?_)
        refine LQ3_k1 (M := fun (y9_123 : Int32) (f_n55_123 : Nat → Int64) (f_n77_123 : Nat → Int64) => ∀ (H : Heap) (locs : List Loc), va_P D vwCl [(a_t_forms, .inl (cyJ, 6, .inr (.inl f_t_forms_j46))), (a_t, .inr (8, [.ref a_t_forms, .ref a_t_roll, .int c_t_many, .long c_t_taps, .int c_t_cells, .int c_t_acts_j46, .int c_t_refused, .int c_t_knocks, .int c_t_thrown_46])), (a_n55, .inl (cyJ, 3, .inr (.inl f_n55_123))), (a_n77, .inl (cyJ, 3, .inr (.inl f_n77_123)))] H → va_D A [(a_t_forms, .inl (cyJ, 6, .inr (.inl f_t_forms_j46))), (a_t, .inr (8, [.ref a_t_forms, .ref a_t_roll, .int c_t_many, .long c_t_taps, .int c_t_cells, .int c_t_acts_j46, .int c_t_refused, .int c_t_knocks, .int c_t_thrown_46])), (a_n55, .inl (cyJ, 3, .inr (.inl f_n55_123))), (a_n77, .inl (cyJ, 3, .inr (.inl f_n77_123)))] → va_S A s.heap H locs → ∀ (ls : Array Slot), lv_has ls 12 [(0, .ref a_t), (3, .int p2), (4, .int p3), (5, .ref a_n55), (6, .ref a_n77), (7, .long r115), (9, .int y9_123)] → W p l e rmX9_multipliers s m ([.ref a_t, .int p0, .int p1, .int p2, .int p3] : List Value).toArray below meth c H locs 2 6 (MQ below (va_Qi (fun (r : Int32) (_ : Unit) => r = r0) (fun _ t => wQA D [(a_t, .inr (8, [.ref a_t_forms, .ref a_t_roll, .int c_t_many, .long c_t_taps, .int c_t_cells, .int o_c_t_acts, .int c_t_refused, .int c_t_knocks, .int o_c_t_thrown])), (a_t_forms, .inl (cyJ, 6, .inr (.inl o_f_t_forms)))] A t) A) ([.ref a_t, .int p0, .int p1, .int p2, .int p3] : List Value).toArray s 2 6 A) (F0 m 123 ls [])) ?_ _ _ _ _ h _ _ hP hD hS ls (lv_sub hl [2, 3, 4, 5, 6, 1, 0] rfl)
        intro k170 hk170 ih123 hih123 y9_123 f_n55_123 f_n77_123 h H locs hP hD hS ls hl
        unfold S_X9_multipliers_123 at h
        refine lv_iload hx hb dX9_multipliers_123 (lv_at hl 6 rfl) ?_
        refine lv_iconst (v := 3) hx hb dX9_multipliers_125 (by decide) ?_
        refine lv_icmp_ge (tgt := 170) hx hb dX9_multipliers_126 (by decide) (fun c126 => ?_) (fun c126 => ?_)
        · have h := it_ c126 h
          rw [hk170] at h
          refine lv_goto (tgt := 98) hx hb dX9_multipliers_170 (by decide) ?_
          exact hih98 f_n55_123 f_n77_123 h _ _ (hP.sub [0, 1, 2, 3] rfl) (hD.sub [0, 1, 2, 3] (by decide) rfl) hS ls (lv_sub hl [0, 1, 2, 3, 4] rfl)
        · have h := if_ c126 h
          refine lv_aload hx hb dX9_multipliers_129 (lv_at hl 3 rfl) ?_
          refine lv_iload hx hb dX9_multipliers_131 (lv_at hl 6 rfl) ?_
          obtain ⟨hq133, h⟩ := chk_h h
          refine va_lald hx hb hK hP 2 0 rfl rfl hq133 dX9_multipliers_133 ?_
          refine lv_lload hx hb dX9_multipliers_134 (lv_at hl 5 rfl) ?_
          refine lv_aload hx hb dX9_multipliers_136 (lv_at hl 4 rfl) ?_
          refine lv_iload hx hb dX9_multipliers_138 (lv_at hl 6 rfl) ?_
          obtain ⟨hq140, h⟩ := chk_h h
          refine va_lald hx hb hK hP 3 0 rfl rfl hq140 dX9_multipliers_140 ?_
          obtain ⟨r141, hc141, h⟩ := obn_h h
          refine pz_callS (As := [.long r115, .long (f_n77_123 y9_123.toNatClampNeg)]) (rest := [.long (f_n55_123 y9_123.toNatClampNeg)]) hcf (c_X9_productOf l r115 (f_n77_123 y9_123.toNatClampNeg) r141 hc141) (va_cwS 2 hts gX9_multipliers_X9_productOf rfl rfl rfl ydX9_productOf ⟨Nat.le_of_ble_eq_true rfl, Nat.le_of_ble_eq_true rfl⟩) hnw rfl hl.1 rfl (Nat.le_of_ble_eq_true rfl) dX9_multipliers_141 ⟨Nat.le_of_ble_eq_true rfl, Nat.le_of_ble_eq_true rfl⟩ ?_
          refine lv_lxor hx hb dX9_multipliers_144 ?_
          refine lv_topl (fun x10_145 e_x10_145 => ?_)
          have h := bnd_h e_x10_145 h
          refine lv_lstore (lv' := [(10, .long x10_145), (0, .ref a_t), (3, .int p2), (4, .int p3), (5, .ref a_n55), (6, .ref a_n77), (7, .long r115), (9, .int y9_123)]) hx hb dX9_multipliers_145 hl (by decide) rfl (fun ls hl => ?_)
          refine lv_aload hx hb dX9_multipliers_147 (lv_at hl 4 rfl) ?_
          refine lv_iload hx hb dX9_multipliers_149 (lv_at hl 7 rfl) ?_
          refine lv_aload hx hb dX9_multipliers_151 (lv_at hl 5 rfl) ?_
          refine lv_iload hx hb dX9_multipliers_153 (lv_at hl 7 rfl) ?_
          obtain ⟨hq155, h⟩ := chk_h h
          refine va_lald hx hb hK hP 3 0 rfl rfl hq155 dX9_multipliers_155 ?_
          obtain ⟨hq156, h⟩ := chk_h h
          refine va_last hx hb hK hP hD hS 2 0 rfl rfl hq156 dX9_multipliers_156 (fun H locs hP hD hS => ?_)
          obtain ⟨f_n55_156, e_f_n55_156⟩ : ∃ z, z = vp_updL f_n55_123 y9_123.toNatClampNeg (f_n77_123 y9_123.toNatClampNeg) := ⟨_, rfl⟩
          have h := bnd_h e_f_n55_156 h
          have hP : va_P D vwCl [(a_t_forms, .inl (cyJ, 6, .inr (.inl f_t_forms_j46))), (a_t, .inr (8, [.ref a_t_forms, .ref a_t_roll, .int c_t_many, .long c_t_taps, .int c_t_cells, .int c_t_acts_j46, .int c_t_refused, .int c_t_knocks, .int c_t_thrown_46])), (a_n55, .inl (cyJ, 3, .inr (.inl f_n55_156))), (a_n77, .inl (cyJ, 3, .inr (.inl f_n77_123)))] H := by rw [e_f_n55_156]; exact hP
          have hD : va_D A [(a_t_forms, .inl (cyJ, 6, .inr (.inl f_t_forms_j46))), (a_t, .inr (8, [.ref a_t_forms, .ref a_t_roll, .int c_t_many, .long c_t_taps, .int c_t_cells, .int c_t_acts_j46, .int c_t_refused, .int c_t_knocks, .int c_t_thrown_46])), (a_n55, .inl (cyJ, 3, .inr (.inl f_n55_156))), (a_n77, .inl (cyJ, 3, .inr (.inl f_n77_123)))] := by rw [e_f_n55_156]; exact hD
          refine lv_aload hx hb dX9_multipliers_157 (lv_at hl 5 rfl) ?_
          refine lv_iload hx hb dX9_multipliers_159 (lv_at hl 7 rfl) ?_
          refine lv_lload hx hb dX9_multipliers_161 (lv_at hl 0 rfl) ?_
          obtain ⟨hq163, h⟩ := chk_h h
          refine va_last hx hb hK hP hD hS 3 0 rfl rfl hq163 dX9_multipliers_163 (fun H locs hP hD hS => ?_)
          obtain ⟨f_n77_163, e_f_n77_163⟩ : ∃ z, z = vp_updL f_n77_123 y9_123.toNatClampNeg x10_145 := ⟨_, rfl⟩
          have h := bnd_h e_f_n77_163 h
          have hP : va_P D vwCl [(a_t_forms, .inl (cyJ, 6, .inr (.inl f_t_forms_j46))), (a_t, .inr (8, [.ref a_t_forms, .ref a_t_roll, .int c_t_many, .long c_t_taps, .int c_t_cells, .int c_t_acts_j46, .int c_t_refused, .int c_t_knocks, .int c_t_thrown_46])), (a_n55, .inl (cyJ, 3, .inr (.inl f_n55_156))), (a_n77, .inl (cyJ, 3, .inr (.inl f_n77_163)))] H := by rw [e_f_n77_163]; exact hP
          have hD : va_D A [(a_t_forms, .inl (cyJ, 6, .inr (.inl f_t_forms_j46))), (a_t, .inr (8, [.ref a_t_forms, .ref a_t_roll, .int c_t_many, .long c_t_taps, .int c_t_cells, .int c_t_acts_j46, .int c_t_refused, .int c_t_knocks, .int c_t_thrown_46])), (a_n55, .inl (cyJ, 3, .inr (.inl f_n55_156))), (a_n77, .inl (cyJ, 3, .inr (.inl f_n77_163)))] := by rw [e_f_n77_163]; exact hD
          obtain ⟨x9_164, e_x9_164⟩ : ∃ z : Int32, z = y9_123 + 1 := ⟨_, rfl⟩
          have h := bnd_h e_x9_164 h
          refine lv_iinc (v := x9_164) (lv' := [(9, .int x9_164), (10, .long x10_145), (0, .ref a_t), (3, .int p2), (4, .int p3), (5, .ref a_n55), (6, .ref a_n77), (7, .long r115)]) hx hb dX9_multipliers_164 hl (k := 7) rfl (by rw [e_x9_164]; rfl) (by decide) rfl (fun ls hl => ?_)
          refine lv_goto (tgt := 123) hx hb dX9_multipliers_167 (by decide) ?_
          exact hih123 x9_164 f_n55_156 f_n77_163 h _ _ (hP.sub [0, 1, 2, 3] rfl) (hD.sub [0, 1, 2, 3] (by decide) rfl) hS ls (lv_sub hl [2, 3, 4, 5, 6, 7, 0] rfl)
    · have h := if_ c49 h
      refine lv_iconst (v := 0) hx hb dX9_multipliers_52 (by decide) ?_
      obtain ⟨e0, e1, e2, e3⟩ := tup4 h
      subst e0
      subst e1
      subst e2
      subst e3
      have hP9 : va_P D vwCl [(a_t, .inr (8, [.ref a_t_forms, .ref a_t_roll, .int c_t_many, .long c_t_taps, .int c_t_cells, .int c_t_acts_j46, .int c_t_refused, .int c_t_knocks, .int c_t_thrown_46])), (a_t_forms, .inl (cyJ, 6, .inr (.inl f_t_forms_j46)))] H := hP.sub [1, 0] rfl
      have hD9 : va_D A [(a_t, .inr (8, [.ref a_t_forms, .ref a_t_roll, .int c_t_many, .long c_t_taps, .int c_t_cells, .int c_t_acts_j46, .int c_t_refused, .int c_t_knocks, .int c_t_thrown_46])), (a_t_forms, .inl (cyJ, 6, .inr (.inl f_t_forms_j46)))] := hD.sub [1, 0] (by decide) rfl
      refine W.widen (k := 2) (n := 6) (Nat.le_of_ble_eq_true rfl) (Nat.le_of_ble_eq_true rfl) ?_
      exact W.iret hx hb hr (fun t ht hW => ⟨⟨_, (), rfl, rfl, wQA_of ht hP9 hD9⟩, hS.F ht⟩) hS.2.2 dX9_multipliers_53
  have hj35 : ∀ (js1_35 : Int32) (c_t_acts_j35 : Int32) (c_t_thrown_j35 : Int32) (f_t_forms_j35 : Nat → Int64), J_X9_multipliers_35 p0 p1 p2 p3 js1_35 c_t_acts_j35 c_t_thrown_j35 f_t_forms_j35 = some (r0, o_c_t_acts, o_c_t_thrown, o_f_t_forms) → ∀ (H : Heap) (locs : List Loc), va_P D vwCl [(a_t, .inr (8, [.ref a_t_forms, .ref a_t_roll, .int c_t_many, .long c_t_taps, .int c_t_cells, .int c_t_acts_j35, .int c_t_refused, .int c_t_knocks, .int c_t_thrown_j35])), (a_t_forms, .inl (cyJ, 6, .inr (.inl f_t_forms_j35)))] H → va_D A [(a_t, .inr (8, [.ref a_t_forms, .ref a_t_roll, .int c_t_many, .long c_t_taps, .int c_t_cells, .int c_t_acts_j35, .int c_t_refused, .int c_t_knocks, .int c_t_thrown_j35])), (a_t_forms, .inl (cyJ, 6, .inr (.inl f_t_forms_j35)))] → va_S A s.heap H locs → ∀ (ls : Array Slot), lv_has ls 12 [(0, .ref a_t), (1, .int p0), (2, .int p1), (3, .int p2), (4, .int p3)] → W p l e rmX9_multipliers s m ([.ref a_t, .int p0, .int p1, .int p2, .int p3] : List Value).toArray below meth c H locs 0 0 (MQ below (va_Qi (fun (r : Int32) (_ : Unit) => r = r0) (fun _ t => wQA D [(a_t, .inr (8, [.ref a_t_forms, .ref a_t_roll, .int c_t_many, .long c_t_taps, .int c_t_cells, .int o_c_t_acts, .int c_t_refused, .int c_t_knocks, .int o_c_t_thrown])), (a_t_forms, .inl (cyJ, 6, .inr (.inl o_f_t_forms)))] A t) A) ([.ref a_t, .int p0, .int p1, .int p2, .int p3] : List Value).toArray s 2 6 A) (F0 m 35 ls [.int js1_35, .ref a_t]) := by
    intro js1_35 c_t_acts_j35 c_t_thrown_j35 f_t_forms_j35 h H locs hP hD hS ls hl
    unfold J_X9_multipliers_35 at h
    refine lv_iload_n hx hb dX9_multipliers_35 rfl (lv_at hl 3 rfl) ?_
    refine lv_iload hx hb dX9_multipliers_36 (lv_at hl 4 rfl) ?_
    refine lv_icmp_ne (tgt := 45) hx hb dX9_multipliers_38 (by decide) (fun c38 => ?_) (fun c38 => ?_)
    · have h := if_ c38 h
      refine lv_iconst (v := 0) hx hb dX9_multipliers_45 (by decide) ?_
      exact hj46 js1_35 (0 : Int32) c_t_acts_j35 c_t_thrown_j35 f_t_forms_j35 h _ _ (hP.sub [0, 1] rfl) (hD.sub [0, 1] (by decide) rfl) hS ls (lv_sub hl [0, 1, 2, 3, 4] rfl)
    · have h := it_ c38 h
      refine lv_iconst (v := 1) hx hb dX9_multipliers_41 (by decide) ?_
      refine lv_goto (tgt := 46) hx hb dX9_multipliers_42 (by decide) ?_
      exact hj46 js1_35 (1 : Int32) c_t_acts_j35 c_t_thrown_j35 f_t_forms_j35 h _ _ (hP.sub [0, 1] rfl) (hD.sub [0, 1] (by decide) rfl) hS ls (lv_sub hl [0, 1, 2, 3, 4] rfl)
  have hj30 : ∀ (c_t_acts_j30 : Int32) (c_t_thrown_j30 : Int32) (f_t_forms_j30 : Nat → Int64), J_X9_multipliers_30 p0 p1 p2 p3 c_t_acts_j30 c_t_thrown_j30 f_t_forms_j30 = some (r0, o_c_t_acts, o_c_t_thrown, o_f_t_forms) → ∀ (H : Heap) (locs : List Loc), va_P D vwCl [(a_t, .inr (8, [.ref a_t_forms, .ref a_t_roll, .int c_t_many, .long c_t_taps, .int c_t_cells, .int c_t_acts_j30, .int c_t_refused, .int c_t_knocks, .int c_t_thrown_j30])), (a_t_forms, .inl (cyJ, 6, .inr (.inl f_t_forms_j30)))] H → va_D A [(a_t, .inr (8, [.ref a_t_forms, .ref a_t_roll, .int c_t_many, .long c_t_taps, .int c_t_cells, .int c_t_acts_j30, .int c_t_refused, .int c_t_knocks, .int c_t_thrown_j30])), (a_t_forms, .inl (cyJ, 6, .inr (.inl f_t_forms_j30)))] → va_S A s.heap H locs → ∀ (ls : Array Slot), lv_has ls 12 [(0, .ref a_t), (1, .int p0), (2, .int p1), (3, .int p2), (4, .int p3)] → W p l e rmX9_multipliers s m ([.ref a_t, .int p0, .int p1, .int p2, .int p3] : List Value).toArray below meth c H locs 0 0 (MQ below (va_Qi (fun (r : Int32) (_ : Unit) => r = r0) (fun _ t => wQA D [(a_t, .inr (8, [.ref a_t_forms, .ref a_t_roll, .int c_t_many, .long c_t_taps, .int c_t_cells, .int o_c_t_acts, .int c_t_refused, .int c_t_knocks, .int o_c_t_thrown])), (a_t_forms, .inl (cyJ, 6, .inr (.inl o_f_t_forms)))] A t) A) ([.ref a_t, .int p0, .int p1, .int p2, .int p3] : List Value).toArray s 2 6 A) (F0 m 30 ls [.ref a_t]) := by
    intro c_t_acts_j30 c_t_thrown_j30 f_t_forms_j30 h H locs hP hD hS ls hl
    unfold J_X9_multipliers_30 at h
    refine lv_iconst (v := 1) hx hb dX9_multipliers_30 (by decide) ?_
    refine lv_goto (tgt := 35) hx hb dX9_multipliers_31 (by decide) ?_
    exact hj35 (1 : Int32) c_t_acts_j30 c_t_thrown_j30 f_t_forms_j30 h _ _ (hP.sub [0, 1] rfl) (hD.sub [0, 1] (by decide) rfl) hS ls (lv_sub hl [0, 1, 2, 3, 4] rfl)
  refine lv_aload_n hx hb dX9_multipliers_0 rfl (lv_at hl 0 rfl) ?_
  refine lv_iload_n hx hb dX9_multipliers_1 rfl (lv_at hl 1 rfl) ?_
  obtain ⟨r2, hc2, h⟩ := obn_h h
  refine pz_callS (As := [.int p0]) (rest := [.ref a_t]) hcf (c_X9_isForm l p0 r2 hc2) (va_cwS 1 hts gX9_multipliers_X9_isForm rfl rfl rfl ydX9_isForm ⟨Nat.le_of_ble_eq_true rfl, Nat.le_of_ble_eq_true rfl⟩) hnw rfl hl.1 rfl (Nat.le_of_ble_eq_true rfl) dX9_multipliers_2 ⟨Nat.le_of_ble_eq_true rfl, Nat.le_of_ble_eq_true rfl⟩ ?_
  refine lv_if_eq (tgt := 30) hx hb dX9_multipliers_5 (by decide) (fun c5 => ?_) (fun c5 => ?_)
  · have h := it_ c5 h
    exact hj30 c_t_acts c_t_thrown f_t_forms h _ _ (hP.sub [0, 1] rfl) (hD.sub [0, 1] (by decide) rfl) hS ls (lv_sub hl [0, 1, 2, 3, 4] rfl)
  · have h := if_ c5 h
    refine lv_iload_n hx hb dX9_multipliers_8 rfl (lv_at hl 2 rfl) ?_
    obtain ⟨r9, hc9, h⟩ := obn_h h
    refine pz_callS (As := [.int p1]) (rest := [.ref a_t]) hcf (c_X9_isForm l p1 r9 hc9) (va_cwS 1 hts gX9_multipliers_X9_isForm rfl rfl rfl ydX9_isForm ⟨Nat.le_of_ble_eq_true rfl, Nat.le_of_ble_eq_true rfl⟩) hnw rfl hl.1 rfl (Nat.le_of_ble_eq_true rfl) dX9_multipliers_9 ⟨Nat.le_of_ble_eq_true rfl, Nat.le_of_ble_eq_true rfl⟩ ?_
    refine lv_if_eq (tgt := 30) hx hb dX9_multipliers_12 (by decide) (fun c12 => ?_) (fun c12 => ?_)
    · have h := it_ c12 h
      exact hj30 c_t_acts c_t_thrown f_t_forms h _ _ (hP.sub [0, 1] rfl) (hD.sub [0, 1] (by decide) rfl) hS ls (lv_sub hl [0, 1, 2, 3, 4] rfl)
    · have h := if_ c12 h
      refine lv_iload_n hx hb dX9_multipliers_15 rfl (lv_at hl 3 rfl) ?_
      obtain ⟨r16, hc16, h⟩ := obn_h h
      refine pz_callS (As := [.int p2]) (rest := [.ref a_t]) hcf (c_X9_isForm l p2 r16 hc16) (va_cwS 1 hts gX9_multipliers_X9_isForm rfl rfl rfl ydX9_isForm ⟨Nat.le_of_ble_eq_true rfl, Nat.le_of_ble_eq_true rfl⟩) hnw rfl hl.1 rfl (Nat.le_of_ble_eq_true rfl) dX9_multipliers_16 ⟨Nat.le_of_ble_eq_true rfl, Nat.le_of_ble_eq_true rfl⟩ ?_
      refine lv_if_eq (tgt := 30) hx hb dX9_multipliers_19 (by decide) (fun c19 => ?_) (fun c19 => ?_)
      · have h := it_ c19 h
        exact hj30 c_t_acts c_t_thrown f_t_forms h _ _ (hP.sub [0, 1] rfl) (hD.sub [0, 1] (by decide) rfl) hS ls (lv_sub hl [0, 1, 2, 3, 4] rfl)
      · have h := if_ c19 h
        refine lv_iload hx hb dX9_multipliers_22 (lv_at hl 4 rfl) ?_
        obtain ⟨r24, hc24, h⟩ := obn_h h
        refine pz_callS (As := [.int p3]) (rest := [.ref a_t]) hcf (c_X9_isForm l p3 r24 hc24) (va_cwS 1 hts gX9_multipliers_X9_isForm rfl rfl rfl ydX9_isForm ⟨Nat.le_of_ble_eq_true rfl, Nat.le_of_ble_eq_true rfl⟩) hnw rfl hl.1 rfl (Nat.le_of_ble_eq_true rfl) dX9_multipliers_24 ⟨Nat.le_of_ble_eq_true rfl, Nat.le_of_ble_eq_true rfl⟩ ?_
        refine lv_if_ne (tgt := 34) hx hb dX9_multipliers_27 (by decide) (fun c27 => ?_) (fun c27 => ?_)
        · have h := if_ c27 h
          refine lv_iconst (v := 0) hx hb dX9_multipliers_34 (by decide) ?_
          exact hj35 (0 : Int32) c_t_acts c_t_thrown f_t_forms h _ _ (hP.sub [0, 1] rfl) (hD.sub [0, 1] (by decide) rfl) hS ls (lv_sub hl [0, 1, 2, 3, 4] rfl)
        · have h := it_ c27 h
          exact hj30 c_t_acts c_t_thrown f_t_forms h _ _ (hP.sub [0, 1] rfl) (hD.sub [0, 1] (by decide) rfl) hS ls (lv_sub hl [0, 1, 2, 3, 4] rfl)

noncomputable abbrev rmX9_power : Room := { frames := 6, cells := 0, slots := 0, locals := 145 }
theorem ydX9_power : yX9_power.cls = RX9 ∧ yX9_power.cls ≠ "java/lang/invoke/MethodHandle" ∧ yX9_power.cls ≠ "java/lang/invoke/VarHandle" ∧ (parseMethodDescriptor yX9_power.desc).map (fun d => d.parameters.length) = some 4 := by decide +kernel
noncomputable def J_X9_power_44 (jl1_44 : Int32) (jl2_44 : Int32) (jl3_44 : Int32) (jl4_44 : Int32) (js1_44 : Int32) (js2_44 : Int32) (c_t_acts_j44 : Int32) (c_t_refused_j44 : Int32) (c_t_thrown_j44 : Int32) (f_t_forms_j44 : Nat → Int64) : Option (Int32 × Int32 × Int32 × Int32 × (Nat → Int64)) :=
 obn2 (F_X9_isThrown js1_44 js2_44) (fun r44 c_t_thrown_44 =>
 (if r44 = 0 then
 chk (¬ (jl3_44 < 0 ∨ 6 ≤ jl3_44.toNatClampNeg)) (
 (if (f_t_forms_j44 jl3_44.toNatClampNeg) = (0 : Int64) then
 obn2 (F_X9_no c_t_refused_j44) (fun r78 c_t_refused_78 =>
 some (r78, c_t_acts_j44, c_t_refused_78, c_t_thrown_44, f_t_forms_j44))
else
 chk (¬ (jl3_44 < 0 ∨ 6 ≤ jl3_44.toNatClampNeg)) (
 obn (F_X9_degreeOf (f_t_forms_j44 jl3_44.toNatClampNeg)) (fun r69 =>
 (if r69 ≤ (20 : Int32) then
 chk (¬ (jl1_44 < 0 ∨ 6 ≤ jl1_44.toNatClampNeg)) (
 chk (¬ (jl3_44 < 0 ∨ 6 ≤ jl3_44.toNatClampNeg)) (
 obn (F_X9_powerOf (f_t_forms_j44 jl1_44.toNatClampNeg) jl2_44 (f_t_forms_j44 jl3_44.toNatClampNeg)) (fun r100 =>
 obn3 (F_X9_give c_t_acts_j44 f_t_forms_j44 jl4_44 r100) (fun r103 c_t_acts_103 f_t_forms_103 =>
 some (r103, c_t_acts_103, c_t_refused_j44, c_t_thrown_44, f_t_forms_103)))))
else
 obn2 (F_X9_no c_t_refused_j44) (fun r78 c_t_refused_78 =>
 some (r78, c_t_acts_j44, c_t_refused_78, c_t_thrown_44, f_t_forms_j44)))))))
else
 some ((0 : Int32), c_t_acts_j44, c_t_refused_j44, c_t_thrown_44, f_t_forms_j44)))
noncomputable def J_X9_power_39 (jl1_39 : Int32) (jl2_39 : Int32) (jl3_39 : Int32) (jl4_39 : Int32) (js1_39 : Int32) (c_t_acts_j39 : Int32) (c_t_refused_j39 : Int32) (c_t_thrown_j39 : Int32) (f_t_forms_j39 : Nat → Int64) : Option (Int32 × Int32 × Int32 × Int32 × (Nat → Int64)) :=
 J_X9_power_44 jl1_39 jl2_39 jl3_39 jl4_39 js1_39 (1 : Int32) c_t_acts_j39 c_t_refused_j39 c_t_thrown_j39 f_t_forms_j39
noncomputable def J_X9_power_28 (jl1_28 : Int32) (jl2_28 : Int32) (jl3_28 : Int32) (jl4_28 : Int32) (js1_28 : Int32) (c_t_acts_j28 : Int32) (c_t_refused_j28 : Int32) (c_t_thrown_j28 : Int32) (f_t_forms_j28 : Nat → Int64) : Option (Int32 × Int32 × Int32 × Int32 × (Nat → Int64)) :=
 (if jl2_28 < 0 then
 J_X9_power_39 jl1_28 jl2_28 jl3_28 jl4_28 js1_28 c_t_acts_j28 c_t_refused_j28 c_t_thrown_j28 f_t_forms_j28
else
 (if jl2_28 ≤ (255 : Int32) then
 J_X9_power_44 jl1_28 jl2_28 jl3_28 jl4_28 js1_28 (0 : Int32) c_t_acts_j28 c_t_refused_j28 c_t_thrown_j28 f_t_forms_j28
else
 J_X9_power_39 jl1_28 jl2_28 jl3_28 jl4_28 js1_28 c_t_acts_j28 c_t_refused_j28 c_t_thrown_j28 f_t_forms_j28))
noncomputable def J_X9_power_23 (jl1_23 : Int32) (jl2_23 : Int32) (jl3_23 : Int32) (jl4_23 : Int32) (c_t_acts_j23 : Int32) (c_t_refused_j23 : Int32) (c_t_thrown_j23 : Int32) (f_t_forms_j23 : Nat → Int64) : Option (Int32 × Int32 × Int32 × Int32 × (Nat → Int64)) :=
 J_X9_power_28 jl1_23 jl2_23 jl3_23 jl4_23 (1 : Int32) c_t_acts_j23 c_t_refused_j23 c_t_thrown_j23 f_t_forms_j23
noncomputable def F_X9_power (c_t_acts : Int32) (c_t_refused : Int32) (c_t_thrown : Int32) (f_t_forms : Nat → Int64) (p0 : Int32) (p1 : Int32) (p2 : Int32) (p3 : Int32) : Option (Int32 × Int32 × Int32 × Int32 × (Nat → Int64)) :=
 obn (F_X9_isForm p0) (fun r2 =>
 (if r2 = 0 then
 J_X9_power_23 p0 p1 p2 p3 c_t_acts c_t_refused c_t_thrown f_t_forms
else
 obn (F_X9_isForm p2) (fun r9 =>
 (if r9 = 0 then
 J_X9_power_23 p0 p1 p2 p3 c_t_acts c_t_refused c_t_thrown f_t_forms
else
 obn (F_X9_isForm p3) (fun r17 =>
 (if r17 = 0 then
 J_X9_power_23 p0 p1 p2 p3 c_t_acts c_t_refused c_t_thrown f_t_forms
else
 J_X9_power_28 p0 p1 p2 p3 (0 : Int32) c_t_acts c_t_refused c_t_thrown f_t_forms))))))
set_option maxHeartbeats 4000000 in
set_option maxRecDepth 100000 in
theorem c_X9_power (l : Launch) (D : va_G) (cyJ : ClassId) (sz : Nat) (a_t : Nat) (a_t_forms : Nat) (a_t_roll : Nat) (c_t_many : Int32) (c_t_taps : Int64) (c_t_cells : Int32) (c_t_acts : Int32) (c_t_refused : Int32) (c_t_knocks : Int32) (c_t_thrown : Int32) (f_t_forms : Nat → Int64) (p0 : Int32) (p1 : Int32) (p2 : Int32) (p3 : Int32) (r0 : Int32) (o_c_t_acts : Int32) (o_c_t_refused : Int32) (o_c_t_thrown : Int32) (o_f_t_forms : Nat → Int64) (hF : F_X9_power c_t_acts c_t_refused c_t_thrown f_t_forms p0 p1 p2 p3 = some (r0, o_c_t_acts, o_c_t_refused, o_c_t_thrown, o_f_t_forms)) : Met l yX9_power wsX9_power rmX9_power (va_Pc [.ref a_t, .int p0, .int p1, .int p2, .int p3] (wPD D [(cyJ, .long)] [(a_t, .inr (8, [.ref a_t_forms, .ref a_t_roll, .int c_t_many, .long c_t_taps, .int c_t_cells, .int c_t_acts, .int c_t_refused, .int c_t_knocks, .int c_t_thrown])), (a_t_forms, .inl (cyJ, 6, .inr (.inl f_t_forms)))] sz)) (va_Qi (fun (r : Int32) (_ : Unit) => r = r0) (fun _ t => wQA D [(a_t, .inr (8, [.ref a_t_forms, .ref a_t_roll, .int c_t_many, .long c_t_taps, .int c_t_cells, .int o_c_t_acts, .int o_c_t_refused, .int c_t_knocks, .int o_c_t_thrown])), (a_t_forms, .inl (cyJ, 6, .inr (.inl o_f_t_forms)))] (va_A [(a_t, .inr (8, [.ref a_t_forms, .ref a_t_roll, .int c_t_many, .long c_t_taps, .int c_t_cells, .int c_t_acts, .int c_t_refused, .int c_t_knocks, .int c_t_thrown])), (a_t_forms, .inl (cyJ, 6, .inr (.inl f_t_forms)))] sz) t) (va_A [(a_t, .inr (8, [.ref a_t_forms, .ref a_t_roll, .int c_t_many, .long c_t_taps, .int c_t_cells, .int c_t_acts, .int c_t_refused, .int c_t_knocks, .int c_t_thrown])), (a_t_forms, .inl (cyJ, 6, .inr (.inl f_t_forms)))] sz)) 0 0 (va_A [(a_t, .inr (8, [.ref a_t_forms, .ref a_t_roll, .int c_t_many, .long c_t_taps, .int c_t_cells, .int c_t_acts, .int c_t_refused, .int c_t_knocks, .int c_t_thrown])), (a_t_forms, .inl (cyJ, 6, .inr (.inl f_t_forms)))] sz) := by
  refine Met.ofW (cc := cX9_power) (maxL := 5) (ret := (some .int)) (by decide) rfl ?_
  intro p e s m args below meth c s₁ B hml hv
  obtain ⟨rfl, hsz, hP, hK, hD0, hnw⟩ := hv
  have hx := B.exec
  have hb := B.bytes
  have hr := B.returns
  have hts := atoms_spec (ws := wsX9_power) B.pre
  have hown : s.vm.findClass RX9 = some m.cls := findClass_of_methodNamed B.named
  have hlocks := B.notSynchronized
  have hcf : CallFix _ _ _ _ _ _ _ _ _ := ⟨hx, hb, hml, hown, hts⟩
  have hinX9 : ∀ w ∈ u_ws RX9 TX9 9, w ∈ wsX9_power := by decide +kernel
  have hfl9 := hts (.fieldLink RX9 9 "FormwheelModel" "forms" "[J") (by decide +kernel)
  subst hsz
  have hD := hD0.self (sz := s.heap.size)
  generalize hAe : va_A [(a_t, .inr (8, [.ref a_t_forms, .ref a_t_roll, .int c_t_many, .long c_t_taps, .int c_t_cells, .int c_t_acts, .int c_t_refused, .int c_t_knocks, .int c_t_thrown])), (a_t_forms, .inl (cyJ, 6, .inr (.inl f_t_forms)))] s.heap.size = A at hD ⊢
  have hA : ∀ q : Nat, s.heap.size ≤ q → A q := fun q h => by rw [← hAe]; exact Or.inr h
  have hS : va_S A s.heap s.heap [] := va_S.rf
  have hP : va_P D vwCl [(a_t, .inr (8, [.ref a_t_forms, .ref a_t_roll, .int c_t_many, .long c_t_taps, .int c_t_cells, .int c_t_acts, .int c_t_refused, .int c_t_knocks, .int c_t_thrown])), (a_t_forms, .inl (cyJ, 6, .inr (.inl f_t_forms)))] s.heap := hP
  have hK0 := hK
  have hl := lv_entry ([.ref a_t, .int p0, .int p1, .int p2, .int p3]) (n := 5) (Nat.le_of_ble_eq_true rfl)
  rw [lg_entry_eq]
  generalize (lg_sl ([.ref a_t, .int p0, .int p1, .int p2, .int p3]) ++ List.replicate (5 - (lg_sl ([.ref a_t, .int p0, .int p1, .int p2, .int p3])).length) Slot.unset).toArray = ls at hl ⊢
  have hl : lv_has ls 5 [(0, .ref a_t), (1, .int p0), (2, .int p1), (3, .int p2), (4, .int p3)] := hl
  have h := hF
  clear hF
  unfold F_X9_power at h
  have hj44 : ∀ (js1_44 : Int32) (js2_44 : Int32) (c_t_acts_j44 : Int32) (c_t_refused_j44 : Int32) (c_t_thrown_j44 : Int32) (f_t_forms_j44 : Nat → Int64), J_X9_power_44 p0 p1 p2 p3 js1_44 js2_44 c_t_acts_j44 c_t_refused_j44 c_t_thrown_j44 f_t_forms_j44 = some (r0, o_c_t_acts, o_c_t_refused, o_c_t_thrown, o_f_t_forms) → ∀ (H : Heap) (locs : List Loc), va_P D vwCl [(a_t, .inr (8, [.ref a_t_forms, .ref a_t_roll, .int c_t_many, .long c_t_taps, .int c_t_cells, .int c_t_acts_j44, .int c_t_refused_j44, .int c_t_knocks, .int c_t_thrown_j44])), (a_t_forms, .inl (cyJ, 6, .inr (.inl f_t_forms_j44)))] H → va_D A [(a_t, .inr (8, [.ref a_t_forms, .ref a_t_roll, .int c_t_many, .long c_t_taps, .int c_t_cells, .int c_t_acts_j44, .int c_t_refused_j44, .int c_t_knocks, .int c_t_thrown_j44])), (a_t_forms, .inl (cyJ, 6, .inr (.inl f_t_forms_j44)))] → va_S A s.heap H locs → ∀ (ls : Array Slot), lv_has ls 5 [(0, .ref a_t), (1, .int p0), (2, .int p1), (3, .int p2), (4, .int p3)] → W p l e rmX9_power s m ([.ref a_t, .int p0, .int p1, .int p2, .int p3] : List Value).toArray below meth c H locs 0 0 (MQ below (va_Qi (fun (r : Int32) (_ : Unit) => r = r0) (fun _ t => wQA D [(a_t, .inr (8, [.ref a_t_forms, .ref a_t_roll, .int c_t_many, .long c_t_taps, .int c_t_cells, .int o_c_t_acts, .int o_c_t_refused, .int c_t_knocks, .int o_c_t_thrown])), (a_t_forms, .inl (cyJ, 6, .inr (.inl o_f_t_forms)))] A t) A) ([.ref a_t, .int p0, .int p1, .int p2, .int p3] : List Value).toArray s 0 0 A) (F0 m 44 ls [.int js2_44, .int js1_44, .ref a_t]) := by
    intro js1_44 js2_44 c_t_acts_j44 c_t_refused_j44 c_t_thrown_j44 f_t_forms_j44 h H locs hP hD hS ls hl
    unfold J_X9_power_44 at h
    obtain ⟨r44, c_t_thrown_44, hc44, h⟩ := obn2_h h
    have hPc := hP.sub (ws' := [(a_t, .inr (8, [.ref a_t_forms, .ref a_t_roll, .int c_t_many, .long c_t_taps, .int c_t_cells, .int c_t_acts_j44, .int c_t_refused_j44, .int c_t_knocks, .int c_t_thrown_j44]))]) [0] rfl
    have hDc := hD.sub (ws' := [(a_t, .inr (8, [.ref a_t_forms, .ref a_t_roll, .int c_t_many, .long c_t_taps, .int c_t_cells, .int c_t_acts_j44, .int c_t_refused_j44, .int c_t_knocks, .int c_t_thrown_j44]))]) [0] (by decide) rfl
    refine hp_i (w1 := [(a_t, .inr (8, [.ref a_t_forms, .ref a_t_roll, .int c_t_many, .long c_t_taps, .int c_t_cells, .int c_t_acts_j44, .int c_t_refused_j44, .int c_t_knocks, .int c_t_thrown_44]))]) (wr := [(a_t_forms, .inl (cyJ, 6, .inr (.inl f_t_forms_j44)))]) (va_runV (As := [.int js1_44, .int js2_44]) (rest := []) hcf (c_X9_isThrown l D cyJ H.size a_t a_t_forms a_t_roll c_t_many c_t_taps c_t_cells c_t_acts_j44 c_t_refused_j44 c_t_knocks c_t_thrown_j44 js1_44 js2_44 r44 c_t_thrown_44 hc44) (cwV 2 hts gX9_power_X9_isThrown rfl rfl rfl ydX9_isThrown ⟨Nat.le_of_ble_eq_true rfl, Nat.le_of_ble_eq_true rfl⟩) ⟨bl_PD, va_recv hK hP (ci := 8) (q0 := 0) rfl rfl, pr_PD hPc hK0 hDc hnw⟩ rfl rfl hl.1 rfl (lv_room (Nat.le_of_ble_eq_true rfl)) dX9_power_44 ⟨Nat.le_of_ble_eq_true rfl, Nat.le_of_ble_eq_true rfl⟩) hP hD hS hA [0] [1] rfl rfl (by decide) (by decide) (fun H locs hP hD hS => ?_)
    have hP : va_P D vwCl [(a_t_forms, .inl (cyJ, 6, .inr (.inl f_t_forms_j44))), (a_t, .inr (8, [.ref a_t_forms, .ref a_t_roll, .int c_t_many, .long c_t_taps, .int c_t_cells, .int c_t_acts_j44, .int c_t_refused_j44, .int c_t_knocks, .int c_t_thrown_44]))] H := hP
    have hD : va_D A [(a_t_forms, .inl (cyJ, 6, .inr (.inl f_t_forms_j44))), (a_t, .inr (8, [.ref a_t_forms, .ref a_t_roll, .int c_t_many, .long c_t_taps, .int c_t_cells, .int c_t_acts_j44, .int c_t_refused_j44, .int c_t_knocks, .int c_t_thrown_44]))] := hD
    refine lv_if_eq (tgt := 52) hx hb dX9_power_47 (by decide) (fun c47 => ?_) (fun c47 => ?_)
    · have h := it_ c47 h
      refine lv_aload_n hx hb dX9_power_52 rfl (lv_at hl 0 rfl) ?_
      refine va_get (D := D) (ci := 8) (v := .ref a_t_forms) (C := RX9) (T := TX9) (N := 9) hx hb hts hinX9 hown hK hP 1 rfl rfl 0 (by decide) hfl9 (fun _ h9 => h9) rfl dX9_power_53 ?_
      refine lv_iload_n hx hb dX9_power_56 rfl (lv_at hl 3 rfl) ?_
      obtain ⟨hq57, h⟩ := chk_h h
      refine va_lald hx hb hK hP 0 0 rfl rfl hq57 dX9_power_57 ?_
      refine lv_lconst (v := 0) hx hb dX9_power_58 (by decide) ?_
      refine W.lcmp hx hb dX9_power_59 ?_
      refine lv_if_eq (tgt := 77) hx hb dX9_power_60 (by decide) (fun c60 => ?_) (fun c60 => ?_)
      · have c60 := (lg_cmp_eq _ _).mp c60
        have h := it_ c60 h
        refine lv_aload_n hx hb dX9_power_77 rfl (lv_at hl 0 rfl) ?_
        obtain ⟨r78, c_t_refused_78, hc78, h⟩ := obn2_h h
        have hPc := hP.sub (ws' := [(a_t, .inr (8, [.ref a_t_forms, .ref a_t_roll, .int c_t_many, .long c_t_taps, .int c_t_cells, .int c_t_acts_j44, .int c_t_refused_j44, .int c_t_knocks, .int c_t_thrown_44]))]) [1] rfl
        have hDc := hD.sub (ws' := [(a_t, .inr (8, [.ref a_t_forms, .ref a_t_roll, .int c_t_many, .long c_t_taps, .int c_t_cells, .int c_t_acts_j44, .int c_t_refused_j44, .int c_t_knocks, .int c_t_thrown_44]))]) [1] (by decide) rfl
        refine hp_i (w1 := [(a_t, .inr (8, [.ref a_t_forms, .ref a_t_roll, .int c_t_many, .long c_t_taps, .int c_t_cells, .int c_t_acts_j44, .int c_t_refused_78, .int c_t_knocks, .int c_t_thrown_44]))]) (wr := [(a_t_forms, .inl (cyJ, 6, .inr (.inl f_t_forms_j44)))]) (va_runV (As := []) (rest := []) hcf (c_X9_no l D cyJ H.size a_t a_t_forms a_t_roll c_t_many c_t_taps c_t_cells c_t_acts_j44 c_t_refused_j44 c_t_knocks c_t_thrown_44 r78 c_t_refused_78 hc78) (cwV 0 hts gX9_power_X9_no rfl rfl rfl ydX9_no ⟨Nat.le_of_ble_eq_true rfl, Nat.le_of_ble_eq_true rfl⟩) ⟨bl_PD, va_recv hK hP (ci := 8) (q0 := 1) rfl rfl, pr_PD hPc hK0 hDc hnw⟩ rfl rfl hl.1 rfl (lv_room (Nat.le_of_ble_eq_true rfl)) dX9_power_78 ⟨Nat.le_of_ble_eq_true rfl, Nat.le_of_ble_eq_true rfl⟩) hP hD hS hA [1] [0] rfl rfl (by decide) (by decide) (fun H locs hP hD hS => ?_)
        have hP : va_P D vwCl [(a_t_forms, .inl (cyJ, 6, .inr (.inl f_t_forms_j44))), (a_t, .inr (8, [.ref a_t_forms, .ref a_t_roll, .int c_t_many, .long c_t_taps, .int c_t_cells, .int c_t_acts_j44, .int c_t_refused_78, .int c_t_knocks, .int c_t_thrown_44]))] H := hP
        have hD : va_D A [(a_t_forms, .inl (cyJ, 6, .inr (.inl f_t_forms_j44))), (a_t, .inr (8, [.ref a_t_forms, .ref a_t_roll, .int c_t_many, .long c_t_taps, .int c_t_cells, .int c_t_acts_j44, .int c_t_refused_78, .int c_t_knocks, .int c_t_thrown_44]))] := hD
        refine lv_goto (tgt := 106) hx hb dX9_power_81 (by decide) ?_
        obtain ⟨e0, e1, e2, e3, e4⟩ := tup5 h
        subst e0
        subst e1
        subst e2
        subst e3
        subst e4
        have hP9 : va_P D vwCl [(a_t, .inr (8, [.ref a_t_forms, .ref a_t_roll, .int c_t_many, .long c_t_taps, .int c_t_cells, .int c_t_acts_j44, .int c_t_refused_78, .int c_t_knocks, .int c_t_thrown_44])), (a_t_forms, .inl (cyJ, 6, .inr (.inl f_t_forms_j44)))] H := hP.sub [1, 0] rfl
        have hD9 : va_D A [(a_t, .inr (8, [.ref a_t_forms, .ref a_t_roll, .int c_t_many, .long c_t_taps, .int c_t_cells, .int c_t_acts_j44, .int c_t_refused_78, .int c_t_knocks, .int c_t_thrown_44])), (a_t_forms, .inl (cyJ, 6, .inr (.inl f_t_forms_j44)))] := hD.sub [1, 0] (by decide) rfl
        exact W.iret hx hb hr (fun t ht hW => ⟨⟨_, (), rfl, rfl, wQA_of ht hP9 hD9⟩, hS.F ht⟩) hS.2.2 dX9_power_106
      · have c60 := fun z => c60 ((lg_cmp_eq _ _).mpr z)
        have h := if_ c60 h
        refine lv_aload_n hx hb dX9_power_63 rfl (lv_at hl 0 rfl) ?_
        refine va_get (D := D) (ci := 8) (v := .ref a_t_forms) (C := RX9) (T := TX9) (N := 9) hx hb hts hinX9 hown hK hP 1 rfl rfl 0 (by decide) hfl9 (fun _ h9 => h9) rfl dX9_power_64 ?_
        refine lv_iload_n hx hb dX9_power_67 rfl (lv_at hl 3 rfl) ?_
        obtain ⟨hq68, h⟩ := chk_h h
        refine va_lald hx hb hK hP 0 0 rfl rfl hq68 dX9_power_68 ?_
        obtain ⟨r69, hc69, h⟩ := obn_h h
        refine pz_callS (As := [.long (f_t_forms_j44 p2.toNatClampNeg)]) (rest := []) hcf (c_X9_degreeOf l (f_t_forms_j44 p2.toNatClampNeg) r69 hc69) (va_cwS 1 hts gX9_power_X9_degreeOf rfl rfl rfl ydX9_degreeOf ⟨Nat.le_of_ble_eq_true rfl, Nat.le_of_ble_eq_true rfl⟩) hnw rfl hl.1 rfl (Nat.le_of_ble_eq_true rfl) dX9_power_69 ⟨Nat.le_of_ble_eq_true rfl, Nat.le_of_ble_eq_true rfl⟩ ?_
        refine lv_bipush (v := 20) hx hb dX9_power_72 (by decide) ?_
        refine lv_icmp_le (tgt := 84) hx hb dX9_power_74 (by decide) (fun c74 => ?_) (fun c74 => ?_)
        · have h := it_ c74 h
          refine lv_aload_n hx hb dX9_power_84 rfl (lv_at hl 0 rfl) ?_
          refine lv_iload hx hb dX9_power_85 (lv_at hl 4 rfl) ?_
          refine lv_aload_n hx hb dX9_power_87 rfl (lv_at hl 0 rfl) ?_
          refine va_get (D := D) (ci := 8) (v := .ref a_t_forms) (C := RX9) (T := TX9) (N := 9) hx hb hts hinX9 hown hK hP 1 rfl rfl 0 (by decide) hfl9 (fun _ h9 => h9) rfl dX9_power_88 ?_
          refine lv_iload_n hx hb dX9_power_91 rfl (lv_at hl 1 rfl) ?_
          obtain ⟨hq92, h⟩ := chk_h h
          refine va_lald hx hb hK hP 0 0 rfl rfl hq92 dX9_power_92 ?_
          refine lv_iload_n hx hb dX9_power_93 rfl (lv_at hl 2 rfl) ?_
          refine lv_aload_n hx hb dX9_power_94 rfl (lv_at hl 0 rfl) ?_
          refine va_get (D := D) (ci := 8) (v := .ref a_t_forms) (C := RX9) (T := TX9) (N := 9) hx hb hts hinX9 hown hK hP 1 rfl rfl 0 (by decide) hfl9 (fun _ h9 => h9) rfl dX9_power_95 ?_
          refine lv_iload_n hx hb dX9_power_98 rfl (lv_at hl 3 rfl) ?_
          obtain ⟨hq99, h⟩ := chk_h h
          refine va_lald hx hb hK hP 0 0 rfl rfl hq99 dX9_power_99 ?_
          obtain ⟨r100, hc100, h⟩ := obn_h h
          refine pz_callS (As := [.long (f_t_forms_j44 p0.toNatClampNeg), .int p1, .long (f_t_forms_j44 p2.toNatClampNeg)]) (rest := [.int p3, .ref a_t]) hcf (c_X9_powerOf l (f_t_forms_j44 p0.toNatClampNeg) p1 (f_t_forms_j44 p2.toNatClampNeg) r100 hc100) (va_cwS 3 hts gX9_power_X9_powerOf rfl rfl rfl ydX9_powerOf ⟨Nat.le_of_ble_eq_true rfl, Nat.le_of_ble_eq_true rfl⟩) hnw rfl hl.1 rfl (Nat.le_of_ble_eq_true rfl) dX9_power_100 ⟨Nat.le_of_ble_eq_true rfl, Nat.le_of_ble_eq_true rfl⟩ ?_
          obtain ⟨r103, c_t_acts_103, f_t_forms_103, hc103, h⟩ := obn3_h h
          have hPc := hP.sub (ws' := [(a_t, .inr (8, [.ref a_t_forms, .ref a_t_roll, .int c_t_many, .long c_t_taps, .int c_t_cells, .int c_t_acts_j44, .int c_t_refused_j44, .int c_t_knocks, .int c_t_thrown_44])), (a_t_forms, .inl (cyJ, 6, .inr (.inl f_t_forms_j44)))]) [1, 0] rfl
          have hDc := hD.sub (ws' := [(a_t, .inr (8, [.ref a_t_forms, .ref a_t_roll, .int c_t_many, .long c_t_taps, .int c_t_cells, .int c_t_acts_j44, .int c_t_refused_j44, .int c_t_knocks, .int c_t_thrown_44])), (a_t_forms, .inl (cyJ, 6, .inr (.inl f_t_forms_j44)))]) [1, 0] (by decide) rfl
          refine hp_i (w1 := [(a_t, .inr (8, [.ref a_t_forms, .ref a_t_roll, .int c_t_many, .long c_t_taps, .int c_t_cells, .int c_t_acts_103, .int c_t_refused_j44, .int c_t_knocks, .int c_t_thrown_44])), (a_t_forms, .inl (cyJ, 6, .inr (.inl f_t_forms_103)))]) (wr := []) (va_runV (As := [.int p3, .long r100]) (rest := []) hcf (c_X9_give l D cyJ H.size a_t a_t_forms a_t_roll c_t_many c_t_taps c_t_cells c_t_acts_j44 c_t_refused_j44 c_t_knocks c_t_thrown_44 f_t_forms_j44 p3 r100 r103 c_t_acts_103 f_t_forms_103 hc103) (cwV 2 hts gX9_power_X9_give rfl rfl rfl ydX9_give ⟨Nat.le_of_ble_eq_true rfl, Nat.le_of_ble_eq_true rfl⟩) ⟨bl_PD, va_recv hK hP (ci := 8) (q0 := 1) rfl rfl, pr_PD hPc hK0 hDc hnw⟩ rfl rfl hl.1 rfl (lv_room (Nat.le_of_ble_eq_true rfl)) dX9_power_103 ⟨Nat.le_of_ble_eq_true rfl, Nat.le_of_ble_eq_true rfl⟩) hP hD hS hA [1, 0] [] rfl rfl (by decide) (by decide) (fun H locs hP hD hS => ?_)
          have hP : va_P D vwCl [(a_t, .inr (8, [.ref a_t_forms, .ref a_t_roll, .int c_t_many, .long c_t_taps, .int c_t_cells, .int c_t_acts_103, .int c_t_refused_j44, .int c_t_knocks, .int c_t_thrown_44])), (a_t_forms, .inl (cyJ, 6, .inr (.inl f_t_forms_103)))] H := hP
          have hD : va_D A [(a_t, .inr (8, [.ref a_t_forms, .ref a_t_roll, .int c_t_many, .long c_t_taps, .int c_t_cells, .int c_t_acts_103, .int c_t_refused_j44, .int c_t_knocks, .int c_t_thrown_44])), (a_t_forms, .inl (cyJ, 6, .inr (.inl f_t_forms_103)))] := hD
          obtain ⟨e0, e1, e2, e3, e4⟩ := tup5 h
          subst e0
          subst e1
          subst e2
          subst e3
          subst e4
          have hP9 : va_P D vwCl [(a_t, .inr (8, [.ref a_t_forms, .ref a_t_roll, .int c_t_many, .long c_t_taps, .int c_t_cells, .int c_t_acts_103, .int c_t_refused_j44, .int c_t_knocks, .int c_t_thrown_44])), (a_t_forms, .inl (cyJ, 6, .inr (.inl f_t_forms_103)))] H := hP.sub [0, 1] rfl
          have hD9 : va_D A [(a_t, .inr (8, [.ref a_t_forms, .ref a_t_roll, .int c_t_many, .long c_t_taps, .int c_t_cells, .int c_t_acts_103, .int c_t_refused_j44, .int c_t_knocks, .int c_t_thrown_44])), (a_t_forms, .inl (cyJ, 6, .inr (.inl f_t_forms_103)))] := hD.sub [0, 1] (by decide) rfl
          exact W.iret hx hb hr (fun t ht hW => ⟨⟨_, (), rfl, rfl, wQA_of ht hP9 hD9⟩, hS.F ht⟩) hS.2.2 dX9_power_106
        · have h := if_ c74 h
          refine lv_aload_n hx hb dX9_power_77 rfl (lv_at hl 0 rfl) ?_
          obtain ⟨r78, c_t_refused_78, hc78, h⟩ := obn2_h h
          have hPc := hP.sub (ws' := [(a_t, .inr (8, [.ref a_t_forms, .ref a_t_roll, .int c_t_many, .long c_t_taps, .int c_t_cells, .int c_t_acts_j44, .int c_t_refused_j44, .int c_t_knocks, .int c_t_thrown_44]))]) [1] rfl
          have hDc := hD.sub (ws' := [(a_t, .inr (8, [.ref a_t_forms, .ref a_t_roll, .int c_t_many, .long c_t_taps, .int c_t_cells, .int c_t_acts_j44, .int c_t_refused_j44, .int c_t_knocks, .int c_t_thrown_44]))]) [1] (by decide) rfl
          refine hp_i (w1 := [(a_t, .inr (8, [.ref a_t_forms, .ref a_t_roll, .int c_t_many, .long c_t_taps, .int c_t_cells, .int c_t_acts_j44, .int c_t_refused_78, .int c_t_knocks, .int c_t_thrown_44]))]) (wr := [(a_t_forms, .inl (cyJ, 6, .inr (.inl f_t_forms_j44)))]) (va_runV (As := []) (rest := []) hcf (c_X9_no l D cyJ H.size a_t a_t_forms a_t_roll c_t_many c_t_taps c_t_cells c_t_acts_j44 c_t_refused_j44 c_t_knocks c_t_thrown_44 r78 c_t_refused_78 hc78) (cwV 0 hts gX9_power_X9_no rfl rfl rfl ydX9_no ⟨Nat.le_of_ble_eq_true rfl, Nat.le_of_ble_eq_true rfl⟩) ⟨bl_PD, va_recv hK hP (ci := 8) (q0 := 1) rfl rfl, pr_PD hPc hK0 hDc hnw⟩ rfl rfl hl.1 rfl (lv_room (Nat.le_of_ble_eq_true rfl)) dX9_power_78 ⟨Nat.le_of_ble_eq_true rfl, Nat.le_of_ble_eq_true rfl⟩) hP hD hS hA [1] [0] rfl rfl (by decide) (by decide) (fun H locs hP hD hS => ?_)
          have hP : va_P D vwCl [(a_t_forms, .inl (cyJ, 6, .inr (.inl f_t_forms_j44))), (a_t, .inr (8, [.ref a_t_forms, .ref a_t_roll, .int c_t_many, .long c_t_taps, .int c_t_cells, .int c_t_acts_j44, .int c_t_refused_78, .int c_t_knocks, .int c_t_thrown_44]))] H := hP
          have hD : va_D A [(a_t_forms, .inl (cyJ, 6, .inr (.inl f_t_forms_j44))), (a_t, .inr (8, [.ref a_t_forms, .ref a_t_roll, .int c_t_many, .long c_t_taps, .int c_t_cells, .int c_t_acts_j44, .int c_t_refused_78, .int c_t_knocks, .int c_t_thrown_44]))] := hD
          refine lv_goto (tgt := 106) hx hb dX9_power_81 (by decide) ?_
          obtain ⟨e0, e1, e2, e3, e4⟩ := tup5 h
          subst e0
          subst e1
          subst e2
          subst e3
          subst e4
          have hP9 : va_P D vwCl [(a_t, .inr (8, [.ref a_t_forms, .ref a_t_roll, .int c_t_many, .long c_t_taps, .int c_t_cells, .int c_t_acts_j44, .int c_t_refused_78, .int c_t_knocks, .int c_t_thrown_44])), (a_t_forms, .inl (cyJ, 6, .inr (.inl f_t_forms_j44)))] H := hP.sub [1, 0] rfl
          have hD9 : va_D A [(a_t, .inr (8, [.ref a_t_forms, .ref a_t_roll, .int c_t_many, .long c_t_taps, .int c_t_cells, .int c_t_acts_j44, .int c_t_refused_78, .int c_t_knocks, .int c_t_thrown_44])), (a_t_forms, .inl (cyJ, 6, .inr (.inl f_t_forms_j44)))] := hD.sub [1, 0] (by decide) rfl
          exact W.iret hx hb hr (fun t ht hW => ⟨⟨_, (), rfl, rfl, wQA_of ht hP9 hD9⟩, hS.F ht⟩) hS.2.2 dX9_power_106
    · have h := if_ c47 h
      refine lv_iconst (v := 0) hx hb dX9_power_50 (by decide) ?_
      obtain ⟨e0, e1, e2, e3, e4⟩ := tup5 h
      subst e0
      subst e1
      subst e2
      subst e3
      subst e4
      have hP9 : va_P D vwCl [(a_t, .inr (8, [.ref a_t_forms, .ref a_t_roll, .int c_t_many, .long c_t_taps, .int c_t_cells, .int c_t_acts_j44, .int c_t_refused_j44, .int c_t_knocks, .int c_t_thrown_44])), (a_t_forms, .inl (cyJ, 6, .inr (.inl f_t_forms_j44)))] H := hP.sub [1, 0] rfl
      have hD9 : va_D A [(a_t, .inr (8, [.ref a_t_forms, .ref a_t_roll, .int c_t_many, .long c_t_taps, .int c_t_cells, .int c_t_acts_j44, .int c_t_refused_j44, .int c_t_knocks, .int c_t_thrown_44])), (a_t_forms, .inl (cyJ, 6, .inr (.inl f_t_forms_j44)))] := hD.sub [1, 0] (by decide) rfl
      exact W.iret hx hb hr (fun t ht hW => ⟨⟨_, (), rfl, rfl, wQA_of ht hP9 hD9⟩, hS.F ht⟩) hS.2.2 dX9_power_51
  have hj39 : ∀ (js1_39 : Int32) (c_t_acts_j39 : Int32) (c_t_refused_j39 : Int32) (c_t_thrown_j39 : Int32) (f_t_forms_j39 : Nat → Int64), J_X9_power_39 p0 p1 p2 p3 js1_39 c_t_acts_j39 c_t_refused_j39 c_t_thrown_j39 f_t_forms_j39 = some (r0, o_c_t_acts, o_c_t_refused, o_c_t_thrown, o_f_t_forms) → ∀ (H : Heap) (locs : List Loc), va_P D vwCl [(a_t, .inr (8, [.ref a_t_forms, .ref a_t_roll, .int c_t_many, .long c_t_taps, .int c_t_cells, .int c_t_acts_j39, .int c_t_refused_j39, .int c_t_knocks, .int c_t_thrown_j39])), (a_t_forms, .inl (cyJ, 6, .inr (.inl f_t_forms_j39)))] H → va_D A [(a_t, .inr (8, [.ref a_t_forms, .ref a_t_roll, .int c_t_many, .long c_t_taps, .int c_t_cells, .int c_t_acts_j39, .int c_t_refused_j39, .int c_t_knocks, .int c_t_thrown_j39])), (a_t_forms, .inl (cyJ, 6, .inr (.inl f_t_forms_j39)))] → va_S A s.heap H locs → ∀ (ls : Array Slot), lv_has ls 5 [(0, .ref a_t), (1, .int p0), (2, .int p1), (3, .int p2), (4, .int p3)] → W p l e rmX9_power s m ([.ref a_t, .int p0, .int p1, .int p2, .int p3] : List Value).toArray below meth c H locs 0 0 (MQ below (va_Qi (fun (r : Int32) (_ : Unit) => r = r0) (fun _ t => wQA D [(a_t, .inr (8, [.ref a_t_forms, .ref a_t_roll, .int c_t_many, .long c_t_taps, .int c_t_cells, .int o_c_t_acts, .int o_c_t_refused, .int c_t_knocks, .int o_c_t_thrown])), (a_t_forms, .inl (cyJ, 6, .inr (.inl o_f_t_forms)))] A t) A) ([.ref a_t, .int p0, .int p1, .int p2, .int p3] : List Value).toArray s 0 0 A) (F0 m 39 ls [.int js1_39, .ref a_t]) := by
    intro js1_39 c_t_acts_j39 c_t_refused_j39 c_t_thrown_j39 f_t_forms_j39 h H locs hP hD hS ls hl
    unfold J_X9_power_39 at h
    refine lv_iconst (v := 1) hx hb dX9_power_39 (by decide) ?_
    refine lv_goto (tgt := 44) hx hb dX9_power_40 (by decide) ?_
    exact hj44 js1_39 (1 : Int32) c_t_acts_j39 c_t_refused_j39 c_t_thrown_j39 f_t_forms_j39 h _ _ (hP.sub [0, 1] rfl) (hD.sub [0, 1] (by decide) rfl) hS ls (lv_sub hl [0, 1, 2, 3, 4] rfl)
  have hj28 : ∀ (js1_28 : Int32) (c_t_acts_j28 : Int32) (c_t_refused_j28 : Int32) (c_t_thrown_j28 : Int32) (f_t_forms_j28 : Nat → Int64), J_X9_power_28 p0 p1 p2 p3 js1_28 c_t_acts_j28 c_t_refused_j28 c_t_thrown_j28 f_t_forms_j28 = some (r0, o_c_t_acts, o_c_t_refused, o_c_t_thrown, o_f_t_forms) → ∀ (H : Heap) (locs : List Loc), va_P D vwCl [(a_t, .inr (8, [.ref a_t_forms, .ref a_t_roll, .int c_t_many, .long c_t_taps, .int c_t_cells, .int c_t_acts_j28, .int c_t_refused_j28, .int c_t_knocks, .int c_t_thrown_j28])), (a_t_forms, .inl (cyJ, 6, .inr (.inl f_t_forms_j28)))] H → va_D A [(a_t, .inr (8, [.ref a_t_forms, .ref a_t_roll, .int c_t_many, .long c_t_taps, .int c_t_cells, .int c_t_acts_j28, .int c_t_refused_j28, .int c_t_knocks, .int c_t_thrown_j28])), (a_t_forms, .inl (cyJ, 6, .inr (.inl f_t_forms_j28)))] → va_S A s.heap H locs → ∀ (ls : Array Slot), lv_has ls 5 [(0, .ref a_t), (1, .int p0), (2, .int p1), (3, .int p2), (4, .int p3)] → W p l e rmX9_power s m ([.ref a_t, .int p0, .int p1, .int p2, .int p3] : List Value).toArray below meth c H locs 0 0 (MQ below (va_Qi (fun (r : Int32) (_ : Unit) => r = r0) (fun _ t => wQA D [(a_t, .inr (8, [.ref a_t_forms, .ref a_t_roll, .int c_t_many, .long c_t_taps, .int c_t_cells, .int o_c_t_acts, .int o_c_t_refused, .int c_t_knocks, .int o_c_t_thrown])), (a_t_forms, .inl (cyJ, 6, .inr (.inl o_f_t_forms)))] A t) A) ([.ref a_t, .int p0, .int p1, .int p2, .int p3] : List Value).toArray s 0 0 A) (F0 m 28 ls [.int js1_28, .ref a_t]) := by
    intro js1_28 c_t_acts_j28 c_t_refused_j28 c_t_thrown_j28 f_t_forms_j28 h H locs hP hD hS ls hl
    unfold J_X9_power_28 at h
    refine lv_iload_n hx hb dX9_power_28 rfl (lv_at hl 2 rfl) ?_
    refine lv_if_lt (tgt := 39) hx hb dX9_power_29 (by decide) (fun c29 => ?_) (fun c29 => ?_)
    · have h := it_ c29 h
      exact hj39 js1_28 c_t_acts_j28 c_t_refused_j28 c_t_thrown_j28 f_t_forms_j28 h _ _ (hP.sub [0, 1] rfl) (hD.sub [0, 1] (by decide) rfl) hS ls (lv_sub hl [0, 1, 2, 3, 4] rfl)
    · have h := if_ c29 h
      refine lv_iload_n hx hb dX9_power_32 rfl (lv_at hl 2 rfl) ?_
      refine lv_sipush (v := 255) hx hb dX9_power_33 (by decide) ?_
      refine lv_icmp_le (tgt := 43) hx hb dX9_power_36 (by decide) (fun c36 => ?_) (fun c36 => ?_)
      · have h := it_ c36 h
        refine lv_iconst (v := 0) hx hb dX9_power_43 (by decide) ?_
        exact hj44 js1_28 (0 : Int32) c_t_acts_j28 c_t_refused_j28 c_t_thrown_j28 f_t_forms_j28 h _ _ (hP.sub [0, 1] rfl) (hD.sub [0, 1] (by decide) rfl) hS ls (lv_sub hl [0, 1, 2, 3, 4] rfl)
      · have h := if_ c36 h
        exact hj39 js1_28 c_t_acts_j28 c_t_refused_j28 c_t_thrown_j28 f_t_forms_j28 h _ _ (hP.sub [0, 1] rfl) (hD.sub [0, 1] (by decide) rfl) hS ls (lv_sub hl [0, 1, 2, 3, 4] rfl)
  have hj23 : ∀ (c_t_acts_j23 : Int32) (c_t_refused_j23 : Int32) (c_t_thrown_j23 : Int32) (f_t_forms_j23 : Nat → Int64), J_X9_power_23 p0 p1 p2 p3 c_t_acts_j23 c_t_refused_j23 c_t_thrown_j23 f_t_forms_j23 = some (r0, o_c_t_acts, o_c_t_refused, o_c_t_thrown, o_f_t_forms) → ∀ (H : Heap) (locs : List Loc), va_P D vwCl [(a_t, .inr (8, [.ref a_t_forms, .ref a_t_roll, .int c_t_many, .long c_t_taps, .int c_t_cells, .int c_t_acts_j23, .int c_t_refused_j23, .int c_t_knocks, .int c_t_thrown_j23])), (a_t_forms, .inl (cyJ, 6, .inr (.inl f_t_forms_j23)))] H → va_D A [(a_t, .inr (8, [.ref a_t_forms, .ref a_t_roll, .int c_t_many, .long c_t_taps, .int c_t_cells, .int c_t_acts_j23, .int c_t_refused_j23, .int c_t_knocks, .int c_t_thrown_j23])), (a_t_forms, .inl (cyJ, 6, .inr (.inl f_t_forms_j23)))] → va_S A s.heap H locs → ∀ (ls : Array Slot), lv_has ls 5 [(0, .ref a_t), (1, .int p0), (2, .int p1), (3, .int p2), (4, .int p3)] → W p l e rmX9_power s m ([.ref a_t, .int p0, .int p1, .int p2, .int p3] : List Value).toArray below meth c H locs 0 0 (MQ below (va_Qi (fun (r : Int32) (_ : Unit) => r = r0) (fun _ t => wQA D [(a_t, .inr (8, [.ref a_t_forms, .ref a_t_roll, .int c_t_many, .long c_t_taps, .int c_t_cells, .int o_c_t_acts, .int o_c_t_refused, .int c_t_knocks, .int o_c_t_thrown])), (a_t_forms, .inl (cyJ, 6, .inr (.inl o_f_t_forms)))] A t) A) ([.ref a_t, .int p0, .int p1, .int p2, .int p3] : List Value).toArray s 0 0 A) (F0 m 23 ls [.ref a_t]) := by
    intro c_t_acts_j23 c_t_refused_j23 c_t_thrown_j23 f_t_forms_j23 h H locs hP hD hS ls hl
    unfold J_X9_power_23 at h
    refine lv_iconst (v := 1) hx hb dX9_power_23 (by decide) ?_
    refine lv_goto (tgt := 28) hx hb dX9_power_24 (by decide) ?_
    exact hj28 (1 : Int32) c_t_acts_j23 c_t_refused_j23 c_t_thrown_j23 f_t_forms_j23 h _ _ (hP.sub [0, 1] rfl) (hD.sub [0, 1] (by decide) rfl) hS ls (lv_sub hl [0, 1, 2, 3, 4] rfl)
  refine lv_aload_n hx hb dX9_power_0 rfl (lv_at hl 0 rfl) ?_
  refine lv_iload_n hx hb dX9_power_1 rfl (lv_at hl 1 rfl) ?_
  obtain ⟨r2, hc2, h⟩ := obn_h h
  refine pz_callS (As := [.int p0]) (rest := [.ref a_t]) hcf (c_X9_isForm l p0 r2 hc2) (va_cwS 1 hts gX9_power_X9_isForm rfl rfl rfl ydX9_isForm ⟨Nat.le_of_ble_eq_true rfl, Nat.le_of_ble_eq_true rfl⟩) hnw rfl hl.1 rfl (Nat.le_of_ble_eq_true rfl) dX9_power_2 ⟨Nat.le_of_ble_eq_true rfl, Nat.le_of_ble_eq_true rfl⟩ ?_
  refine lv_if_eq (tgt := 23) hx hb dX9_power_5 (by decide) (fun c5 => ?_) (fun c5 => ?_)
  · have h := it_ c5 h
    exact hj23 c_t_acts c_t_refused c_t_thrown f_t_forms h _ _ (hP.sub [0, 1] rfl) (hD.sub [0, 1] (by decide) rfl) hS ls (lv_sub hl [0, 1, 2, 3, 4] rfl)
  · have h := if_ c5 h
    refine lv_iload_n hx hb dX9_power_8 rfl (lv_at hl 3 rfl) ?_
    obtain ⟨r9, hc9, h⟩ := obn_h h
    refine pz_callS (As := [.int p2]) (rest := [.ref a_t]) hcf (c_X9_isForm l p2 r9 hc9) (va_cwS 1 hts gX9_power_X9_isForm rfl rfl rfl ydX9_isForm ⟨Nat.le_of_ble_eq_true rfl, Nat.le_of_ble_eq_true rfl⟩) hnw rfl hl.1 rfl (Nat.le_of_ble_eq_true rfl) dX9_power_9 ⟨Nat.le_of_ble_eq_true rfl, Nat.le_of_ble_eq_true rfl⟩ ?_
    refine lv_if_eq (tgt := 23) hx hb dX9_power_12 (by decide) (fun c12 => ?_) (fun c12 => ?_)
    · have h := it_ c12 h
      exact hj23 c_t_acts c_t_refused c_t_thrown f_t_forms h _ _ (hP.sub [0, 1] rfl) (hD.sub [0, 1] (by decide) rfl) hS ls (lv_sub hl [0, 1, 2, 3, 4] rfl)
    · have h := if_ c12 h
      refine lv_iload hx hb dX9_power_15 (lv_at hl 4 rfl) ?_
      obtain ⟨r17, hc17, h⟩ := obn_h h
      refine pz_callS (As := [.int p3]) (rest := [.ref a_t]) hcf (c_X9_isForm l p3 r17 hc17) (va_cwS 1 hts gX9_power_X9_isForm rfl rfl rfl ydX9_isForm ⟨Nat.le_of_ble_eq_true rfl, Nat.le_of_ble_eq_true rfl⟩) hnw rfl hl.1 rfl (Nat.le_of_ble_eq_true rfl) dX9_power_17 ⟨Nat.le_of_ble_eq_true rfl, Nat.le_of_ble_eq_true rfl⟩ ?_
      refine lv_if_ne (tgt := 27) hx hb dX9_power_20 (by decide) (fun c20 => ?_) (fun c20 => ?_)
      · have h := if_ c20 h
        refine lv_iconst (v := 0) hx hb dX9_power_27 (by decide) ?_
        exact hj28 (0 : Int32) c_t_acts c_t_refused c_t_thrown f_t_forms h _ _ (hP.sub [0, 1] rfl) (hD.sub [0, 1] (by decide) rfl) hS ls (lv_sub hl [0, 1, 2, 3, 4] rfl)
      · have h := it_ c20 h
        exact hj23 c_t_acts c_t_refused c_t_thrown f_t_forms h _ _ (hP.sub [0, 1] rfl) (hD.sub [0, 1] (by decide) rfl) hS ls (lv_sub hl [0, 1, 2, 3, 4] rfl)

noncomputable abbrev rmX9_allPrimes : Room := { frames := 6, cells := 0, slots := 0, locals := 139 }
theorem ydX9_allPrimes : yX9_allPrimes.cls = RX9 ∧ yX9_allPrimes.cls ≠ "java/lang/invoke/MethodHandle" ∧ yX9_allPrimes.cls ≠ "java/lang/invoke/VarHandle" ∧ (parseMethodDescriptor yX9_allPrimes.desc).map (fun d => d.parameters.length) = some 2 := by decide +kernel
noncomputable def J_X9_allPrimes_90 (ih63 : Int64 → Int64 → Option (Int32 × Int32 × Int32 × (Nat → Int64))) (j3_90 : Int64) (j6_90 : Int64) : Option (Int32 × Int32 × Int32 × (Nat → Int64)) :=
 bnd (j6_90 + (1 : Int64)) (fun x6_94 =>
 ih63 j3_90 x6_94)
noncomputable def S_X9_allPrimes_63 (z5_63 : Int32) (k99 : Int64 → Option (Int32 × Int32 × Int32 × (Nat → Int64))) (ih63 : Int64 → Int64 → Option (Int32 × Int32 × Int32 × (Nat → Int64))) (y3_63 : Int64) (y6_63 : Int64) : Option (Int32 × Int32 × Int32 × (Nat → Int64)) :=
 (if ((2 : Int64) <<< (z5_63.toInt64 &&& 63)) ≤ y6_63 then
 k99 y3_63
else
 obn (F_X9_isPrimeNow y6_63) (fun r77 =>
 (if r77 = 0 then
 J_X9_allPrimes_90 ih63 y3_63 y6_63
else
 obn (F_X9_productOf y3_63 y6_63) (fun r86 =>
 J_X9_allPrimes_90 ih63 r86 y6_63))))
noncomputable def J_X9_allPrimes_99 (ih41 : Int64 → Int32 → Option (Int32 × Int32 × Int32 × (Nat → Int64))) (j3_99 : Int64) (j5_99 : Int32) : Option (Int32 × Int32 × Int32 × (Nat → Int64)) :=
 bnd (j5_99 + 1) (fun x5_99 =>
 ih41 j3_99 x5_99)
noncomputable def S_X9_allPrimes_41 (z1_41 : Int32) (k105 : Int64 → Option (Int32 × Int32 × Int32 × (Nat → Int64))) (ih41 : Int64 → Int32 → Option (Int32 × Int32 × Int32 × (Nat → Int64))) (y3_41 : Int64) (y5_41 : Int32) : Option (Int32 × Int32 × Int32 × (Nat → Int64)) :=
 (if z1_41 < y5_41 then
 k105 y3_41
else
 chk (¬ y5_41 = 0) (
 (if (z1_41 - z1_41 / y5_41 * y5_41) = 0 then
 bnd ((1 : Int64) <<< (y5_41.toInt64 &&& 63)) (fun x6_61 =>
 LQ2 (S_X9_allPrimes_63 y5_41 (fun y3_63_99 =>
 J_X9_allPrimes_99 ih41 y3_63_99 y5_41)) 20000 y3_41 x6_61)
else
 J_X9_allPrimes_99 ih41 y3_41 y5_41)))
noncomputable def J_X9_allPrimes_28 (jl1_28 : Int32) (jl2_28 : Int32) (js1_28 : Int32) (js2_28 : Int32) (c_t_acts_j28 : Int32) (c_t_thrown_j28 : Int32) (f_t_forms_j28 : Nat → Int64) : Option (Int32 × Int32 × Int32 × (Nat → Int64)) :=
 obn2 (F_X9_isThrown js1_28 js2_28) (fun r28 c_t_thrown_28 =>
 (if r28 = 0 then
 LQ2 (S_X9_allPrimes_41 jl1_28 (fun y3_41_105 =>
 obn3 (F_X9_give c_t_acts_j28 f_t_forms_j28 jl2_28 y3_41_105) (fun r108 c_t_acts_108 f_t_forms_108 =>
 some (r108, c_t_acts_108, c_t_thrown_28, f_t_forms_108)))) 20000 (1 : Int64) (1 : Int32)
else
 some ((0 : Int32), c_t_acts_j28, c_t_thrown_28, f_t_forms_j28)))
noncomputable def J_X9_allPrimes_23 (jl1_23 : Int32) (jl2_23 : Int32) (js1_23 : Int32) (c_t_acts_j23 : Int32) (c_t_thrown_j23 : Int32) (f_t_forms_j23 : Nat → Int64) : Option (Int32 × Int32 × Int32 × (Nat → Int64)) :=
 J_X9_allPrimes_28 jl1_23 jl2_23 js1_23 (1 : Int32) c_t_acts_j23 c_t_thrown_j23 f_t_forms_j23
noncomputable def J_X9_allPrimes_13 (jl1_13 : Int32) (jl2_13 : Int32) (js1_13 : Int32) (c_t_acts_j13 : Int32) (c_t_thrown_j13 : Int32) (f_t_forms_j13 : Nat → Int64) : Option (Int32 × Int32 × Int32 × (Nat → Int64)) :=
 (if jl1_13 < (1 : Int32) then
 J_X9_allPrimes_23 jl1_13 jl2_13 js1_13 c_t_acts_j13 c_t_thrown_j13 f_t_forms_j13
else
 (if jl1_13 ≤ (5 : Int32) then
 J_X9_allPrimes_28 jl1_13 jl2_13 js1_13 (0 : Int32) c_t_acts_j13 c_t_thrown_j13 f_t_forms_j13
else
 J_X9_allPrimes_23 jl1_13 jl2_13 js1_13 c_t_acts_j13 c_t_thrown_j13 f_t_forms_j13))
noncomputable def F_X9_allPrimes (c_t_acts : Int32) (c_t_thrown : Int32) (f_t_forms : Nat → Int64) (p0 : Int32) (p1 : Int32) : Option (Int32 × Int32 × Int32 × (Nat → Int64)) :=
 obn (F_X9_isForm p1) (fun r2 =>
 (if r2 = 0 then
 J_X9_allPrimes_13 p0 p1 (1 : Int32) c_t_acts c_t_thrown f_t_forms
else
 J_X9_allPrimes_13 p0 p1 (0 : Int32) c_t_acts c_t_thrown f_t_forms))
set_option maxHeartbeats 4000000 in
set_option maxRecDepth 100000 in
theorem c_X9_allPrimes (l : Launch) (D : va_G) (cyJ : ClassId) (sz : Nat) (a_t : Nat) (a_t_forms : Nat) (a_t_roll : Nat) (c_t_many : Int32) (c_t_taps : Int64) (c_t_cells : Int32) (c_t_acts : Int32) (c_t_refused : Int32) (c_t_knocks : Int32) (c_t_thrown : Int32) (f_t_forms : Nat → Int64) (p0 : Int32) (p1 : Int32) (r0 : Int32) (o_c_t_acts : Int32) (o_c_t_thrown : Int32) (o_f_t_forms : Nat → Int64) (hF : F_X9_allPrimes c_t_acts c_t_thrown f_t_forms p0 p1 = some (r0, o_c_t_acts, o_c_t_thrown, o_f_t_forms)) : Met l yX9_allPrimes wsX9_allPrimes rmX9_allPrimes (va_Pc [.ref a_t, .int p0, .int p1] (wPD D [(cyJ, .long)] [(a_t, .inr (8, [.ref a_t_forms, .ref a_t_roll, .int c_t_many, .long c_t_taps, .int c_t_cells, .int c_t_acts, .int c_t_refused, .int c_t_knocks, .int c_t_thrown])), (a_t_forms, .inl (cyJ, 6, .inr (.inl f_t_forms)))] sz)) (va_Qi (fun (r : Int32) (_ : Unit) => r = r0) (fun _ t => wQA D [(a_t, .inr (8, [.ref a_t_forms, .ref a_t_roll, .int c_t_many, .long c_t_taps, .int c_t_cells, .int o_c_t_acts, .int c_t_refused, .int c_t_knocks, .int o_c_t_thrown])), (a_t_forms, .inl (cyJ, 6, .inr (.inl o_f_t_forms)))] (va_A [(a_t, .inr (8, [.ref a_t_forms, .ref a_t_roll, .int c_t_many, .long c_t_taps, .int c_t_cells, .int c_t_acts, .int c_t_refused, .int c_t_knocks, .int c_t_thrown])), (a_t_forms, .inl (cyJ, 6, .inr (.inl f_t_forms)))] sz) t) (va_A [(a_t, .inr (8, [.ref a_t_forms, .ref a_t_roll, .int c_t_many, .long c_t_taps, .int c_t_cells, .int c_t_acts, .int c_t_refused, .int c_t_knocks, .int c_t_thrown])), (a_t_forms, .inl (cyJ, 6, .inr (.inl f_t_forms)))] sz)) 0 0 (va_A [(a_t, .inr (8, [.ref a_t_forms, .ref a_t_roll, .int c_t_many, .long c_t_taps, .int c_t_cells, .int c_t_acts, .int c_t_refused, .int c_t_knocks, .int c_t_thrown])), (a_t_forms, .inl (cyJ, 6, .inr (.inl f_t_forms)))] sz) := by
  refine Met.ofW (cc := cX9_allPrimes) (maxL := 8) (ret := (some .int)) (by decide) rfl ?_
  intro p e s m args below meth c s₁ B hml hv
  obtain ⟨rfl, hsz, hP, hK, hD0, hnw⟩ := hv
  have hx := B.exec
  have hb := B.bytes
  have hr := B.returns
  have hts := atoms_spec (ws := wsX9_allPrimes) B.pre
  have hown : s.vm.findClass RX9 = some m.cls := findClass_of_methodNamed B.named
  have hlocks := B.notSynchronized
  have hcf : CallFix _ _ _ _ _ _ _ _ _ := ⟨hx, hb, hml, hown, hts⟩
  subst hsz
  have hD := hD0.self (sz := s.heap.size)
  generalize hAe : va_A [(a_t, .inr (8, [.ref a_t_forms, .ref a_t_roll, .int c_t_many, .long c_t_taps, .int c_t_cells, .int c_t_acts, .int c_t_refused, .int c_t_knocks, .int c_t_thrown])), (a_t_forms, .inl (cyJ, 6, .inr (.inl f_t_forms)))] s.heap.size = A at hD ⊢
  have hA : ∀ q : Nat, s.heap.size ≤ q → A q := fun q h => by rw [← hAe]; exact Or.inr h
  have hS : va_S A s.heap s.heap [] := va_S.rf
  have hP : va_P D vwCl [(a_t, .inr (8, [.ref a_t_forms, .ref a_t_roll, .int c_t_many, .long c_t_taps, .int c_t_cells, .int c_t_acts, .int c_t_refused, .int c_t_knocks, .int c_t_thrown])), (a_t_forms, .inl (cyJ, 6, .inr (.inl f_t_forms)))] s.heap := hP
  have hK0 := hK
  have hl := lv_entry ([.ref a_t, .int p0, .int p1]) (n := 8) (Nat.le_of_ble_eq_true rfl)
  rw [lg_entry_eq]
  generalize (lg_sl ([.ref a_t, .int p0, .int p1]) ++ List.replicate (8 - (lg_sl ([.ref a_t, .int p0, .int p1])).length) Slot.unset).toArray = ls at hl ⊢
  have hl : lv_has ls 8 [(0, .ref a_t), (1, .int p0), (2, .int p1)] := hl
  have h := hF
  clear hF
  unfold F_X9_allPrimes at h
  have hj28 : ∀ (js1_28 : Int32) (js2_28 : Int32) (c_t_acts_j28 : Int32) (c_t_thrown_j28 : Int32) (f_t_forms_j28 : Nat → Int64), J_X9_allPrimes_28 p0 p1 js1_28 js2_28 c_t_acts_j28 c_t_thrown_j28 f_t_forms_j28 = some (r0, o_c_t_acts, o_c_t_thrown, o_f_t_forms) → ∀ (H : Heap) (locs : List Loc), va_P D vwCl [(a_t, .inr (8, [.ref a_t_forms, .ref a_t_roll, .int c_t_many, .long c_t_taps, .int c_t_cells, .int c_t_acts_j28, .int c_t_refused, .int c_t_knocks, .int c_t_thrown_j28])), (a_t_forms, .inl (cyJ, 6, .inr (.inl f_t_forms_j28)))] H → va_D A [(a_t, .inr (8, [.ref a_t_forms, .ref a_t_roll, .int c_t_many, .long c_t_taps, .int c_t_cells, .int c_t_acts_j28, .int c_t_refused, .int c_t_knocks, .int c_t_thrown_j28])), (a_t_forms, .inl (cyJ, 6, .inr (.inl f_t_forms_j28)))] → va_S A s.heap H locs → ∀ (ls : Array Slot), lv_has ls 8 [(0, .ref a_t), (1, .int p0), (2, .int p1)] → W p l e rmX9_allPrimes s m ([.ref a_t, .int p0, .int p1] : List Value).toArray below meth c H locs 0 0 (MQ below (va_Qi (fun (r : Int32) (_ : Unit) => r = r0) (fun _ t => wQA D [(a_t, .inr (8, [.ref a_t_forms, .ref a_t_roll, .int c_t_many, .long c_t_taps, .int c_t_cells, .int o_c_t_acts, .int c_t_refused, .int c_t_knocks, .int o_c_t_thrown])), (a_t_forms, .inl (cyJ, 6, .inr (.inl o_f_t_forms)))] A t) A) ([.ref a_t, .int p0, .int p1] : List Value).toArray s 0 0 A) (F0 m 28 ls [.int js2_28, .int js1_28, .ref a_t]) := by
    intro js1_28 js2_28 c_t_acts_j28 c_t_thrown_j28 f_t_forms_j28 h H locs hP hD hS ls hl
    unfold J_X9_allPrimes_28 at h
    obtain ⟨r28, c_t_thrown_28, hc28, h⟩ := obn2_h h
    have hPc := hP.sub (ws' := [(a_t, .inr (8, [.ref a_t_forms, .ref a_t_roll, .int c_t_many, .long c_t_taps, .int c_t_cells, .int c_t_acts_j28, .int c_t_refused, .int c_t_knocks, .int c_t_thrown_j28]))]) [0] rfl
    have hDc := hD.sub (ws' := [(a_t, .inr (8, [.ref a_t_forms, .ref a_t_roll, .int c_t_many, .long c_t_taps, .int c_t_cells, .int c_t_acts_j28, .int c_t_refused, .int c_t_knocks, .int c_t_thrown_j28]))]) [0] (by decide) rfl
    refine hp_i (w1 := [(a_t, .inr (8, [.ref a_t_forms, .ref a_t_roll, .int c_t_many, .long c_t_taps, .int c_t_cells, .int c_t_acts_j28, .int c_t_refused, .int c_t_knocks, .int c_t_thrown_28]))]) (wr := [(a_t_forms, .inl (cyJ, 6, .inr (.inl f_t_forms_j28)))]) (va_runV (As := [.int js1_28, .int js2_28]) (rest := []) hcf (c_X9_isThrown l D cyJ H.size a_t a_t_forms a_t_roll c_t_many c_t_taps c_t_cells c_t_acts_j28 c_t_refused c_t_knocks c_t_thrown_j28 js1_28 js2_28 r28 c_t_thrown_28 hc28) (cwV 2 hts gX9_allPrimes_X9_isThrown rfl rfl rfl ydX9_isThrown ⟨Nat.le_of_ble_eq_true rfl, Nat.le_of_ble_eq_true rfl⟩) ⟨bl_PD, va_recv hK hP (ci := 8) (q0 := 0) rfl rfl, pr_PD hPc hK0 hDc hnw⟩ rfl rfl hl.1 rfl (lv_room (Nat.le_of_ble_eq_true rfl)) dX9_allPrimes_28 ⟨Nat.le_of_ble_eq_true rfl, Nat.le_of_ble_eq_true rfl⟩) hP hD hS hA [0] [1] rfl rfl (by decide) (by decide) (fun H locs hP hD hS => ?_)
    have hP : va_P D vwCl [(a_t_forms, .inl (cyJ, 6, .inr (.inl f_t_forms_j28))), (a_t, .inr (8, [.ref a_t_forms, .ref a_t_roll, .int c_t_many, .long c_t_taps, .int c_t_cells, .int c_t_acts_j28, .int c_t_refused, .int c_t_knocks, .int c_t_thrown_28]))] H := hP
    have hD : va_D A [(a_t_forms, .inl (cyJ, 6, .inr (.inl f_t_forms_j28))), (a_t, .inr (8, [.ref a_t_forms, .ref a_t_roll, .int c_t_many, .long c_t_taps, .int c_t_cells, .int c_t_acts_j28, .int c_t_refused, .int c_t_knocks, .int c_t_thrown_28]))] := hD
    refine lv_if_eq (tgt := 36) hx hb dX9_allPrimes_31 (by decide) (fun c31 => ?_) (fun c31 => ?_)
    · have h := it_ c31 h
      refine lv_lconst (v := 1) hx hb dX9_allPrimes_36 (by decide) ?_
      refine lv_lstore_n (lv' := [(3, .long (1 : Int64)), (0, .ref a_t), (1, .int p0), (2, .int p1)]) hx hb dX9_allPrimes_37 rfl hl (by decide) rfl (fun ls hl => ?_)
      refine lv_iconst (v := 1) hx hb dX9_allPrimes_38 (by decide) ?_
      refine lv_istore (lv' := [(5, .int (1 : Int32)), (3, .long (1 : Int64)), (0, .ref a_t), (1, .int p0), (2, .int p1)]) hx hb dX9_allPrimes_39 hl (by decide) rfl (fun ls hl => ?_)
      refine LQ2_k1 (M := fun (y3_41 : Int64) (y5_41 : Int32) => ∀ (ls : Array Slot), lv_has ls 8 [(0, .ref a_t), (1, .int p0), (2, .int p1), (3, .long y3_41), (5, .int y5_41)] → W p l e rmX9_allPrimes s m ([.ref a_t, .int p0, .int p1] : List Value).toArray below meth c H locs 0 0 (MQ below (va_Qi (fun (r : Int32) (_ : Unit) => r = r0) (fun _ t => wQA D [(a_t, .inr (8, [.ref a_t_forms, .ref a_t_roll, .int c_t_many, .long c_t_taps, .int c_t_cells, .int o_c_t_acts, .int c_t_refused, .int c_t_knocks, .int o_c_t_thrown])), (a_t_forms, .inl (cyJ, 6, .inr (.inl o_f_t_forms)))] A t) A) ([.ref a_t, .int p0, .int p1] : List Value).toArray s 0 0 A) (F0 m 41 ls [])) ?_ _ _ _ h ls (lv_sub hl [2, 3, 4, 1, 0] rfl)
      intro k105 hk105 ih41 hih41 y3_41 y5_41 h ls hl
      unfold S_X9_allPrimes_41 at h
      have hj99 : ∀ (j3_99 : Int64) (j5_99 : Int32), J_X9_allPrimes_99 ih41 j3_99 j5_99 = some (r0, o_c_t_acts, o_c_t_thrown, o_f_t_forms) → ∀ (ls : Array Slot), lv_has ls 8 [(0, .ref a_t), (1, .int p0), (2, .int p1), (3, .long j3_99), (5, .int j5_99)] → W p l e rmX9_allPrimes s m ([.ref a_t, .int p0, .int p1] : List Value).toArray below meth c H locs 0 0 (MQ below (va_Qi (fun (r : Int32) (_ : Unit) => r = r0) (fun _ t => wQA D [(a_t, .inr (8, [.ref a_t_forms, .ref a_t_roll, .int c_t_many, .long c_t_taps, .int c_t_cells, .int o_c_t_acts, .int c_t_refused, .int c_t_knocks, .int o_c_t_thrown])), (a_t_forms, .inl (cyJ, 6, .inr (.inl o_f_t_forms)))] A t) A) ([.ref a_t, .int p0, .int p1] : List Value).toArray s 0 0 A) (F0 m 99 ls []) := by
        intro j3_99 j5_99 h ls hl
        unfold J_X9_allPrimes_99 at h
        obtain ⟨x5_99, e_x5_99⟩ : ∃ z : Int32, z = j5_99 + 1 := ⟨_, rfl⟩
        have h := bnd_h e_x5_99 h
        refine lv_iinc (v := x5_99) (lv' := [(5, .int x5_99), (0, .ref a_t), (1, .int p0), (2, .int p1), (3, .long j3_99)]) hx hb dX9_allPrimes_99 hl (k := 4) rfl (by rw [e_x5_99]; rfl) (by decide) rfl (fun ls hl => ?_)
        refine lv_goto (tgt := 41) hx hb dX9_allPrimes_102 (by decide) ?_
        exact hih41 j3_99 x5_99 h ls (lv_sub hl [1, 2, 3, 4, 0] rfl)
      refine lv_iload hx hb dX9_allPrimes_41 (lv_at hl 4 rfl) ?_
      refine lv_iload_n hx hb dX9_allPrimes_43 rfl (lv_at hl 1 rfl) ?_
      refine lv_icmp_gt (tgt := 105) hx hb dX9_allPrimes_44 (by decide) (fun c44 => ?_) (fun c44 => ?_)
      · have h := it_ c44 h
        rw [hk105] at h
        refine lv_aload_n hx hb dX9_allPrimes_105 rfl (lv_at hl 0 rfl) ?_
        refine lv_iload_n hx hb dX9_allPrimes_106 rfl (lv_at hl 2 rfl) ?_
        refine lv_lload_n hx hb dX9_allPrimes_107 rfl (lv_at hl 3 rfl) ?_
        obtain ⟨r108, c_t_acts_108, f_t_forms_108, hc108, h⟩ := obn3_h h
        have hPc := hP.sub (ws' := [(a_t, .inr (8, [.ref a_t_forms, .ref a_t_roll, .int c_t_many, .long c_t_taps, .int c_t_cells, .int c_t_acts_j28, .int c_t_refused, .int c_t_knocks, .int c_t_thrown_28])), (a_t_forms, .inl (cyJ, 6, .inr (.inl f_t_forms_j28)))]) [1, 0] rfl
        have hDc := hD.sub (ws' := [(a_t, .inr (8, [.ref a_t_forms, .ref a_t_roll, .int c_t_many, .long c_t_taps, .int c_t_cells, .int c_t_acts_j28, .int c_t_refused, .int c_t_knocks, .int c_t_thrown_28])), (a_t_forms, .inl (cyJ, 6, .inr (.inl f_t_forms_j28)))]) [1, 0] (by decide) rfl
        refine hp_i (w1 := [(a_t, .inr (8, [.ref a_t_forms, .ref a_t_roll, .int c_t_many, .long c_t_taps, .int c_t_cells, .int c_t_acts_108, .int c_t_refused, .int c_t_knocks, .int c_t_thrown_28])), (a_t_forms, .inl (cyJ, 6, .inr (.inl f_t_forms_108)))]) (wr := []) (va_runV (As := [.int p1, .long y3_41]) (rest := []) hcf (c_X9_give l D cyJ H.size a_t a_t_forms a_t_roll c_t_many c_t_taps c_t_cells c_t_acts_j28 c_t_refused c_t_knocks c_t_thrown_28 f_t_forms_j28 p1 y3_41 r108 c_t_acts_108 f_t_forms_108 hc108) (cwV 2 hts gX9_allPrimes_X9_give rfl rfl rfl ydX9_give ⟨Nat.le_of_ble_eq_true rfl, Nat.le_of_ble_eq_true rfl⟩) ⟨bl_PD, va_recv hK hP (ci := 8) (q0 := 1) rfl rfl, pr_PD hPc hK0 hDc hnw⟩ rfl rfl hl.1 rfl (lv_room (Nat.le_of_ble_eq_true rfl)) dX9_allPrimes_108 ⟨Nat.le_of_ble_eq_true rfl, Nat.le_of_ble_eq_true rfl⟩) hP hD hS hA [1, 0] [] rfl rfl (by decide) (by decide) (fun H locs hP hD hS => ?_)
        have hP : va_P D vwCl [(a_t, .inr (8, [.ref a_t_forms, .ref a_t_roll, .int c_t_many, .long c_t_taps, .int c_t_cells, .int c_t_acts_108, .int c_t_refused, .int c_t_knocks, .int c_t_thrown_28])), (a_t_forms, .inl (cyJ, 6, .inr (.inl f_t_forms_108)))] H := hP
        have hD : va_D A [(a_t, .inr (8, [.ref a_t_forms, .ref a_t_roll, .int c_t_many, .long c_t_taps, .int c_t_cells, .int c_t_acts_108, .int c_t_refused, .int c_t_knocks, .int c_t_thrown_28])), (a_t_forms, .inl (cyJ, 6, .inr (.inl f_t_forms_108)))] := hD
        obtain ⟨e0, e1, e2, e3⟩ := tup4 h
        subst e0
        subst e1
        subst e2
        subst e3
        have hP9 : va_P D vwCl [(a_t, .inr (8, [.ref a_t_forms, .ref a_t_roll, .int c_t_many, .long c_t_taps, .int c_t_cells, .int c_t_acts_108, .int c_t_refused, .int c_t_knocks, .int c_t_thrown_28])), (a_t_forms, .inl (cyJ, 6, .inr (.inl f_t_forms_108)))] H := hP.sub [0, 1] rfl
        have hD9 : va_D A [(a_t, .inr (8, [.ref a_t_forms, .ref a_t_roll, .int c_t_many, .long c_t_taps, .int c_t_cells, .int c_t_acts_108, .int c_t_refused, .int c_t_knocks, .int c_t_thrown_28])), (a_t_forms, .inl (cyJ, 6, .inr (.inl f_t_forms_108)))] := hD.sub [0, 1] (by decide) rfl
        exact W.iret hx hb hr (fun t ht hW => ⟨⟨_, (), rfl, rfl, wQA_of ht hP9 hD9⟩, hS.F ht⟩) hS.2.2 dX9_allPrimes_111
      · have h := if_ c44 h
        refine lv_iload_n hx hb dX9_allPrimes_47 rfl (lv_at hl 1 rfl) ?_
        refine lv_iload hx hb dX9_allPrimes_48 (lv_at hl 4 rfl) ?_
        obtain ⟨hq50, h⟩ := chk_h h
        refine lv_irem hx hb dX9_allPrimes_50 hq50 ?_
        refine lv_if_eq (tgt := 57) hx hb dX9_allPrimes_51 (by decide) (fun c51 => ?_) (fun c51 => ?_)
        · have h := it_ c51 h
          refine lv_lconst (v := 1) hx hb dX9_allPrimes_57 (by decide) ?_
          refine lv_iload hx hb dX9_allPrimes_58 (lv_at hl 4 rfl) ?_
          refine lv_lshl (v := (1 : Int64) <<< (y5_41.toInt64 &&& 63)) hx hb dX9_allPrimes_60 rfl ?_
          refine lv_topl (fun x6_61 e_x6_61 => ?_)
          have h := bnd_h e_x6_61 h
          refine lv_lstore (lv' := [(6, .long x6_61), (0, .ref a_t), (1, .int p0), (2, .int p1), (3, .long y3_41), (5, .int y5_41)]) hx hb dX9_allPrimes_61 hl (by decide) rfl (fun ls hl => ?_)
          refine LQ2_k1 (M := fun (y3_63 : Int64) (y6_63 : Int64) => ∀ (ls : Array Slot), lv_has ls 8 [(0, .ref a_t), (1, .int p0), (2, .int p1), (3, .long y3_63), (5, .int y5_41), (6, .long y6_63)] → W p l e rmX9_allPrimes s m ([.ref a_t, .int p0, .int p1] : List Value).toArray below meth c H locs 0 0 (MQ below (va_Qi (fun (r : Int32) (_ : Unit) => r = r0) (fun _ t => wQA D [(a_t, .inr (8, [.ref a_t_forms, .ref a_t_roll, .int c_t_many, .long c_t_taps, .int c_t_cells, .int o_c_t_acts, .int c_t_refused, .int c_t_knocks, .int o_c_t_thrown])), (a_t_forms, .inl (cyJ, 6, .inr (.inl o_f_t_forms)))] A t) A) ([.ref a_t, .int p0, .int p1] : List Value).toArray s 0 0 A) (F0 m 63 ls [])) ?_ _ _ _ h ls (lv_sub hl [1, 2, 3, 4, 5, 0] rfl)
          intro k99 hk99 ih63 hih63 y3_63 y6_63 h ls hl
          unfold S_X9_allPrimes_63 at h
          have hj90 : ∀ (j3_90 : Int64) (j6_90 : Int64), J_X9_allPrimes_90 ih63 j3_90 j6_90 = some (r0, o_c_t_acts, o_c_t_thrown, o_f_t_forms) → ∀ (ls : Array Slot), lv_has ls 8 [(0, .ref a_t), (1, .int p0), (2, .int p1), (3, .long j3_90), (5, .int y5_41), (6, .long j6_90)] → W p l e rmX9_allPrimes s m ([.ref a_t, .int p0, .int p1] : List Value).toArray below meth c H locs 0 0 (MQ below (va_Qi (fun (r : Int32) (_ : Unit) => r = r0) (fun _ t => wQA D [(a_t, .inr (8, [.ref a_t_forms, .ref a_t_roll, .int c_t_many, .long c_t_taps, .int c_t_cells, .int o_c_t_acts, .int c_t_refused, .int c_t_knocks, .int o_c_t_thrown])), (a_t_forms, .inl (cyJ, 6, .inr (.inl o_f_t_forms)))] A t) A) ([.ref a_t, .int p0, .int p1] : List Value).toArray s 0 0 A) (F0 m 90 ls []) := by
            intro j3_90 j6_90 h ls hl
            unfold J_X9_allPrimes_90 at h
            refine lv_lload hx hb dX9_allPrimes_90 (lv_at hl 5 rfl) ?_
            refine lv_lconst (v := 1) hx hb dX9_allPrimes_92 (by decide) ?_
            refine lv_ladd hx hb dX9_allPrimes_93 ?_
            refine lv_topl (fun x6_94 e_x6_94 => ?_)
            have h := bnd_h e_x6_94 h
            refine lv_lstore (lv' := [(6, .long x6_94), (0, .ref a_t), (1, .int p0), (2, .int p1), (3, .long j3_90), (5, .int y5_41)]) hx hb dX9_allPrimes_94 hl (by decide) rfl (fun ls hl => ?_)
            refine lv_goto (tgt := 63) hx hb dX9_allPrimes_96 (by decide) ?_
            exact hih63 j3_90 x6_94 h ls (lv_sub hl [1, 2, 3, 4, 5, 0] rfl)
          refine lv_lload hx hb dX9_allPrimes_63 (lv_at hl 5 rfl) ?_
          refine lv_ldc2 hx hb hown (hts (.constantLong RX9 54 (2)) (by decide +kernel)) dX9_allPrimes_65 ?_
          refine lv_iload hx hb dX9_allPrimes_68 (lv_at hl 4 rfl) ?_
          refine lv_lshl (v := (2 : Int64) <<< (y5_41.toInt64 &&& 63)) hx hb dX9_allPrimes_70 rfl ?_
          refine W.lcmp hx hb dX9_allPrimes_71 ?_
          refine lv_if_ge (tgt := 99) hx hb dX9_allPrimes_72 (by decide) (fun c72 => ?_) (fun c72 => ?_)
          · have c72 := (lg_cmp_ge _ _).mp c72
            have h := it_ c72 h
            rw [hk99] at h
            exact hj99 y3_63 y5_41 h ls (lv_sub hl [0, 1, 2, 3, 4] rfl)
          · have c72 := fun z => c72 ((lg_cmp_ge _ _).mpr z)
            have h := if_ c72 h
            refine lv_lload hx hb dX9_allPrimes_75 (lv_at hl 5 rfl) ?_
            obtain ⟨r77, hc77, h⟩ := obn_h h
            refine pz_callS (As := [.long y6_63]) (rest := []) hcf (c_X9_isPrimeNow l y6_63 r77 hc77) (va_cwS 1 hts gX9_allPrimes_X9_isPrimeNow rfl rfl rfl ydX9_isPrimeNow ⟨Nat.le_of_ble_eq_true rfl, Nat.le_of_ble_eq_true rfl⟩) hnw rfl hl.1 rfl (Nat.le_of_ble_eq_true rfl) dX9_allPrimes_77 ⟨Nat.le_of_ble_eq_true rfl, Nat.le_of_ble_eq_true rfl⟩ ?_
            refine lv_if_eq (tgt := 90) hx hb dX9_allPrimes_80 (by decide) (fun c80 => ?_) (fun c80 => ?_)
            · have h := it_ c80 h
              exact hj90 y3_63 y6_63 h ls (lv_sub hl [0, 1, 2, 3, 4, 5] rfl)
            · have h := if_ c80 h
              refine lv_lload_n hx hb dX9_allPrimes_83 rfl (lv_at hl 3 rfl) ?_
              refine lv_lload hx hb dX9_allPrimes_84 (lv_at hl 5 rfl) ?_
              obtain ⟨r86, hc86, h⟩ := obn_h h
              refine pz_callS (As := [.long y3_63, .long y6_63]) (rest := []) hcf (c_X9_productOf l y3_63 y6_63 r86 hc86) (va_cwS 2 hts gX9_allPrimes_X9_productOf rfl rfl rfl ydX9_productOf ⟨Nat.le_of_ble_eq_true rfl, Nat.le_of_ble_eq_true rfl⟩) hnw rfl hl.1 rfl (Nat.le_of_ble_eq_true rfl) dX9_allPrimes_86 ⟨Nat.le_of_ble_eq_true rfl, Nat.le_of_ble_eq_true rfl⟩ ?_
              refine lv_lstore_n (lv' := [(3, .long r86), (0, .ref a_t), (1, .int p0), (2, .int p1), (5, .int y5_41), (6, .long y6_63)]) hx hb dX9_allPrimes_89 rfl hl (by decide) rfl (fun ls hl => ?_)
              exact hj90 r86 y6_63 h ls (lv_sub hl [1, 2, 3, 0, 4, 5] rfl)
        · have h := if_ c51 h
          refine lv_goto (tgt := 99) hx hb dX9_allPrimes_54 (by decide) ?_
          exact hj99 y3_41 y5_41 h ls (lv_sub hl [0, 1, 2, 3, 4] rfl)
    · have h := if_ c31 h
      refine lv_iconst (v := 0) hx hb dX9_allPrimes_34 (by decide) ?_
      obtain ⟨e0, e1, e2, e3⟩ := tup4 h
      subst e0
      subst e1
      subst e2
      subst e3
      have hP9 : va_P D vwCl [(a_t, .inr (8, [.ref a_t_forms, .ref a_t_roll, .int c_t_many, .long c_t_taps, .int c_t_cells, .int c_t_acts_j28, .int c_t_refused, .int c_t_knocks, .int c_t_thrown_28])), (a_t_forms, .inl (cyJ, 6, .inr (.inl f_t_forms_j28)))] H := hP.sub [1, 0] rfl
      have hD9 : va_D A [(a_t, .inr (8, [.ref a_t_forms, .ref a_t_roll, .int c_t_many, .long c_t_taps, .int c_t_cells, .int c_t_acts_j28, .int c_t_refused, .int c_t_knocks, .int c_t_thrown_28])), (a_t_forms, .inl (cyJ, 6, .inr (.inl f_t_forms_j28)))] := hD.sub [1, 0] (by decide) rfl
      exact W.iret hx hb hr (fun t ht hW => ⟨⟨_, (), rfl, rfl, wQA_of ht hP9 hD9⟩, hS.F ht⟩) hS.2.2 dX9_allPrimes_35
  have hj23 : ∀ (js1_23 : Int32) (c_t_acts_j23 : Int32) (c_t_thrown_j23 : Int32) (f_t_forms_j23 : Nat → Int64), J_X9_allPrimes_23 p0 p1 js1_23 c_t_acts_j23 c_t_thrown_j23 f_t_forms_j23 = some (r0, o_c_t_acts, o_c_t_thrown, o_f_t_forms) → ∀ (H : Heap) (locs : List Loc), va_P D vwCl [(a_t, .inr (8, [.ref a_t_forms, .ref a_t_roll, .int c_t_many, .long c_t_taps, .int c_t_cells, .int c_t_acts_j23, .int c_t_refused, .int c_t_knocks, .int c_t_thrown_j23])), (a_t_forms, .inl (cyJ, 6, .inr (.inl f_t_forms_j23)))] H → va_D A [(a_t, .inr (8, [.ref a_t_forms, .ref a_t_roll, .int c_t_many, .long c_t_taps, .int c_t_cells, .int c_t_acts_j23, .int c_t_refused, .int c_t_knocks, .int c_t_thrown_j23])), (a_t_forms, .inl (cyJ, 6, .inr (.inl f_t_forms_j23)))] → va_S A s.heap H locs → ∀ (ls : Array Slot), lv_has ls 8 [(0, .ref a_t), (1, .int p0), (2, .int p1)] → W p l e rmX9_allPrimes s m ([.ref a_t, .int p0, .int p1] : List Value).toArray below meth c H locs 0 0 (MQ below (va_Qi (fun (r : Int32) (_ : Unit) => r = r0) (fun _ t => wQA D [(a_t, .inr (8, [.ref a_t_forms, .ref a_t_roll, .int c_t_many, .long c_t_taps, .int c_t_cells, .int o_c_t_acts, .int c_t_refused, .int c_t_knocks, .int o_c_t_thrown])), (a_t_forms, .inl (cyJ, 6, .inr (.inl o_f_t_forms)))] A t) A) ([.ref a_t, .int p0, .int p1] : List Value).toArray s 0 0 A) (F0 m 23 ls [.int js1_23, .ref a_t]) := by
    intro js1_23 c_t_acts_j23 c_t_thrown_j23 f_t_forms_j23 h H locs hP hD hS ls hl
    unfold J_X9_allPrimes_23 at h
    refine lv_iconst (v := 1) hx hb dX9_allPrimes_23 (by decide) ?_
    refine lv_goto (tgt := 28) hx hb dX9_allPrimes_24 (by decide) ?_
    exact hj28 js1_23 (1 : Int32) c_t_acts_j23 c_t_thrown_j23 f_t_forms_j23 h _ _ (hP.sub [0, 1] rfl) (hD.sub [0, 1] (by decide) rfl) hS ls (lv_sub hl [0, 1, 2] rfl)
  have hj13 : ∀ (js1_13 : Int32) (c_t_acts_j13 : Int32) (c_t_thrown_j13 : Int32) (f_t_forms_j13 : Nat → Int64), J_X9_allPrimes_13 p0 p1 js1_13 c_t_acts_j13 c_t_thrown_j13 f_t_forms_j13 = some (r0, o_c_t_acts, o_c_t_thrown, o_f_t_forms) → ∀ (H : Heap) (locs : List Loc), va_P D vwCl [(a_t, .inr (8, [.ref a_t_forms, .ref a_t_roll, .int c_t_many, .long c_t_taps, .int c_t_cells, .int c_t_acts_j13, .int c_t_refused, .int c_t_knocks, .int c_t_thrown_j13])), (a_t_forms, .inl (cyJ, 6, .inr (.inl f_t_forms_j13)))] H → va_D A [(a_t, .inr (8, [.ref a_t_forms, .ref a_t_roll, .int c_t_many, .long c_t_taps, .int c_t_cells, .int c_t_acts_j13, .int c_t_refused, .int c_t_knocks, .int c_t_thrown_j13])), (a_t_forms, .inl (cyJ, 6, .inr (.inl f_t_forms_j13)))] → va_S A s.heap H locs → ∀ (ls : Array Slot), lv_has ls 8 [(0, .ref a_t), (1, .int p0), (2, .int p1)] → W p l e rmX9_allPrimes s m ([.ref a_t, .int p0, .int p1] : List Value).toArray below meth c H locs 0 0 (MQ below (va_Qi (fun (r : Int32) (_ : Unit) => r = r0) (fun _ t => wQA D [(a_t, .inr (8, [.ref a_t_forms, .ref a_t_roll, .int c_t_many, .long c_t_taps, .int c_t_cells, .int o_c_t_acts, .int c_t_refused, .int c_t_knocks, .int o_c_t_thrown])), (a_t_forms, .inl (cyJ, 6, .inr (.inl o_f_t_forms)))] A t) A) ([.ref a_t, .int p0, .int p1] : List Value).toArray s 0 0 A) (F0 m 13 ls [.int js1_13, .ref a_t]) := by
    intro js1_13 c_t_acts_j13 c_t_thrown_j13 f_t_forms_j13 h H locs hP hD hS ls hl
    unfold J_X9_allPrimes_13 at h
    refine lv_iload_n hx hb dX9_allPrimes_13 rfl (lv_at hl 1 rfl) ?_
    refine lv_iconst (v := 1) hx hb dX9_allPrimes_14 (by decide) ?_
    refine lv_icmp_lt (tgt := 23) hx hb dX9_allPrimes_15 (by decide) (fun c15 => ?_) (fun c15 => ?_)
    · have h := it_ c15 h
      exact hj23 js1_13 c_t_acts_j13 c_t_thrown_j13 f_t_forms_j13 h _ _ (hP.sub [0, 1] rfl) (hD.sub [0, 1] (by decide) rfl) hS ls (lv_sub hl [0, 1, 2] rfl)
    · have h := if_ c15 h
      refine lv_iload_n hx hb dX9_allPrimes_18 rfl (lv_at hl 1 rfl) ?_
      refine lv_iconst (v := 5) hx hb dX9_allPrimes_19 (by decide) ?_
      refine lv_icmp_le (tgt := 27) hx hb dX9_allPrimes_20 (by decide) (fun c20 => ?_) (fun c20 => ?_)
      · have h := it_ c20 h
        refine lv_iconst (v := 0) hx hb dX9_allPrimes_27 (by decide) ?_
        exact hj28 js1_13 (0 : Int32) c_t_acts_j13 c_t_thrown_j13 f_t_forms_j13 h _ _ (hP.sub [0, 1] rfl) (hD.sub [0, 1] (by decide) rfl) hS ls (lv_sub hl [0, 1, 2] rfl)
      · have h := if_ c20 h
        exact hj23 js1_13 c_t_acts_j13 c_t_thrown_j13 f_t_forms_j13 h _ _ (hP.sub [0, 1] rfl) (hD.sub [0, 1] (by decide) rfl) hS ls (lv_sub hl [0, 1, 2] rfl)
  refine lv_aload_n hx hb dX9_allPrimes_0 rfl (lv_at hl 0 rfl) ?_
  refine lv_iload_n hx hb dX9_allPrimes_1 rfl (lv_at hl 2 rfl) ?_
  obtain ⟨r2, hc2, h⟩ := obn_h h
  refine pz_callS (As := [.int p1]) (rest := [.ref a_t]) hcf (c_X9_isForm l p1 r2 hc2) (va_cwS 1 hts gX9_allPrimes_X9_isForm rfl rfl rfl ydX9_isForm ⟨Nat.le_of_ble_eq_true rfl, Nat.le_of_ble_eq_true rfl⟩) hnw rfl hl.1 rfl (Nat.le_of_ble_eq_true rfl) dX9_allPrimes_2 ⟨Nat.le_of_ble_eq_true rfl, Nat.le_of_ble_eq_true rfl⟩ ?_
  refine lv_if_ne (tgt := 12) hx hb dX9_allPrimes_5 (by decide) (fun c5 => ?_) (fun c5 => ?_)
  · have h := if_ c5 h
    refine lv_iconst (v := 0) hx hb dX9_allPrimes_12 (by decide) ?_
    exact hj13 (0 : Int32) c_t_acts c_t_thrown f_t_forms h _ _ (hP.sub [0, 1] rfl) (hD.sub [0, 1] (by decide) rfl) hS ls (lv_sub hl [0, 1, 2] rfl)
  · have h := it_ c5 h
    refine lv_iconst (v := 1) hx hb dX9_allPrimes_8 (by decide) ?_
    refine lv_goto (tgt := 13) hx hb dX9_allPrimes_9 (by decide) ?_
    exact hj13 (1 : Int32) c_t_acts c_t_thrown f_t_forms h _ _ (hP.sub [0, 1] rfl) (hD.sub [0, 1] (by decide) rfl) hS ls (lv_sub hl [0, 1, 2] rfl)

noncomputable abbrev rmX9_checkOf : Room := { frames := 5, cells := 0, slots := 0, locals := 116 }
theorem ydX9_checkOf : yX9_checkOf.cls ≠ "java/lang/invoke/MethodHandle" ∧ yX9_checkOf.cls ≠ "java/lang/invoke/VarHandle" ∧ (parseMethodDescriptor yX9_checkOf.desc).map (fun d => d.parameters.length) = some 2 := by decide +kernel
noncomputable def F_X9_checkOf (p0 : Int64) (p1 : Int64) : Option (Int64) :=
 obn (F_X9_degreeOf p1) (fun r2 =>
 obn (F_X9_restOf (p0 <<< (r2.toInt64 &&& 63)) p1) (fun r7 =>
 some r7))
set_option maxHeartbeats 4000000 in
set_option maxRecDepth 100000 in
theorem c_X9_checkOf (l : Launch) (p0 : Int64) (p1 : Int64) (r0 : Int64) (hF : F_X9_checkOf p0 p1 = some r0) : Met l yX9_checkOf wsX9_checkOf rmX9_checkOf (va_Pc [.long p0, .long p1] NW) (k2_QcV (.long r0)) 0 0 (fun _ => False) := by
  refine Met.ofW (cc := cX9_checkOf) (maxL := 4) (ret := (some .long)) (by decide) rfl ?_
  intro p e s m args below meth c s₁ B hml hv
  obtain ⟨rfl, hnw⟩ := hv
  have hx := B.exec
  have hb := B.bytes
  have hr := B.returns
  have hts := atoms_spec (ws := wsX9_checkOf) B.pre
  have hown : s.vm.findClass RX9 = some m.cls := findClass_of_methodNamed B.named
  have hlocks := B.notSynchronized
  have hcf : CallFix _ _ _ _ _ _ _ _ _ := ⟨hx, hb, hml, hown, hts⟩
  have hl := lv_entry ([.long p0, .long p1]) (n := 4) (Nat.le_of_ble_eq_true rfl)
  rw [lg_entry_eq]
  generalize (lg_sl ([.long p0, .long p1]) ++ List.replicate (4 - (lg_sl ([.long p0, .long p1])).length) Slot.unset).toArray = ls at hl ⊢
  have hl : lv_has ls 4 [(0, .long p0), (2, .long p1)] := hl
  have h := hF
  clear hF
  unfold F_X9_checkOf at h
  refine lv_lload_n hx hb dX9_checkOf_0 rfl (lv_at hl 0 rfl) ?_
  refine lv_lload_n hx hb dX9_checkOf_1 rfl (lv_at hl 1 rfl) ?_
  obtain ⟨r2, hc2, h⟩ := obn_h h
  refine pz_callS (As := [.long p1]) (rest := [.long p0]) hcf (c_X9_degreeOf l p1 r2 hc2) (va_cwS 1 hts gX9_checkOf_X9_degreeOf rfl rfl rfl ydX9_degreeOf ⟨Nat.le_of_ble_eq_true rfl, Nat.le_of_ble_eq_true rfl⟩) hnw rfl hl.1 rfl (Nat.le_of_ble_eq_true rfl) dX9_checkOf_2 ⟨Nat.le_of_ble_eq_true rfl, Nat.le_of_ble_eq_true rfl⟩ ?_
  refine lv_lshl (v := p0 <<< (r2.toInt64 &&& 63)) hx hb dX9_checkOf_5 rfl ?_
  refine lv_lload_n hx hb dX9_checkOf_6 rfl (lv_at hl 1 rfl) ?_
  obtain ⟨r7, hc7, h⟩ := obn_h h
  refine pz_callS (As := [.long (p0 <<< (r2.toInt64 &&& 63)), .long p1]) (rest := []) hcf (c_X9_restOf l (p0 <<< (r2.toInt64 &&& 63)) p1 r7 hc7) (va_cwS 2 hts gX9_checkOf_X9_restOf rfl rfl rfl ydX9_restOf ⟨Nat.le_of_ble_eq_true rfl, Nat.le_of_ble_eq_true rfl⟩) hnw rfl hl.1 rfl (Nat.le_of_ble_eq_true rfl) dX9_checkOf_7 ⟨Nat.le_of_ble_eq_true rfl, Nat.le_of_ble_eq_true rfl⟩ ?_
  have e1 := Option.some.inj h
  subst e1
  exact W.lret hx hb hr (fun t ht _ => ⟨rfl, ht⟩) no_q dX9_checkOf_10

noncomputable abbrev rmX9_isNoSeal : Room := { frames := 3, cells := 0, slots := 0, locals := 64 }
theorem ydX9_isNoSeal : yX9_isNoSeal.cls ≠ "java/lang/invoke/MethodHandle" ∧ yX9_isNoSeal.cls ≠ "java/lang/invoke/VarHandle" ∧ (parseMethodDescriptor yX9_isNoSeal.desc).map (fun d => d.parameters.length) = some 3 := by decide +kernel
noncomputable def F_X9_isNoSeal (p0 : Int64) (p1 : Int64) (p2 : Int32) : Option (Int32) :=
 obn (F_X9_degreeOf p1) (fun r1 =>
 (if r1 < (1 : Int32) then
 some (1 : Int32)
else
 obn (F_X9_degreeOf p1) (fun r9 =>
 (if p2 < r9 then
 some (1 : Int32)
else
 obn (F_X9_degreeOf p0) (fun r18 =>
 obn (F_X9_degreeOf p1) (fun r22 =>
 (if (r18 + r22) < (40 : Int32) then
 some (0 : Int32)
else
 some (1 : Int32))))))))
set_option maxHeartbeats 4000000 in
set_option maxRecDepth 100000 in
theorem c_X9_isNoSeal (l : Launch) (p0 : Int64) (p1 : Int64) (p2 : Int32) (r0 : Int32) (hF : F_X9_isNoSeal p0 p1 p2 = some r0) : Met l yX9_isNoSeal wsX9_isNoSeal rmX9_isNoSeal (va_Pc [.long p0, .long p1, .int p2] NW) (k2_QcV (.int r0)) 0 0 (fun _ => False) := by
  refine Met.ofW (cc := cX9_isNoSeal) (maxL := 5) (ret := (some .boolean)) (by decide) rfl ?_
  intro p e s m args below meth c s₁ B hml hv
  obtain ⟨rfl, hnw⟩ := hv
  have hx := B.exec
  have hb := B.bytes
  have hr := B.returns
  have hts := atoms_spec (ws := wsX9_isNoSeal) B.pre
  have hown : s.vm.findClass RX9 = some m.cls := findClass_of_methodNamed B.named
  have hlocks := B.notSynchronized
  have hcf : CallFix _ _ _ _ _ _ _ _ _ := ⟨hx, hb, hml, hown, hts⟩
  have hl := lv_entry ([.long p0, .long p1, .int p2]) (n := 5) (Nat.le_of_ble_eq_true rfl)
  rw [lg_entry_eq]
  generalize (lg_sl ([.long p0, .long p1, .int p2]) ++ List.replicate (5 - (lg_sl ([.long p0, .long p1, .int p2])).length) Slot.unset).toArray = ls at hl ⊢
  have hl : lv_has ls 5 [(0, .long p0), (2, .long p1), (4, .int p2)] := hl
  have h := hF
  clear hF
  unfold F_X9_isNoSeal at h
  refine lv_lload_n hx hb dX9_isNoSeal_0 rfl (lv_at hl 1 rfl) ?_
  obtain ⟨r1, hc1, h⟩ := obn_h h
  refine pz_callS (As := [.long p1]) (rest := []) hcf (c_X9_degreeOf l p1 r1 hc1) (va_cwS 1 hts gX9_isNoSeal_X9_degreeOf rfl rfl rfl ydX9_degreeOf ⟨Nat.le_of_ble_eq_true rfl, Nat.le_of_ble_eq_true rfl⟩) hnw rfl hl.1 rfl (Nat.le_of_ble_eq_true rfl) dX9_isNoSeal_1 ⟨Nat.le_of_ble_eq_true rfl, Nat.le_of_ble_eq_true rfl⟩ ?_
  refine lv_iconst (v := 1) hx hb dX9_isNoSeal_4 (by decide) ?_
  refine lv_icmp_lt (tgt := 31) hx hb dX9_isNoSeal_5 (by decide) (fun c5 => ?_) (fun c5 => ?_)
  · have h := it_ c5 h
    refine lv_iconst (v := 1) hx hb dX9_isNoSeal_31 (by decide) ?_
    refine lv_goto (tgt := 36) hx hb dX9_isNoSeal_32 (by decide) ?_
    have e1 := Option.some.inj h
    subst e1
    exact W.zret hx hb hr narrow_b1 (fun t ht _ => ⟨rfl, ht⟩) no_q dX9_isNoSeal_36
  · have h := if_ c5 h
    refine lv_lload_n hx hb dX9_isNoSeal_8 rfl (lv_at hl 1 rfl) ?_
    obtain ⟨r9, hc9, h⟩ := obn_h h
    refine pz_callS (As := [.long p1]) (rest := []) hcf (c_X9_degreeOf l p1 r9 hc9) (va_cwS 1 hts gX9_isNoSeal_X9_degreeOf rfl rfl rfl ydX9_degreeOf ⟨Nat.le_of_ble_eq_true rfl, Nat.le_of_ble_eq_true rfl⟩) hnw rfl hl.1 rfl (Nat.le_of_ble_eq_true rfl) dX9_isNoSeal_9 ⟨Nat.le_of_ble_eq_true rfl, Nat.le_of_ble_eq_true rfl⟩ ?_
    refine lv_iload hx hb dX9_isNoSeal_12 (lv_at hl 2 rfl) ?_
    refine lv_icmp_gt (tgt := 31) hx hb dX9_isNoSeal_14 (by decide) (fun c14 => ?_) (fun c14 => ?_)
    · have h := it_ c14 h
      refine lv_iconst (v := 1) hx hb dX9_isNoSeal_31 (by decide) ?_
      refine lv_goto (tgt := 36) hx hb dX9_isNoSeal_32 (by decide) ?_
      have e1 := Option.some.inj h
      subst e1
      exact W.zret hx hb hr narrow_b1 (fun t ht _ => ⟨rfl, ht⟩) no_q dX9_isNoSeal_36
    · have h := if_ c14 h
      refine lv_lload_n hx hb dX9_isNoSeal_17 rfl (lv_at hl 0 rfl) ?_
      obtain ⟨r18, hc18, h⟩ := obn_h h
      refine pz_callS (As := [.long p0]) (rest := []) hcf (c_X9_degreeOf l p0 r18 hc18) (va_cwS 1 hts gX9_isNoSeal_X9_degreeOf rfl rfl rfl ydX9_degreeOf ⟨Nat.le_of_ble_eq_true rfl, Nat.le_of_ble_eq_true rfl⟩) hnw rfl hl.1 rfl (Nat.le_of_ble_eq_true rfl) dX9_isNoSeal_18 ⟨Nat.le_of_ble_eq_true rfl, Nat.le_of_ble_eq_true rfl⟩ ?_
      refine lv_lload_n hx hb dX9_isNoSeal_21 rfl (lv_at hl 1 rfl) ?_
      obtain ⟨r22, hc22, h⟩ := obn_h h
      refine pz_callS (As := [.long p1]) (rest := [.int r18]) hcf (c_X9_degreeOf l p1 r22 hc22) (va_cwS 1 hts gX9_isNoSeal_X9_degreeOf rfl rfl rfl ydX9_degreeOf ⟨Nat.le_of_ble_eq_true rfl, Nat.le_of_ble_eq_true rfl⟩) hnw rfl hl.1 rfl (Nat.le_of_ble_eq_true rfl) dX9_isNoSeal_22 ⟨Nat.le_of_ble_eq_true rfl, Nat.le_of_ble_eq_true rfl⟩ ?_
      refine lv_iadd hx hb dX9_isNoSeal_25 ?_
      refine lv_bipush (v := 40) hx hb dX9_isNoSeal_26 (by decide) ?_
      refine lv_icmp_lt (tgt := 35) hx hb dX9_isNoSeal_28 (by decide) (fun c28 => ?_) (fun c28 => ?_)
      · have h := it_ c28 h
        refine lv_iconst (v := 0) hx hb dX9_isNoSeal_35 (by decide) ?_
        have e1 := Option.some.inj h
        subst e1
        exact W.zret hx hb hr narrow_b0 (fun t ht _ => ⟨rfl, ht⟩) no_q dX9_isNoSeal_36
      · have h := if_ c28 h
        refine lv_iconst (v := 1) hx hb dX9_isNoSeal_31 (by decide) ?_
        refine lv_goto (tgt := 36) hx hb dX9_isNoSeal_32 (by decide) ?_
        have e1 := Option.some.inj h
        subst e1
        exact W.zret hx hb hr narrow_b1 (fun t ht _ => ⟨rfl, ht⟩) no_q dX9_isNoSeal_36

noncomputable abbrev rmX9_seal : Room := { frames := 6, cells := 0, slots := 0, locals := 139 }
theorem ydX9_seal : yX9_seal.cls = RX9 ∧ yX9_seal.cls ≠ "java/lang/invoke/MethodHandle" ∧ yX9_seal.cls ≠ "java/lang/invoke/VarHandle" ∧ (parseMethodDescriptor yX9_seal.desc).map (fun d => d.parameters.length) = some 3 := by decide +kernel
noncomputable def F_X9_seal (c_t_acts : Int32) (c_t_refused : Int32) (f_t_forms : Nat → Int64) (p0 : Int32) (p1 : Int32) (p2 : Int32) : Option (Int32 × Int32 × Int32 × Int32 × (Nat → Int64)) :=
 obn2 (F_X9_areNot p0 p1 p2) (fun r4 c_t_thrown_4 =>
 (if r4 = 0 then
 chk (¬ (p0 < 0 ∨ 6 ≤ p0.toNatClampNeg)) (
 chk (¬ (p1 < 0 ∨ 6 ≤ p1.toNatClampNeg)) (
 obn (F_X9_isNoSeal (f_t_forms p0.toNatClampNeg) (f_t_forms p1.toNatClampNeg) (40 : Int32)) (fun r26 =>
 (if r26 = 0 then
 chk (¬ (p0 < 0 ∨ 6 ≤ p0.toNatClampNeg)) (
 chk (¬ (p1 < 0 ∨ 6 ≤ p1.toNatClampNeg)) (
 obn (F_X9_checkOf (f_t_forms p0.toNatClampNeg) (f_t_forms p1.toNatClampNeg)) (fun r49 =>
 chk (¬ (p0 < 0 ∨ 6 ≤ p0.toNatClampNeg)) (
 chk (¬ (p1 < 0 ∨ 6 ≤ p1.toNatClampNeg)) (
 obn (F_X9_degreeOf (f_t_forms p1.toNatClampNeg)) (fun r71 =>
 chk (¬ (p2 < 0 ∨ 6 ≤ p2.toNatClampNeg)) (
 bnd (vp_updL f_t_forms p2.toNatClampNeg (((f_t_forms p0.toNatClampNeg) <<< (r71.toInt64 &&& 63)) ^^^ r49)) (fun f_t_forms_78 =>
 obn (F_X9_onesOf r49) (fun r82 =>
 obn2 (F_X9_done c_t_acts r82) (fun r85 c_t_acts_85 =>
 some (r85, c_t_acts_85, c_t_refused, c_t_thrown_4, f_t_forms_78)))))))))))
else
 obn2 (F_X9_no c_t_refused) (fun r33 c_t_refused_33 =>
 some (r33, c_t_acts, c_t_refused_33, c_t_thrown_4, f_t_forms))))))
else
 some ((0 : Int32), c_t_acts, c_t_refused, c_t_thrown_4, f_t_forms)))
set_option maxHeartbeats 4000000 in
set_option maxRecDepth 100000 in
theorem c_X9_seal (l : Launch) (D : va_G) (cyJ : ClassId) (sz : Nat) (a_t : Nat) (a_t_forms : Nat) (a_t_roll : Nat) (c_t_many : Int32) (c_t_taps : Int64) (c_t_cells : Int32) (c_t_acts : Int32) (c_t_refused : Int32) (c_t_knocks : Int32) (c_t_thrown : Int32) (f_t_forms : Nat → Int64) (p0 : Int32) (p1 : Int32) (p2 : Int32) (r0 : Int32) (o_c_t_acts : Int32) (o_c_t_refused : Int32) (o_c_t_thrown : Int32) (o_f_t_forms : Nat → Int64) (hF : F_X9_seal c_t_acts c_t_refused f_t_forms p0 p1 p2 = some (r0, o_c_t_acts, o_c_t_refused, o_c_t_thrown, o_f_t_forms)) : Met l yX9_seal wsX9_seal rmX9_seal (va_Pc [.ref a_t, .int p0, .int p1, .int p2] (wPD D [(cyJ, .long)] [(a_t, .inr (8, [.ref a_t_forms, .ref a_t_roll, .int c_t_many, .long c_t_taps, .int c_t_cells, .int c_t_acts, .int c_t_refused, .int c_t_knocks, .int c_t_thrown])), (a_t_forms, .inl (cyJ, 6, .inr (.inl f_t_forms)))] sz)) (va_Qi (fun (r : Int32) (_ : Unit) => r = r0) (fun _ t => wQA D [(a_t, .inr (8, [.ref a_t_forms, .ref a_t_roll, .int c_t_many, .long c_t_taps, .int c_t_cells, .int o_c_t_acts, .int o_c_t_refused, .int c_t_knocks, .int o_c_t_thrown])), (a_t_forms, .inl (cyJ, 6, .inr (.inl o_f_t_forms)))] (va_A [(a_t, .inr (8, [.ref a_t_forms, .ref a_t_roll, .int c_t_many, .long c_t_taps, .int c_t_cells, .int c_t_acts, .int c_t_refused, .int c_t_knocks, .int c_t_thrown])), (a_t_forms, .inl (cyJ, 6, .inr (.inl f_t_forms)))] sz) t) (va_A [(a_t, .inr (8, [.ref a_t_forms, .ref a_t_roll, .int c_t_many, .long c_t_taps, .int c_t_cells, .int c_t_acts, .int c_t_refused, .int c_t_knocks, .int c_t_thrown])), (a_t_forms, .inl (cyJ, 6, .inr (.inl f_t_forms)))] sz)) 0 0 (va_A [(a_t, .inr (8, [.ref a_t_forms, .ref a_t_roll, .int c_t_many, .long c_t_taps, .int c_t_cells, .int c_t_acts, .int c_t_refused, .int c_t_knocks, .int c_t_thrown])), (a_t_forms, .inl (cyJ, 6, .inr (.inl f_t_forms)))] sz) := by
  refine Met.ofW (cc := cX9_seal) (maxL := 6) (ret := (some .int)) (by decide) rfl ?_
  intro p e s m args below meth c s₁ B hml hv
  obtain ⟨rfl, hsz, hP, hK, hD0, hnw⟩ := hv
  have hx := B.exec
  have hb := B.bytes
  have hr := B.returns
  have hts := atoms_spec (ws := wsX9_seal) B.pre
  have hown : s.vm.findClass RX9 = some m.cls := findClass_of_methodNamed B.named
  have hlocks := B.notSynchronized
  have hcf : CallFix _ _ _ _ _ _ _ _ _ := ⟨hx, hb, hml, hown, hts⟩
  have hinX9 : ∀ w ∈ u_ws RX9 TX9 9, w ∈ wsX9_seal := by decide +kernel
  have hfl9 := hts (.fieldLink RX9 9 "FormwheelModel" "forms" "[J") (by decide +kernel)
  subst hsz
  have hD := hD0.self (sz := s.heap.size)
  generalize hAe : va_A [(a_t, .inr (8, [.ref a_t_forms, .ref a_t_roll, .int c_t_many, .long c_t_taps, .int c_t_cells, .int c_t_acts, .int c_t_refused, .int c_t_knocks, .int c_t_thrown])), (a_t_forms, .inl (cyJ, 6, .inr (.inl f_t_forms)))] s.heap.size = A at hD ⊢
  have hA : ∀ q : Nat, s.heap.size ≤ q → A q := fun q h => by rw [← hAe]; exact Or.inr h
  have hS : va_S A s.heap s.heap [] := va_S.rf
  have hP : va_P D vwCl [(a_t, .inr (8, [.ref a_t_forms, .ref a_t_roll, .int c_t_many, .long c_t_taps, .int c_t_cells, .int c_t_acts, .int c_t_refused, .int c_t_knocks, .int c_t_thrown])), (a_t_forms, .inl (cyJ, 6, .inr (.inl f_t_forms)))] s.heap := hP
  have hK0 := hK
  have hl := lv_entry ([.ref a_t, .int p0, .int p1, .int p2]) (n := 6) (Nat.le_of_ble_eq_true rfl)
  rw [lg_entry_eq]
  generalize (lg_sl ([.ref a_t, .int p0, .int p1, .int p2]) ++ List.replicate (6 - (lg_sl ([.ref a_t, .int p0, .int p1, .int p2])).length) Slot.unset).toArray = ls at hl ⊢
  have hl : lv_has ls 6 [(0, .ref a_t), (1, .int p0), (2, .int p1), (3, .int p2)] := hl
  have h := hF
  clear hF
  unfold F_X9_seal at h
  refine lv_aload_n hx hb dX9_seal_0 rfl (lv_at hl 0 rfl) ?_
  refine lv_iload_n hx hb dX9_seal_1 rfl (lv_at hl 1 rfl) ?_
  refine lv_iload_n hx hb dX9_seal_2 rfl (lv_at hl 2 rfl) ?_
  refine lv_iload_n hx hb dX9_seal_3 rfl (lv_at hl 3 rfl) ?_
  obtain ⟨r4, c_t_thrown_4, hc4, h⟩ := obn2_h h
  have hPc := hP.sub (ws' := [(a_t, .inr (8, [.ref a_t_forms, .ref a_t_roll, .int c_t_many, .long c_t_taps, .int c_t_cells, .int c_t_acts, .int c_t_refused, .int c_t_knocks, .int c_t_thrown]))]) [0] rfl
  have hDc := hD.sub (ws' := [(a_t, .inr (8, [.ref a_t_forms, .ref a_t_roll, .int c_t_many, .long c_t_taps, .int c_t_cells, .int c_t_acts, .int c_t_refused, .int c_t_knocks, .int c_t_thrown]))]) [0] (by decide) rfl
  refine hp_i (w1 := [(a_t, .inr (8, [.ref a_t_forms, .ref a_t_roll, .int c_t_many, .long c_t_taps, .int c_t_cells, .int c_t_acts, .int c_t_refused, .int c_t_knocks, .int c_t_thrown_4]))]) (wr := [(a_t_forms, .inl (cyJ, 6, .inr (.inl f_t_forms)))]) (va_runV (As := [.int p0, .int p1, .int p2]) (rest := []) hcf (c_X9_areNot l D cyJ s.heap.size a_t a_t_forms a_t_roll c_t_many c_t_taps c_t_cells c_t_acts c_t_refused c_t_knocks c_t_thrown p0 p1 p2 r4 c_t_thrown_4 hc4) (cwV 3 hts gX9_seal_X9_areNot rfl rfl rfl ydX9_areNot ⟨Nat.le_of_ble_eq_true rfl, Nat.le_of_ble_eq_true rfl⟩) ⟨bl_PD, va_recv hK hP (ci := 8) (q0 := 0) rfl rfl, pr_PD hPc hK0 hDc hnw⟩ rfl rfl hl.1 rfl (lv_room (Nat.le_of_ble_eq_true rfl)) dX9_seal_4 ⟨Nat.le_of_ble_eq_true rfl, Nat.le_of_ble_eq_true rfl⟩) hP hD hS hA [0] [1] rfl rfl (by decide) (by decide) (fun H locs hP hD hS => ?_)
  have hP : va_P D vwCl [(a_t_forms, .inl (cyJ, 6, .inr (.inl f_t_forms))), (a_t, .inr (8, [.ref a_t_forms, .ref a_t_roll, .int c_t_many, .long c_t_taps, .int c_t_cells, .int c_t_acts, .int c_t_refused, .int c_t_knocks, .int c_t_thrown_4]))] H := hP
  have hD : va_D A [(a_t_forms, .inl (cyJ, 6, .inr (.inl f_t_forms))), (a_t, .inr (8, [.ref a_t_forms, .ref a_t_roll, .int c_t_many, .long c_t_taps, .int c_t_cells, .int c_t_acts, .int c_t_refused, .int c_t_knocks, .int c_t_thrown_4]))] := hD
  refine lv_if_eq (tgt := 12) hx hb dX9_seal_7 (by decide) (fun c7 => ?_) (fun c7 => ?_)
  · have h := it_ c7 h
    refine lv_aload_n hx hb dX9_seal_12 rfl (lv_at hl 0 rfl) ?_
    refine va_get (D := D) (ci := 8) (v := .ref a_t_forms) (C := RX9) (T := TX9) (N := 9) hx hb hts hinX9 hown hK hP 1 rfl rfl 0 (by decide) hfl9 (fun _ h9 => h9) rfl dX9_seal_13 ?_
    refine lv_iload_n hx hb dX9_seal_16 rfl (lv_at hl 1 rfl) ?_
    obtain ⟨hq17, h⟩ := chk_h h
    refine va_lald hx hb hK hP 0 0 rfl rfl hq17 dX9_seal_17 ?_
    refine lv_aload_n hx hb dX9_seal_18 rfl (lv_at hl 0 rfl) ?_
    refine va_get (D := D) (ci := 8) (v := .ref a_t_forms) (C := RX9) (T := TX9) (N := 9) hx hb hts hinX9 hown hK hP 1 rfl rfl 0 (by decide) hfl9 (fun _ h9 => h9) rfl dX9_seal_19 ?_
    refine lv_iload_n hx hb dX9_seal_22 rfl (lv_at hl 2 rfl) ?_
    obtain ⟨hq23, h⟩ := chk_h h
    refine va_lald hx hb hK hP 0 0 rfl rfl hq23 dX9_seal_23 ?_
    refine lv_bipush (v := 40) hx hb dX9_seal_24 (by decide) ?_
    obtain ⟨r26, hc26, h⟩ := obn_h h
    refine pz_callS (As := [.long (f_t_forms p0.toNatClampNeg), .long (f_t_forms p1.toNatClampNeg), .int (40 : Int32)]) (rest := []) hcf (c_X9_isNoSeal l (f_t_forms p0.toNatClampNeg) (f_t_forms p1.toNatClampNeg) (40 : Int32) r26 hc26) (va_cwS 3 hts gX9_seal_X9_isNoSeal rfl rfl rfl ydX9_isNoSeal ⟨Nat.le_of_ble_eq_true rfl, Nat.le_of_ble_eq_true rfl⟩) hnw rfl hl.1 rfl (Nat.le_of_ble_eq_true rfl) dX9_seal_26 ⟨Nat.le_of_ble_eq_true rfl, Nat.le_of_ble_eq_true rfl⟩ ?_
    refine lv_if_eq (tgt := 37) hx hb dX9_seal_29 (by decide) (fun c29 => ?_) (fun c29 => ?_)
    · have h := it_ c29 h
      refine lv_aload_n hx hb dX9_seal_37 rfl (lv_at hl 0 rfl) ?_
      refine va_get (D := D) (ci := 8) (v := .ref a_t_forms) (C := RX9) (T := TX9) (N := 9) hx hb hts hinX9 hown hK hP 1 rfl rfl 0 (by decide) hfl9 (fun _ h9 => h9) rfl dX9_seal_38 ?_
      refine lv_iload_n hx hb dX9_seal_41 rfl (lv_at hl 1 rfl) ?_
      obtain ⟨hq42, h⟩ := chk_h h
      refine va_lald hx hb hK hP 0 0 rfl rfl hq42 dX9_seal_42 ?_
      refine lv_aload_n hx hb dX9_seal_43 rfl (lv_at hl 0 rfl) ?_
      refine va_get (D := D) (ci := 8) (v := .ref a_t_forms) (C := RX9) (T := TX9) (N := 9) hx hb hts hinX9 hown hK hP 1 rfl rfl 0 (by decide) hfl9 (fun _ h9 => h9) rfl dX9_seal_44 ?_
      refine lv_iload_n hx hb dX9_seal_47 rfl (lv_at hl 2 rfl) ?_
      obtain ⟨hq48, h⟩ := chk_h h
      refine va_lald hx hb hK hP 0 0 rfl rfl hq48 dX9_seal_48 ?_
      obtain ⟨r49, hc49, h⟩ := obn_h h
      refine pz_callS (As := [.long (f_t_forms p0.toNatClampNeg), .long (f_t_forms p1.toNatClampNeg)]) (rest := []) hcf (c_X9_checkOf l (f_t_forms p0.toNatClampNeg) (f_t_forms p1.toNatClampNeg) r49 hc49) (va_cwS 2 hts gX9_seal_X9_checkOf rfl rfl rfl ydX9_checkOf ⟨Nat.le_of_ble_eq_true rfl, Nat.le_of_ble_eq_true rfl⟩) hnw rfl hl.1 rfl (Nat.le_of_ble_eq_true rfl) dX9_seal_49 ⟨Nat.le_of_ble_eq_true rfl, Nat.le_of_ble_eq_true rfl⟩ ?_
      refine lv_lstore (lv' := [(4, .long r49), (0, .ref a_t), (1, .int p0), (2, .int p1), (3, .int p2)]) hx hb dX9_seal_52 hl (by decide) rfl (fun ls hl => ?_)
      refine lv_aload_n hx hb dX9_seal_54 rfl (lv_at hl 1 rfl) ?_
      refine va_get (D := D) (ci := 8) (v := .ref a_t_forms) (C := RX9) (T := TX9) (N := 9) hx hb hts hinX9 hown hK hP 1 rfl rfl 0 (by decide) hfl9 (fun _ h9 => h9) rfl dX9_seal_55 ?_
      refine lv_iload_n hx hb dX9_seal_58 rfl (lv_at hl 4 rfl) ?_
      refine lv_aload_n hx hb dX9_seal_59 rfl (lv_at hl 1 rfl) ?_
      refine va_get (D := D) (ci := 8) (v := .ref a_t_forms) (C := RX9) (T := TX9) (N := 9) hx hb hts hinX9 hown hK hP 1 rfl rfl 0 (by decide) hfl9 (fun _ h9 => h9) rfl dX9_seal_60 ?_
      refine lv_iload_n hx hb dX9_seal_63 rfl (lv_at hl 2 rfl) ?_
      obtain ⟨hq64, h⟩ := chk_h h
      refine va_lald hx hb hK hP 0 0 rfl rfl hq64 dX9_seal_64 ?_
      refine lv_aload_n hx hb dX9_seal_65 rfl (lv_at hl 1 rfl) ?_
      refine va_get (D := D) (ci := 8) (v := .ref a_t_forms) (C := RX9) (T := TX9) (N := 9) hx hb hts hinX9 hown hK hP 1 rfl rfl 0 (by decide) hfl9 (fun _ h9 => h9) rfl dX9_seal_66 ?_
      refine lv_iload_n hx hb dX9_seal_69 rfl (lv_at hl 3 rfl) ?_
      obtain ⟨hq70, h⟩ := chk_h h
      refine va_lald hx hb hK hP 0 0 rfl rfl hq70 dX9_seal_70 ?_
      obtain ⟨r71, hc71, h⟩ := obn_h h
      refine pz_callS (As := [.long (f_t_forms p1.toNatClampNeg)]) (rest := [.long (f_t_forms p0.toNatClampNeg), .int p2, .ref a_t_forms]) hcf (c_X9_degreeOf l (f_t_forms p1.toNatClampNeg) r71 hc71) (va_cwS 1 hts gX9_seal_X9_degreeOf rfl rfl rfl ydX9_degreeOf ⟨Nat.le_of_ble_eq_true rfl, Nat.le_of_ble_eq_true rfl⟩) hnw rfl hl.1 rfl (Nat.le_of_ble_eq_true rfl) dX9_seal_71 ⟨Nat.le_of_ble_eq_true rfl, Nat.le_of_ble_eq_true rfl⟩ ?_
      refine lv_lshl (v := (f_t_forms p0.toNatClampNeg) <<< (r71.toInt64 &&& 63)) hx hb dX9_seal_74 rfl ?_
      refine lv_lload hx hb dX9_seal_75 (lv_at hl 0 rfl) ?_
      refine lv_lxor hx hb dX9_seal_77 ?_
      obtain ⟨hq78, h⟩ := chk_h h
      refine va_last hx hb hK hP hD hS 0 0 rfl rfl hq78 dX9_seal_78 (fun H locs hP hD hS => ?_)
      obtain ⟨f_t_forms_78, e_f_t_forms_78⟩ : ∃ z, z = vp_updL f_t_forms p2.toNatClampNeg (((f_t_forms p0.toNatClampNeg) <<< (r71.toInt64 &&& 63)) ^^^ r49) := ⟨_, rfl⟩
      have h := bnd_h e_f_t_forms_78 h
      have hP : va_P D vwCl [(a_t_forms, .inl (cyJ, 6, .inr (.inl f_t_forms_78))), (a_t, .inr (8, [.ref a_t_forms, .ref a_t_roll, .int c_t_many, .long c_t_taps, .int c_t_cells, .int c_t_acts, .int c_t_refused, .int c_t_knocks, .int c_t_thrown_4]))] H := by rw [e_f_t_forms_78]; exact hP
      have hD : va_D A [(a_t_forms, .inl (cyJ, 6, .inr (.inl f_t_forms_78))), (a_t, .inr (8, [.ref a_t_forms, .ref a_t_roll, .int c_t_many, .long c_t_taps, .int c_t_cells, .int c_t_acts, .int c_t_refused, .int c_t_knocks, .int c_t_thrown_4]))] := by rw [e_f_t_forms_78]; exact hD
      refine lv_aload_n hx hb dX9_seal_79 rfl (lv_at hl 1 rfl) ?_
      refine lv_lload hx hb dX9_seal_80 (lv_at hl 0 rfl) ?_
      obtain ⟨r82, hc82, h⟩ := obn_h h
      refine pz_callS (As := [.long r49]) (rest := [.ref a_t]) hcf (c_X9_onesOf l r49 r82 hc82) (va_cwS 1 hts gX9_seal_X9_onesOf rfl rfl rfl ydX9_onesOf ⟨Nat.le_of_ble_eq_true rfl, Nat.le_of_ble_eq_true rfl⟩) hnw rfl hl.1 rfl (Nat.le_of_ble_eq_true rfl) dX9_seal_82 ⟨Nat.le_of_ble_eq_true rfl, Nat.le_of_ble_eq_true rfl⟩ ?_
      obtain ⟨r85, c_t_acts_85, hc85, h⟩ := obn2_h h
      have hPc := hP.sub (ws' := [(a_t, .inr (8, [.ref a_t_forms, .ref a_t_roll, .int c_t_many, .long c_t_taps, .int c_t_cells, .int c_t_acts, .int c_t_refused, .int c_t_knocks, .int c_t_thrown_4]))]) [1] rfl
      have hDc := hD.sub (ws' := [(a_t, .inr (8, [.ref a_t_forms, .ref a_t_roll, .int c_t_many, .long c_t_taps, .int c_t_cells, .int c_t_acts, .int c_t_refused, .int c_t_knocks, .int c_t_thrown_4]))]) [1] (by decide) rfl
      refine hp_i (w1 := [(a_t, .inr (8, [.ref a_t_forms, .ref a_t_roll, .int c_t_many, .long c_t_taps, .int c_t_cells, .int c_t_acts_85, .int c_t_refused, .int c_t_knocks, .int c_t_thrown_4]))]) (wr := [(a_t_forms, .inl (cyJ, 6, .inr (.inl f_t_forms_78)))]) (va_runV (As := [.int r82]) (rest := []) hcf (c_X9_done l D cyJ H.size a_t a_t_forms a_t_roll c_t_many c_t_taps c_t_cells c_t_acts c_t_refused c_t_knocks c_t_thrown_4 r82 r85 c_t_acts_85 hc85) (cwV 1 hts gX9_seal_X9_done rfl rfl rfl ydX9_done ⟨Nat.le_of_ble_eq_true rfl, Nat.le_of_ble_eq_true rfl⟩) ⟨bl_PD, va_recv hK hP (ci := 8) (q0 := 1) rfl rfl, pr_PD hPc hK0 hDc hnw⟩ rfl rfl hl.1 rfl (lv_room (Nat.le_of_ble_eq_true rfl)) dX9_seal_85 ⟨Nat.le_of_ble_eq_true rfl, Nat.le_of_ble_eq_true rfl⟩) hP hD hS hA [1] [0] rfl rfl (by decide) (by decide) (fun H locs hP hD hS => ?_)
      have hP : va_P D vwCl [(a_t_forms, .inl (cyJ, 6, .inr (.inl f_t_forms_78))), (a_t, .inr (8, [.ref a_t_forms, .ref a_t_roll, .int c_t_many, .long c_t_taps, .int c_t_cells, .int c_t_acts_85, .int c_t_refused, .int c_t_knocks, .int c_t_thrown_4]))] H := hP
      have hD : va_D A [(a_t_forms, .inl (cyJ, 6, .inr (.inl f_t_forms_78))), (a_t, .inr (8, [.ref a_t_forms, .ref a_t_roll, .int c_t_many, .long c_t_taps, .int c_t_cells, .int c_t_acts_85, .int c_t_refused, .int c_t_knocks, .int c_t_thrown_4]))] := hD
      obtain ⟨e0, e1, e2, e3, e4⟩ := tup5 h
      subst e0
      subst e1
      subst e2
      subst e3
      subst e4
      have hP9 : va_P D vwCl [(a_t, .inr (8, [.ref a_t_forms, .ref a_t_roll, .int c_t_many, .long c_t_taps, .int c_t_cells, .int c_t_acts_85, .int c_t_refused, .int c_t_knocks, .int c_t_thrown_4])), (a_t_forms, .inl (cyJ, 6, .inr (.inl f_t_forms_78)))] H := hP.sub [1, 0] rfl
      have hD9 : va_D A [(a_t, .inr (8, [.ref a_t_forms, .ref a_t_roll, .int c_t_many, .long c_t_taps, .int c_t_cells, .int c_t_acts_85, .int c_t_refused, .int c_t_knocks, .int c_t_thrown_4])), (a_t_forms, .inl (cyJ, 6, .inr (.inl f_t_forms_78)))] := hD.sub [1, 0] (by decide) rfl
      exact W.iret hx hb hr (fun t ht hW => ⟨⟨_, (), rfl, rfl, wQA_of ht hP9 hD9⟩, hS.F ht⟩) hS.2.2 dX9_seal_88
    · have h := if_ c29 h
      refine lv_aload_n hx hb dX9_seal_32 rfl (lv_at hl 0 rfl) ?_
      obtain ⟨r33, c_t_refused_33, hc33, h⟩ := obn2_h h
      have hPc := hP.sub (ws' := [(a_t, .inr (8, [.ref a_t_forms, .ref a_t_roll, .int c_t_many, .long c_t_taps, .int c_t_cells, .int c_t_acts, .int c_t_refused, .int c_t_knocks, .int c_t_thrown_4]))]) [1] rfl
      have hDc := hD.sub (ws' := [(a_t, .inr (8, [.ref a_t_forms, .ref a_t_roll, .int c_t_many, .long c_t_taps, .int c_t_cells, .int c_t_acts, .int c_t_refused, .int c_t_knocks, .int c_t_thrown_4]))]) [1] (by decide) rfl
      refine hp_i (w1 := [(a_t, .inr (8, [.ref a_t_forms, .ref a_t_roll, .int c_t_many, .long c_t_taps, .int c_t_cells, .int c_t_acts, .int c_t_refused_33, .int c_t_knocks, .int c_t_thrown_4]))]) (wr := [(a_t_forms, .inl (cyJ, 6, .inr (.inl f_t_forms)))]) (va_runV (As := []) (rest := []) hcf (c_X9_no l D cyJ H.size a_t a_t_forms a_t_roll c_t_many c_t_taps c_t_cells c_t_acts c_t_refused c_t_knocks c_t_thrown_4 r33 c_t_refused_33 hc33) (cwV 0 hts gX9_seal_X9_no rfl rfl rfl ydX9_no ⟨Nat.le_of_ble_eq_true rfl, Nat.le_of_ble_eq_true rfl⟩) ⟨bl_PD, va_recv hK hP (ci := 8) (q0 := 1) rfl rfl, pr_PD hPc hK0 hDc hnw⟩ rfl rfl hl.1 rfl (lv_room (Nat.le_of_ble_eq_true rfl)) dX9_seal_33 ⟨Nat.le_of_ble_eq_true rfl, Nat.le_of_ble_eq_true rfl⟩) hP hD hS hA [1] [0] rfl rfl (by decide) (by decide) (fun H locs hP hD hS => ?_)
      have hP : va_P D vwCl [(a_t_forms, .inl (cyJ, 6, .inr (.inl f_t_forms))), (a_t, .inr (8, [.ref a_t_forms, .ref a_t_roll, .int c_t_many, .long c_t_taps, .int c_t_cells, .int c_t_acts, .int c_t_refused_33, .int c_t_knocks, .int c_t_thrown_4]))] H := hP
      have hD : va_D A [(a_t_forms, .inl (cyJ, 6, .inr (.inl f_t_forms))), (a_t, .inr (8, [.ref a_t_forms, .ref a_t_roll, .int c_t_many, .long c_t_taps, .int c_t_cells, .int c_t_acts, .int c_t_refused_33, .int c_t_knocks, .int c_t_thrown_4]))] := hD
      obtain ⟨e0, e1, e2, e3, e4⟩ := tup5 h
      subst e0
      subst e1
      subst e2
      subst e3
      subst e4
      have hP9 : va_P D vwCl [(a_t, .inr (8, [.ref a_t_forms, .ref a_t_roll, .int c_t_many, .long c_t_taps, .int c_t_cells, .int c_t_acts, .int c_t_refused_33, .int c_t_knocks, .int c_t_thrown_4])), (a_t_forms, .inl (cyJ, 6, .inr (.inl f_t_forms)))] H := hP.sub [1, 0] rfl
      have hD9 : va_D A [(a_t, .inr (8, [.ref a_t_forms, .ref a_t_roll, .int c_t_many, .long c_t_taps, .int c_t_cells, .int c_t_acts, .int c_t_refused_33, .int c_t_knocks, .int c_t_thrown_4])), (a_t_forms, .inl (cyJ, 6, .inr (.inl f_t_forms)))] := hD.sub [1, 0] (by decide) rfl
      exact W.iret hx hb hr (fun t ht hW => ⟨⟨_, (), rfl, rfl, wQA_of ht hP9 hD9⟩, hS.F ht⟩) hS.2.2 dX9_seal_36
  · have h := if_ c7 h
    refine lv_iconst (v := 0) hx hb dX9_seal_10 (by decide) ?_
    obtain ⟨e0, e1, e2, e3, e4⟩ := tup5 h
    subst e0
    subst e1
    subst e2
    subst e3
    subst e4
    have hP9 : va_P D vwCl [(a_t, .inr (8, [.ref a_t_forms, .ref a_t_roll, .int c_t_many, .long c_t_taps, .int c_t_cells, .int c_t_acts, .int c_t_refused, .int c_t_knocks, .int c_t_thrown_4])), (a_t_forms, .inl (cyJ, 6, .inr (.inl f_t_forms)))] H := hP.sub [1, 0] rfl
    have hD9 : va_D A [(a_t, .inr (8, [.ref a_t_forms, .ref a_t_roll, .int c_t_many, .long c_t_taps, .int c_t_cells, .int c_t_acts, .int c_t_refused, .int c_t_knocks, .int c_t_thrown_4])), (a_t_forms, .inl (cyJ, 6, .inr (.inl f_t_forms)))] := hD.sub [1, 0] (by decide) rfl
    exact W.iret hx hb hr (fun t ht hW => ⟨⟨_, (), rfl, rfl, wQA_of ht hP9 hD9⟩, hS.F ht⟩) hS.2.2 dX9_seal_11
