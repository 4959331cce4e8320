theorem nwL_tbl : ∀ w ∈ nwL, w ∈ lw_tbl := by decide +kernel
theorem cstL_tbl : ∀ w ∈ cstL, w ∈ lw_tbl := by decide +kernel
theorem cstL_on : ∀ w ∈ cstL, w.onTables = true := by decide +kernel
noncomputable def kTm (i : Nat) : Term := if i = 0 then .string "FormwheelModel" 144 else .string "FormwheelModel" 146
noncomputable def lwF : List Cond := flatC (Jvm.Cond.and given_1 narrow_1)
theorem st_1 : ∀ i, i < 2 → Cond.exactly (kTm i) "java/lang/String" ∈ lwF := by decide +kernel
theorem st_2 : ∀ i, i < 2 → Cond.eq (.field (kTm i) "java/lang/String" "coder" "B") (.int 0) ∈ lwF := by decide +kernel
theorem st_3 : ∀ i, i < 2 → Cond.arrayOf (.field (kTm i) "java/lang/String" "value" "[B") .byte ∈ lwF := by decide +kernel
theorem st_4 : ∀ i, i < 2 → Cond.eq (.length (.field (kTm i) "java/lang/String" "value" "[B")) (.int (Int32.ofNat (kLen.getD i 0))) ∈ lwF := by decide +kernel
theorem st_5 : ∀ i, i < 2 → ∀ j, j < kLen.getD i 0 → Cond.eq (.elem (.field (kTm i) "java/lang/String" "value" "[B") (.int (Int32.ofNat j))) (.int ((kByt.getD i []).getD j 0)) ∈ lwF := by decide +kernel
theorem st_6 : Cond.not (.eq (kTm 0) (kTm 1)) ∈ lwF := by decide +kernel
theorem dt_1i : ∀ j, j < 100 → lwF[14 + j]? = some (Cond.eq (.elem (.static "java/lang/Integer" "DigitOnes" "[B") (.int (Int32.ofNat j))) (.int (dig1 j))) := by decide +kernel
theorem dt_1 : ∀ j, j < 100 → Cond.eq (.elem (.static "java/lang/Integer" "DigitOnes" "[B") (.int (Int32.ofNat j))) (.int (dig1 j)) ∈ lwF := fun j hj => List.mem_of_getElem? (i := 14 + j) (dt_1i j hj)
theorem dt_2i : ∀ j, j < 100 → lwF[117 + j]? = some (Cond.eq (.elem (.static "java/lang/Integer" "DigitTens" "[B") (.int (Int32.ofNat j))) (.int (dig2 j))) := by decide +kernel
theorem dt_2 : ∀ j, j < 100 → Cond.eq (.elem (.static "java/lang/Integer" "DigitTens" "[B") (.int (Int32.ofNat j))) (.int (dig2 j)) ∈ lwF := fun j hj => List.mem_of_getElem? (i := 117 + j) (dt_2i j hj)
theorem law_arr {args : Array Value} {s : State} {ty : FieldType} (hty : ∀ C, ty ≠ .object C) (h : (Cond.arrayClass ty).before args s = true) : ∃ cA : ClassId, ArrOfT s cA ty ∧ va_RA s cA ty := by
  obtain ⟨cA, kA, comp, h1, h2, h3⟩ := Cond.arrayClass_spec h
  refine ⟨cA, fun n z => ⟨fun k h => (by cases h), kA, h2, comp, h3⟩, ?_⟩
  cases ty with
  | object C => exact absurd rfl (hty C)
  | _ => exact h1
set_option maxHeartbeats 4000000 in
set_option maxRecDepth 100000 in
theorem law_env {p : Program} {l : Launch} {s : State} {m : MethodId} {meth : Method} {c : Code} {b L : Nat} {xs : Nat → Int32} (hflags : l.flags = flags0) (C0 : lw_At p s m meth c b L xs) : ∃ (D : va_G) (cyJ cyB : ClassId) (adK adV : Nat → Nat), LC p l s m meth c b L xs D cyJ cyB adK adV := by
  obtain ⟨hx, hb, hr, hml, hown, hts, hX, hbl, hlocks, hgv⟩ := id C0
  have hv : ∀ w ∈ lwF, w.before #[Value.ref b] s = true := flat_of_before _ hgv
  have hA : ∀ a : Nat, a < s.heap.size → ¬ (fun q : Nat => s.heap.size ≤ q) a := fun a h => Nat.not_le.mpr h
  obtain ⟨c0, i0, k0⟩ := u_known (C := RJ0) (T := TJ0) (N := 4) (n := 4) (lw_tbx_b hts) inJ0 (hts (.instantiable RJ0 4) (by decide +kernel))
  obtain ⟨c1, i1, k1⟩ := u_known (C := RJ4) (T := TJ4) (N := 4) (n := 4) (lw_tbx_b hts) inJ4 (hts (.instantiable RJ4 4) (by decide +kernel))
  obtain ⟨c2, i2, k2⟩ := u_known (C := RX1) (T := TX1) (N := 1) (n := 1) (lw_tbx_b hts) inX1 (hts (.instantiable RX1 1) (by decide +kernel))
  obtain ⟨c3, i3, k3⟩ := u_known (C := RX3) (T := TX3) (N := 3) (n := 3) (lw_tbx_b hts) inX3 (hts (.instantiable RX3 3) (by decide +kernel))
  obtain ⟨c4, i4, k4⟩ := u_known (C := RX4) (T := TX4) (N := 6) (n := 6) (lw_tbx_b hts) inX4 (hts (.instantiable RX4 6) (by decide +kernel))
  obtain ⟨c5, i5, k5⟩ := u_known (C := RX5) (T := TX5) (N := 2) (n := 2) (lw_tbx_b hts) inX5 (hts (.instantiable RX5 2) (by decide +kernel))
  obtain ⟨c6, i6, k6⟩ := u_known (C := RX7) (T := TX7) (N := 10) (n := 10) (lw_tbx_b hts) inX7 (hts (.instantiable RX7 10) (by decide +kernel))
  obtain ⟨c7, i7, k7⟩ := u_known (C := RX8) (T := TX8) (N := 2) (n := 2) (lw_tbx_b hts) inX8 (hts (.instantiable RX8 2) (by decide +kernel))
  obtain ⟨c8, i8, k8⟩ := u_known (C := RX9) (T := TX9) (N := 9) (n := 9) (lw_tbx_b hts) inX9 (hts (.instantiable RX9 9) (by decide +kernel))
  obtain ⟨cyJ, hj1, hj2⟩ := law_arr (ty := .long) (fun _ h => by cases h) (hts (.arrayClass .long) (by decide +kernel))
  obtain ⟨cyB, hb1, hb2⟩ := law_arr (ty := .byte) (fun _ h => by cases h) (hts (.arrayClass .byte) (by decide +kernel))
  obtain ⟨D, hKc⟩ : ∃ D : va_G, ∀ (k : Nat) (q : vw_C), vwCl[k]? = some q → u_Kn s q.1 q.2.1 q.2.2 (D.1 k) (D.2 k) := by
    refine ⟨(fun k => if k = 0 then c0 else if k = 1 then c1 else if k = 2 then c2 else if k = 3 then c3 else if k = 4 then c4 else if k = 5 then c5 else if k = 6 then c6 else if k = 7 then c7 else c8, fun k => if k = 0 then i0 else if k = 1 then i1 else if k = 2 then i2 else if k = 3 then i3 else if k = 4 then i4 else if k = 5 then i5 else if k = 6 then i6 else if k = 7 then i7 else i8), ?_⟩
    intro k q hq
    match k, hq with
    | 0, hq => cases hq; exact k0
    | 1, hq => cases hq; exact k1
    | 2, hq => cases hq; exact k2
    | 3, hq => cases hq; exact k3
    | 4, hq => cases hq; exact k4
    | 5, hq => cases hq; exact k5
    | 6, hq => cases hq; exact k6
    | 7, hq => cases hq; exact k7
    | 8, hq => cases hq; exact k8
    | k + 9, hq => simp [vwCl] at hq
  have hK : va_K D vwCl [(cyJ, .long), (cyB, .byte)] s := ⟨hKc, fun k q h => by
    match k, h with
    | 0, h => cases h; exact ⟨hj1, hj2⟩
    | 1, h => cases h; exact ⟨hb1, hb2⟩
    | k + 2, h => simp at h⟩
  have hnw : NW s := fun w hw => va_Nw.of (nwL_on w hw) (hts w (nwL_tbl w hw))
  have str : ∀ (own : String) (k : Nat) (tx : String), Cond.exactly (.string own k) "java/lang/String" ∈ lwF → Cond.stringRef own k tx ∈ lw_tbl → ∃ sa : Nat, vk_R own k tx sa s := fun own k tx h1 h2 => by
    obtain ⟨a, _, _, _, q1, -⟩ := Cond.exactly_spec (hv _ h1)
    exact ⟨a, vk_R.of (hts _ h2) q1⟩
  have hE : EW (fun q : Nat => s.heap.size ≤ q) s := by
    refine ⟨⟨vx_Zqof (hts (.laysStatic Bundle.tN "UNASSIGNED_STACK" Bundle.steD) (by decide +kernel)) (hts (.initialized Bundle.tN) (by decide +kernel)) (hv (.isRef (.static Bundle.tN "UNASSIGNED_STACK" Bundle.steD)) (by decide +kernel)) hA, vx_Zqof (hts (.laysStatic Bundle.tN "SUPPRESSED_SENTINEL" Bundle.listD) (by decide +kernel)) (hts (.initialized Bundle.tN) (by decide +kernel)) (hv (.isRef (.static Bundle.tN "SUPPRESSED_SENTINEL" Bundle.listD)) (by decide +kernel)) hA⟩, fun w hw => va_Nw.of (cstL_on w hw) (hts w (cstL_tbl w hw)), ?_⟩
    unfold strL
    simp only [List.mem_cons, List.not_mem_nil, or_false, forall_eq_or_imp, forall_eq]
    refine ⟨str _ _ _ (by decide +kernel) (by decide +kernel), str _ _ _ (by decide +kernel) (by decide +kernel), str _ _ _ (by decide +kernel) (by decide +kernel), str _ _ _ (by decide +kernel) (by decide +kernel), str _ _ _ (by decide +kernel) (by decide +kernel)⟩
  obtain ⟨adK, adV, hS, hev⟩ := vk_Sof (args := #[Value.ref b]) (s := s) (N := 2) (tm := kTm) (len := kLen) (byt := kByt) (A := fun q : Nat => s.heap.size ≤ q) (by decide) (fun i hi => hv _ (st_1 i hi)) (fun i hi => hv _ (st_2 i hi)) (fun i hi => hv _ (st_3 i hi)) (fun i hi => hv _ (st_4 i hi)) (fun i hi j hj => hv _ (st_5 i hi j hj)) (fun i j hi hj hne => by
    have e : (i = 0 ∧ j = 1) ∨ (i = 1 ∧ j = 0) := by omega
    rcases e with ⟨rfl, rfl⟩ | ⟨rfl, rfl⟩
    · exact Or.inl (hv _ st_6)
    · exact Or.inr (hv _ st_6)) hA
  have hd1 : ∃ t : Nat, va_Z "java/lang/Integer" "DigitOnes" "[B" (.ref t) (fun q : Nat => s.heap.size ≤ q) s s.heap ∧ va_T .byte t 100 (fun j => .int (dig1 j)) (fun q : Nat => s.heap.size ≤ q) s s.heap := by
    obtain ⟨t, ht, hT⟩ := va_Tof (args := #[Value.ref b]) (tm := .static "java/lang/Integer" "DigitOnes" "[B") (ty := .byte) (N := 100) (f := fun j => .int (dig1 j)) (A := fun q : Nat => s.heap.size ≤ q) (by decide) (hv (.arrayOf (.static "java/lang/Integer" "DigitOnes" "[B") .byte) (by decide +kernel)) (va_eqt (hv (.eq (.length (.static "java/lang/Integer" "DigitOnes" "[B")) (.int (Int32.ofNat 100))) (by decide +kernel))) (fun j hj => va_eqt (hv _ (dt_1 j hj))) hA
    exact ⟨t, va_Zof (hts (.laysStatic "java/lang/Integer" "DigitOnes" "[B") (by decide +kernel)) (hts (.initialized "java/lang/Integer") (by decide +kernel)) ht hA, hT⟩
  have hd2 : ∃ t : Nat, va_Z "java/lang/Integer" "DigitTens" "[B" (.ref t) (fun q : Nat => s.heap.size ≤ q) s s.heap ∧ va_T .byte t 100 (fun j => .int (dig2 j)) (fun q : Nat => s.heap.size ≤ q) s s.heap := by
    obtain ⟨t, ht, hT⟩ := va_Tof (args := #[Value.ref b]) (tm := .static "java/lang/Integer" "DigitTens" "[B") (ty := .byte) (N := 100) (f := fun j => .int (dig2 j)) (A := fun q : Nat => s.heap.size ≤ q) (by decide) (hv (.arrayOf (.static "java/lang/Integer" "DigitTens" "[B") .byte) (by decide +kernel)) (va_eqt (hv (.eq (.length (.static "java/lang/Integer" "DigitTens" "[B")) (.int (Int32.ofNat 100))) (by decide +kernel))) (fun j hj => va_eqt (hv _ (dt_2 j hj))) hA
    exact ⟨t, va_Zof (hts (.laysStatic "java/lang/Integer" "DigitTens" "[B") (by decide +kernel)) (hts (.initialized "java/lang/Integer") (by decide +kernel)) ht hA, hT⟩
  have hT : TW adK adV (fun q : Nat => s.heap.size ≤ q) s := ⟨va_Zof (hts (.laysStatic "java/lang/String" "COMPACT_STRINGS" "Z") (by decide +kernel)) (hts (.initialized "java/lang/String") (by decide +kernel)) (va_eqt (hv (.eq (.static "java/lang/String" "COMPACT_STRINGS" "Z") (.int 1)) (by decide +kernel))) hA, va_Nw.of rfl (hts (.castable "[B" "java/lang/Cloneable") (by decide +kernel)), ⟨hd1, hd2⟩, hS, vk_R.of (hts (.stringRef "FormwheelModel" 144 "") (by decide +kernel)) (hev 0 (by decide)), vk_R.of (hts (.stringRef "FormwheelModel" 146 " ") (by decide +kernel)) (hev 1 (by decide))⟩
  refine ⟨D, cyJ, cyB, adK, adV, C0, ?_, hK, hnw, hE, hT, va_Nc.of (hv (.not (.castable "java/lang/IllegalArgumentException" "java/lang/IndexOutOfBoundsException")) (by decide +kernel))⟩
  unfold Launch.stackTraces
  rw [hflags]
  decide +kernel
