set_option maxHeartbeats 1000000 in
theorem sp_X7_isBetween (p0 : Int32) (p1 : Int32) (p2 : Int32)  : ok (F_X7_isBetween p0 p1 p2) (fun r => (r.toInt = 0 ∧ (p0.toInt < p1.toInt ∨ p2.toInt < p0.toInt)) ∨ (r.toInt = 1 ∧ p1.toInt ≤ p0.toInt ∧ p0.toInt ≤ p2.toInt)) := by
  have l032 : (0 : Int32).toInt = 0 := by decide
  have l132 : (1 : Int32).toInt = 1 := by decide
  unfold F_X7_isBetween
  refine ok_lt (fun c1 => ?_) (fun c1 => ?_)
  · exact ok_s (show ((0 : Int32).toInt = 0 ∧ (p0.toInt < p1.toInt ∨ p2.toInt < p0.toInt)) ∨ ((0 : Int32).toInt = 1 ∧ p1.toInt ≤ p0.toInt ∧ p0.toInt ≤ p2.toInt) from by first | omega | assumption | trivial | (refine ⟨?_, ?_⟩ <;> first | omega | assumption | trivial | rfl) | (refine ⟨?_, ?_, ?_⟩ <;> first | omega | assumption | trivial | rfl) | (refine ⟨?_, ?_, ?_, ?_⟩ <;> first | omega | assumption | trivial | rfl) | (refine ⟨?_, ?_, ?_, ?_, ?_⟩ <;> first | omega | assumption | trivial | rfl))
  · refine ok_lt (fun c2 => ?_) (fun c2 => ?_)
    · exact ok_s (show ((0 : Int32).toInt = 0 ∧ (p0.toInt < p1.toInt ∨ p2.toInt < p0.toInt)) ∨ ((0 : Int32).toInt = 1 ∧ p1.toInt ≤ p0.toInt ∧ p0.toInt ≤ p2.toInt) from by first | omega | assumption | trivial | (refine ⟨?_, ?_⟩ <;> first | omega | assumption | trivial | rfl) | (refine ⟨?_, ?_, ?_⟩ <;> first | omega | assumption | trivial | rfl) | (refine ⟨?_, ?_, ?_, ?_⟩ <;> first | omega | assumption | trivial | rfl) | (refine ⟨?_, ?_, ?_, ?_, ?_⟩ <;> first | omega | assumption | trivial | rfl))
    · exact ok_s (show ((1 : Int32).toInt = 0 ∧ (p0.toInt < p1.toInt ∨ p2.toInt < p0.toInt)) ∨ ((1 : Int32).toInt = 1 ∧ p1.toInt ≤ p0.toInt ∧ p0.toInt ≤ p2.toInt) from by first | omega | assumption | trivial | (refine ⟨?_, ?_⟩ <;> first | omega | assumption | trivial | rfl) | (refine ⟨?_, ?_, ?_⟩ <;> first | omega | assumption | trivial | rfl) | (refine ⟨?_, ?_, ?_, ?_⟩ <;> first | omega | assumption | trivial | rfl) | (refine ⟨?_, ?_, ?_, ?_, ?_⟩ <;> first | omega | assumption | trivial | rfl))
set_option maxHeartbeats 1000000 in
theorem sp_X7_testForm (p0 : Int32)  : ok (F_X7_testForm p0) (fun r => (r = 0 ∧ 0 ≤ p0.toInt ∧ p0.toInt ≤ 5) ∨ r = 1) := by
  have l032 : (0 : Int32).toInt = 0 := by decide
  have l532 : (5 : Int32).toInt = 5 := by decide
  unfold F_X7_testForm
  refine ok_o (sp_X7_isBetween p0 (0 : Int32) (5 : Int32) ) (fun r3 h1 => ?_)
  have h1 : (r3.toInt = 0 ∧ (p0.toInt < (0 : Int32).toInt ∨ (5 : Int32).toInt < p0.toInt)) ∨ (r3.toInt = 1 ∧ (0 : Int32).toInt ≤ p0.toInt ∧ p0.toInt ≤ (5 : Int32).toInt) := h1
  refine ok_eq (fun c2 => ?_) (fun c2 => ?_)
  · exact ok_s (show (1 = 0 ∧ 0 ≤ p0.toInt ∧ p0.toInt ≤ 5) ∨ 1 = 1 from by first | omega | assumption | trivial | (refine ⟨?_, ?_⟩ <;> first | omega | assumption | trivial | rfl) | (refine ⟨?_, ?_, ?_⟩ <;> first | omega | assumption | trivial | rfl) | (refine ⟨?_, ?_, ?_, ?_⟩ <;> first | omega | assumption | trivial | rfl) | (refine ⟨?_, ?_, ?_, ?_, ?_⟩ <;> first | omega | assumption | trivial | rfl))
  · exact ok_s (show (0 = 0 ∧ 0 ≤ p0.toInt ∧ p0.toInt ≤ 5) ∨ 0 = 1 from by first | omega | assumption | trivial | (refine ⟨?_, ?_⟩ <;> first | omega | assumption | trivial | rfl) | (refine ⟨?_, ?_, ?_⟩ <;> first | omega | assumption | trivial | rfl) | (refine ⟨?_, ?_, ?_, ?_⟩ <;> first | omega | assumption | trivial | rfl) | (refine ⟨?_, ?_, ?_, ?_, ?_⟩ <;> first | omega | assumption | trivial | rfl))
set_option maxHeartbeats 1000000 in
theorem sp_X7_testRange (p0 : Int32) (p1 : Int32) (p2 : Int32)  : ok (F_X7_testRange p0 p1 p2) (fun r => (r = 0 ∧ p1.toInt ≤ p0.toInt ∧ p0.toInt ≤ p2.toInt) ∨ r = 2) := by
  have l032 : (0 : Int32).toInt = 0 := by decide
  unfold F_X7_testRange
  refine ok_o (sp_X7_isBetween p0 p1 p2 ) (fun r3 h1 => ?_)
  have h1 : (r3.toInt = 0 ∧ (p0.toInt < p1.toInt ∨ p2.toInt < p0.toInt)) ∨ (r3.toInt = 1 ∧ p1.toInt ≤ p0.toInt ∧ p0.toInt ≤ p2.toInt) := h1
  refine ok_eq (fun c2 => ?_) (fun c2 => ?_)
  · exact ok_s (show (2 = 0 ∧ p1.toInt ≤ p0.toInt ∧ p0.toInt ≤ p2.toInt) ∨ 2 = 2 from by first | omega | assumption | trivial | (refine ⟨?_, ?_⟩ <;> first | omega | assumption | trivial | rfl) | (refine ⟨?_, ?_, ?_⟩ <;> first | omega | assumption | trivial | rfl) | (refine ⟨?_, ?_, ?_, ?_⟩ <;> first | omega | assumption | trivial | rfl) | (refine ⟨?_, ?_, ?_, ?_, ?_⟩ <;> first | omega | assumption | trivial | rfl))
  · exact ok_s (show (0 = 0 ∧ p1.toInt ≤ p0.toInt ∧ p0.toInt ≤ p2.toInt) ∨ 0 = 2 from by first | omega | assumption | trivial | (refine ⟨?_, ?_⟩ <;> first | omega | assumption | trivial | rfl) | (refine ⟨?_, ?_, ?_⟩ <;> first | omega | assumption | trivial | rfl) | (refine ⟨?_, ?_, ?_, ?_⟩ <;> first | omega | assumption | trivial | rfl) | (refine ⟨?_, ?_, ?_, ?_, ?_⟩ <;> first | omega | assumption | trivial | rfl))
set_option maxHeartbeats 1000000 in
theorem sp_X7_testPlace (p0 : Int32)  : ok (F_X7_testPlace p0) (fun r => (r = 0 ∧ 0 ≤ p0.toInt ∧ p0.toInt ≤ 39) ∨ r = 1) := by
  have l032 : (0 : Int32).toInt = 0 := by decide
  have l3932 : (39 : Int32).toInt = 39 := by decide
  unfold F_X7_testPlace
  refine ok_o (sp_X7_isBetween p0 (0 : Int32) (39 : Int32) ) (fun r4 h1 => ?_)
  have h1 : (r4.toInt = 0 ∧ (p0.toInt < (0 : Int32).toInt ∨ (39 : Int32).toInt < p0.toInt)) ∨ (r4.toInt = 1 ∧ (0 : Int32).toInt ≤ p0.toInt ∧ p0.toInt ≤ (39 : Int32).toInt) := h1
  refine ok_eq (fun c2 => ?_) (fun c2 => ?_)
  · exact ok_s (show (1 = 0 ∧ 0 ≤ p0.toInt ∧ p0.toInt ≤ 39) ∨ 1 = 1 from by first | omega | assumption | trivial | (refine ⟨?_, ?_⟩ <;> first | omega | assumption | trivial | rfl) | (refine ⟨?_, ?_, ?_⟩ <;> first | omega | assumption | trivial | rfl) | (refine ⟨?_, ?_, ?_, ?_⟩ <;> first | omega | assumption | trivial | rfl) | (refine ⟨?_, ?_, ?_, ?_, ?_⟩ <;> first | omega | assumption | trivial | rfl))
  · exact ok_s (show (0 = 0 ∧ 0 ≤ p0.toInt ∧ p0.toInt ≤ 39) ∨ 0 = 1 from by first | omega | assumption | trivial | (refine ⟨?_, ?_⟩ <;> first | omega | assumption | trivial | rfl) | (refine ⟨?_, ?_, ?_⟩ <;> first | omega | assumption | trivial | rfl) | (refine ⟨?_, ?_, ?_, ?_⟩ <;> first | omega | assumption | trivial | rfl) | (refine ⟨?_, ?_, ?_, ?_, ?_⟩ <;> first | omega | assumption | trivial | rfl))
set_option maxHeartbeats 1000000 in
theorem sp_X7_testForms (p0 : Int32) (p1 : Int32) (p2 : Int32)  : ok (F_X7_testForms p0 p1 p2) (fun r => (r = 0 ∧ 0 ≤ p0.toInt ∧ p0.toInt ≤ 5 ∧ 0 ≤ p1.toInt ∧ p1.toInt ≤ 5 ∧ 0 ≤ p2.toInt ∧ p2.toInt ≤ 5) ∨ r = 1) := by
  have l032 : (0 : Int32).toInt = 0 := by decide
  unfold F_X7_testForms
  refine ok_o (sp_X7_testForm p0 ) (fun xc1 h1 => ?_)
  have h1 : (xc1 = 0 ∧ 0 ≤ p0.toInt ∧ p0.toInt ≤ 5) ∨ xc1 = 1 := h1
  refine ok_i (fun c2 => ?_) (fun c2 => ?_)
  · refine ok_o (sp_X7_testForm p1 ) (fun xc5 h3 => ?_)
    have h3 : (xc5 = 0 ∧ 0 ≤ p1.toInt ∧ p1.toInt ≤ 5) ∨ xc5 = 1 := h3
    refine ok_i (fun c4 => ?_) (fun c4 => ?_)
    · refine ok_o (sp_X7_testForm p2 ) (fun xc9 h5 => ?_)
      have h5 : (xc9 = 0 ∧ 0 ≤ p2.toInt ∧ p2.toInt ≤ 5) ∨ xc9 = 1 := h5
      refine ok_i (fun c6 => ?_) (fun c6 => ?_)
      · exact ok_s (show (0 = 0 ∧ 0 ≤ p0.toInt ∧ p0.toInt ≤ 5 ∧ 0 ≤ p1.toInt ∧ p1.toInt ≤ 5 ∧ 0 ≤ p2.toInt ∧ p2.toInt ≤ 5) ∨ 0 = 1 from by first | omega | assumption | trivial | (refine ⟨?_, ?_⟩ <;> first | omega | assumption | trivial | rfl) | (refine ⟨?_, ?_, ?_⟩ <;> first | omega | assumption | trivial | rfl) | (refine ⟨?_, ?_, ?_, ?_⟩ <;> first | omega | assumption | trivial | rfl) | (refine ⟨?_, ?_, ?_, ?_, ?_⟩ <;> first | omega | assumption | trivial | rfl))
      · exact ok_s (show (xc9 = 0 ∧ 0 ≤ p0.toInt ∧ p0.toInt ≤ 5 ∧ 0 ≤ p1.toInt ∧ p1.toInt ≤ 5 ∧ 0 ≤ p2.toInt ∧ p2.toInt ≤ 5) ∨ xc9 = 1 from by first | omega | assumption | trivial | (refine ⟨?_, ?_⟩ <;> first | omega | assumption | trivial | rfl) | (refine ⟨?_, ?_, ?_⟩ <;> first | omega | assumption | trivial | rfl) | (refine ⟨?_, ?_, ?_, ?_⟩ <;> first | omega | assumption | trivial | rfl) | (refine ⟨?_, ?_, ?_, ?_, ?_⟩ <;> first | omega | assumption | trivial | rfl))
    · exact ok_s (show (xc5 = 0 ∧ 0 ≤ p0.toInt ∧ p0.toInt ≤ 5 ∧ 0 ≤ p1.toInt ∧ p1.toInt ≤ 5 ∧ 0 ≤ p2.toInt ∧ p2.toInt ≤ 5) ∨ xc5 = 1 from by first | omega | assumption | trivial | (refine ⟨?_, ?_⟩ <;> first | omega | assumption | trivial | rfl) | (refine ⟨?_, ?_, ?_⟩ <;> first | omega | assumption | trivial | rfl) | (refine ⟨?_, ?_, ?_, ?_⟩ <;> first | omega | assumption | trivial | rfl) | (refine ⟨?_, ?_, ?_, ?_, ?_⟩ <;> first | omega | assumption | trivial | rfl))
  · exact ok_s (show (xc1 = 0 ∧ 0 ≤ p0.toInt ∧ p0.toInt ≤ 5 ∧ 0 ≤ p1.toInt ∧ p1.toInt ≤ 5 ∧ 0 ≤ p2.toInt ∧ p2.toInt ≤ 5) ∨ xc1 = 1 from by first | omega | assumption | trivial | (refine ⟨?_, ?_⟩ <;> first | omega | assumption | trivial | rfl) | (refine ⟨?_, ?_, ?_⟩ <;> first | omega | assumption | trivial | rfl) | (refine ⟨?_, ?_, ?_, ?_⟩ <;> first | omega | assumption | trivial | rfl) | (refine ⟨?_, ?_, ?_, ?_, ?_⟩ <;> first | omega | assumption | trivial | rfl))
set_option maxHeartbeats 1000000 in
theorem sp_J13_bitCount_95d88 (p0 : Int64)  : ok (F_J13_bitCount_95d88 p0) (fun r => True) := by
  have l132 : (1 : Int32).toInt = 1 := by decide
  have l232 : (2 : Int32).toInt = 2 := by decide
  have l432 : (4 : Int32).toInt = 4 := by decide
  have l832 : (8 : Int32).toInt = 8 := by decide
  have l1632 : (16 : Int32).toInt = 16 := by decide
  have l3232 : (32 : Int32).toInt = 32 := by decide
  have l12732 : (127 : Int32).toInt = 127 := by decide
  have l108510259257115009564 : (1085102592571150095 : Int64).toInt = 1085102592571150095 := by decide
  have l368934881474191032364 : (3689348814741910323 : Int64).toInt = 3689348814741910323 := by decide
  have l614891469123651720564 : (6148914691236517205 : Int64).toInt = 6148914691236517205 := by decide
  unfold F_J13_bitCount_95d88
  refine ok_bx (fun x0_9 e_x0_9 => ?_)
  have t_x0_9 : x0_9.toInt = (p0 - (((p0.toUInt64 >>> ((1 : Int32).toInt64.toUInt64 &&& Int64.toUInt64 63)).toInt64) &&& (6148914691236517205 : Int64))).toInt := by rw [e_x0_9]
  refine ok_bx (fun x0_23 e_x0_23 => ?_)
  have t_x0_23 : x0_23.toInt = ((x0_9 &&& (3689348814741910323 : Int64)) + (((x0_9.toUInt64 >>> ((2 : Int32).toInt64.toUInt64 &&& Int64.toUInt64 63)).toInt64) &&& (3689348814741910323 : Int64))).toInt := by rw [e_x0_23]
  refine ok_bx (fun x0_33 e_x0_33 => ?_)
  have t_x0_33 : x0_33.toInt = ((x0_23 + ((x0_23.toUInt64 >>> ((4 : Int32).toInt64.toUInt64 &&& Int64.toUInt64 63)).toInt64)) &&& (1085102592571150095 : Int64)).toInt := by rw [e_x0_33]
  refine ok_bx (fun x0_40 e_x0_40 => ?_)
  have t_x0_40 : x0_40.toInt = (x0_33 + ((x0_33.toUInt64 >>> ((8 : Int32).toInt64.toUInt64 &&& Int64.toUInt64 63)).toInt64)).toInt := by rw [e_x0_40]
  refine ok_bx (fun x0_47 e_x0_47 => ?_)
  have t_x0_47 : x0_47.toInt = (x0_40 + ((x0_40.toUInt64 >>> ((16 : Int32).toInt64.toUInt64 &&& Int64.toUInt64 63)).toInt64)).toInt := by rw [e_x0_47]
  refine ok_bx (fun x0_54 e_x0_54 => ?_)
  have t_x0_54 : x0_54.toInt = (x0_47 + ((x0_47.toUInt64 >>> ((32 : Int32).toInt64.toUInt64 &&& Int64.toUInt64 63)).toInt64)).toInt := by rw [e_x0_54]
  exact ok_s trivial
set_option maxHeartbeats 1000000 in
theorem sp_X0_degreeOf (p0 : Int64)  : ok (F_X0_degreeOf p0) (fun r => -1 ≤ r.toInt ∧ r.toInt ≤ 63) := by
  obtain ⟨n, hn, rfl⟩ := wb_of p0
  have h1 := dgI_T hn
  have h2 : bl n ≤ 64 := bl_le.mpr hn
  rw [x0_deg hn]
  exact ok_s (show -1 ≤ (dgI n).toInt ∧ (dgI n).toInt ≤ 63 from by omega)
set_option maxHeartbeats 1000000 in
theorem sp_X0_hasOne (p0 : Int64) (p1 : Int32)  : ok (F_X0_hasOne p0 p1) (fun r => r.toInt = 0 ∨ r.toInt = 1) := by
  have l032 : (0 : Int32).toInt = 0 := by decide
  have l132 : (1 : Int32).toInt = 1 := by decide
  have l164 : (1 : Int64).toInt = 1 := by decide
  unfold F_X0_hasOne
  refine ok_eqL (fun c1 => ?_) (fun c1 => ?_)
  · exact ok_s (show (1 : Int32).toInt = 0 ∨ (1 : Int32).toInt = 1 from by first | omega | assumption | trivial | (refine ⟨?_, ?_⟩ <;> first | omega | assumption | trivial | rfl) | (refine ⟨?_, ?_, ?_⟩ <;> first | omega | assumption | trivial | rfl) | (refine ⟨?_, ?_, ?_, ?_⟩ <;> first | omega | assumption | trivial | rfl) | (refine ⟨?_, ?_, ?_, ?_, ?_⟩ <;> first | omega | assumption | trivial | rfl))
  · exact ok_s (show (0 : Int32).toInt = 0 ∨ (0 : Int32).toInt = 1 from by first | omega | assumption | trivial | (refine ⟨?_, ?_⟩ <;> first | omega | assumption | trivial | rfl) | (refine ⟨?_, ?_, ?_⟩ <;> first | omega | assumption | trivial | rfl) | (refine ⟨?_, ?_, ?_, ?_⟩ <;> first | omega | assumption | trivial | rfl) | (refine ⟨?_, ?_, ?_, ?_, ?_⟩ <;> first | omega | assumption | trivial | rfl))
set_option maxHeartbeats 1000000 in
theorem sp_X0_onesOf (p0 : Int64)  : ok (F_X0_onesOf p0) (fun r => True) := by
  unfold F_X0_onesOf
  refine ok_o (sp_J13_bitCount_95d88 p0 ) (fun r1 h1 => ?_)
  exact ok_s trivial
set_option maxHeartbeats 1000000 in
theorem sp_X0_turned (p0 : Int64)  : ok (F_X0_turned p0) (fun r => True) := by
  have l032 : (0 : Int32).toInt = 0 := by decide
  have l064 : (0 : Int64).toInt = 0 := by decide
  have l132 : (1 : Int32).toInt = 1 := by decide
  have l164 : (1 : Int64).toInt = 1 := by decide
  unfold F_X0_turned
  refine ok_o (sp_X0_degreeOf p0 ) (fun r3 h1 => ?_)
  have h1 : -1 ≤ r3.toInt ∧ r3.toInt ≤ 63 := h1
  refine ok_L2 (fun y2_11 y5_11 => 0 ≤ y5_11.toInt) (fun y2_11 y5_11 => (r3.toInt - y5_11.toInt + 1).toNat) (fun ih11 y2_11 y5_11 hI2 hih2 => ?_) 20000 (0 : Int64) (0 : Int32) (show 0 ≤ (0 : Int32).toInt from by first | omega | assumption | trivial | (refine ⟨?_, ?_⟩ <;> first | omega | assumption | trivial | rfl) | (refine ⟨?_, ?_, ?_⟩ <;> first | omega | assumption | trivial | rfl) | (refine ⟨?_, ?_, ?_, ?_⟩ <;> first | omega | assumption | trivial | rfl) | (refine ⟨?_, ?_, ?_, ?_, ?_⟩ <;> first | omega | assumption | trivial | rfl)) (show (r3.toInt - (0 : Int32).toInt + 1).toNat < 20000 from by omega)
  have hI2 : 0 ≤ y5_11.toInt := hI2
  unfold S_X0_turned_11
  refine ok_lt (fun c3 => ?_) (fun c3 => ?_)
  · exact ok_s trivial
  · refine ok_bx (fun x2_28 e_x2_28 => ?_)
    have t_x2_28 : x2_28.toInt = ((y2_11 <<< ((1 : Int32).toInt64 &&& 63)) ||| ((p0 >>> (y5_11.toInt64 &&& 63)) &&& (1 : Int64))).toInt := by rw [e_x2_28]
    try have q4 := addT (a := y5_11) (b := 1) (by omega) (by omega)
    refine ok_bx (fun x5_29 e_x5_29 => ?_)
    have t_x5_29 : x5_29.toInt = (y5_11 + 1).toInt := by rw [e_x5_29]
    exact hih2 x2_28 x5_29 (show 0 ≤ x5_29.toInt from by first | omega | assumption | trivial | (refine ⟨?_, ?_⟩ <;> first | omega | assumption | trivial | rfl) | (refine ⟨?_, ?_, ?_⟩ <;> first | omega | assumption | trivial | rfl) | (refine ⟨?_, ?_, ?_, ?_⟩ <;> first | omega | assumption | trivial | rfl) | (refine ⟨?_, ?_, ?_, ?_, ?_⟩ <;> first | omega | assumption | trivial | rfl)) (show (r3.toInt - x5_29.toInt + 1).toNat < (r3.toInt - y5_11.toInt + 1).toNat from by omega)
set_option maxHeartbeats 1000000 in
theorem sp_X0_haveProduct (p0 : Int64) (p1 : Int64)  : ok (F_X0_haveProduct p0 p1) (fun r => r.toInt = 0 ∨ r.toInt = 1) := by
  have l032 : (0 : Int32).toInt = 0 := by decide
  have l064 : (0 : Int64).toInt = 0 := by decide
  have l132 : (1 : Int32).toInt = 1 := by decide
  have l3932 : (39 : Int32).toInt = 39 := by decide
  unfold F_X0_haveProduct
  refine ok_eqL (fun c1 => ?_) (fun c1 => ?_)
  · exact ok_s (show (1 : Int32).toInt = 0 ∨ (1 : Int32).toInt = 1 from by first | omega | assumption | trivial | (refine ⟨?_, ?_⟩ <;> first | omega | assumption | trivial | rfl) | (refine ⟨?_, ?_, ?_⟩ <;> first | omega | assumption | trivial | rfl) | (refine ⟨?_, ?_, ?_, ?_⟩ <;> first | omega | assumption | trivial | rfl) | (refine ⟨?_, ?_, ?_, ?_, ?_⟩ <;> first | omega | assumption | trivial | rfl))
  · refine ok_eqL (fun c2 => ?_) (fun c2 => ?_)
    · exact ok_s (show (1 : Int32).toInt = 0 ∨ (1 : Int32).toInt = 1 from by first | omega | assumption | trivial | (refine ⟨?_, ?_⟩ <;> first | omega | assumption | trivial | rfl) | (refine ⟨?_, ?_, ?_⟩ <;> first | omega | assumption | trivial | rfl) | (refine ⟨?_, ?_, ?_, ?_⟩ <;> first | omega | assumption | trivial | rfl) | (refine ⟨?_, ?_, ?_, ?_, ?_⟩ <;> first | omega | assumption | trivial | rfl))
    · refine ok_o (sp_X0_degreeOf p0 ) (fun r13 h3 => ?_)
      have h3 : -1 ≤ r13.toInt ∧ r13.toInt ≤ 63 := h3
      refine ok_o (sp_X0_degreeOf p1 ) (fun r17 h4 => ?_)
      have h4 : -1 ≤ r17.toInt ∧ r17.toInt ≤ 63 := h4
      try have q5 := addT (a := r13) (b := r17) (by omega) (by omega)
      refine ok_lt (fun c6 => ?_) (fun c6 => ?_)
      · exact ok_s (show (0 : Int32).toInt = 0 ∨ (0 : Int32).toInt = 1 from by first | omega | assumption | trivial | (refine ⟨?_, ?_⟩ <;> first | omega | assumption | trivial | rfl) | (refine ⟨?_, ?_, ?_⟩ <;> first | omega | assumption | trivial | rfl) | (refine ⟨?_, ?_, ?_, ?_⟩ <;> first | omega | assumption | trivial | rfl) | (refine ⟨?_, ?_, ?_, ?_, ?_⟩ <;> first | omega | assumption | trivial | rfl))
      · exact ok_s (show (1 : Int32).toInt = 0 ∨ (1 : Int32).toInt = 1 from by first | omega | assumption | trivial | (refine ⟨?_, ?_⟩ <;> first | omega | assumption | trivial | rfl) | (refine ⟨?_, ?_, ?_⟩ <;> first | omega | assumption | trivial | rfl) | (refine ⟨?_, ?_, ?_, ?_⟩ <;> first | omega | assumption | trivial | rfl) | (refine ⟨?_, ?_, ?_, ?_, ?_⟩ <;> first | omega | assumption | trivial | rfl))
set_option maxHeartbeats 1000000 in
theorem sp_X0_multiplied (p0 : Int64) (p1 : Int64)  : ok (F_X0_multiplied p0 p1) (fun r => True) := by
  have lm132 : (-1 : Int32).toInt = -1 := by decide
  have l032 : (0 : Int32).toInt = 0 := by decide
  have l064 : (0 : Int64).toInt = 0 := by decide
  unfold F_X0_multiplied
  refine ok_o (sp_X0_degreeOf p1 ) (fun r4 h1 => ?_)
  have h1 : -1 ≤ r4.toInt ∧ r4.toInt ≤ 63 := h1
  refine ok_L2 (fun y4_9 y6_9 => y6_9.toInt ≤ 64) (fun y4_9 y6_9 => (y6_9.toInt + 1).toNat) (fun ih9 y4_9 y6_9 hI2 hih2 => ?_) 20000 (0 : Int64) r4 (show r4.toInt ≤ 64 from by first | omega | assumption | trivial | (refine ⟨?_, ?_⟩ <;> first | omega | assumption | trivial | rfl) | (refine ⟨?_, ?_, ?_⟩ <;> first | omega | assumption | trivial | rfl) | (refine ⟨?_, ?_, ?_, ?_⟩ <;> first | omega | assumption | trivial | rfl) | (refine ⟨?_, ?_, ?_, ?_, ?_⟩ <;> first | omega | assumption | trivial | rfl)) (show (r4.toInt + 1).toNat < 20000 from by omega)
  have hI2 : y6_9.toInt ≤ 64 := hI2
  unfold S_X0_multiplied_9
  refine ok_lt (fun c3 => ?_) (fun c3 => ?_)
  · exact ok_s trivial
  · refine ok_o (sp_X0_hasOne p1 y6_9 ) (fun r17 h4 => ?_)
    have h4 : r17.toInt = 0 ∨ r17.toInt = 1 := h4
    refine ok_eq (fun c5 => ?_) (fun c5 => ?_)
    · try have q6 := addT (a := y6_9) (b := (-1)) (by omega) (by omega)
      refine ok_bx (fun x6_32 e_x6_32 => ?_)
      have t_x6_32 : x6_32.toInt = (y6_9 + (-1)).toInt := by rw [e_x6_32]
      exact hih2 y4_9 x6_32 (show x6_32.toInt ≤ 64 from by first | omega | assumption | trivial | (refine ⟨?_, ?_⟩ <;> first | omega | assumption | trivial | rfl) | (refine ⟨?_, ?_, ?_⟩ <;> first | omega | assumption | trivial | rfl) | (refine ⟨?_, ?_, ?_, ?_⟩ <;> first | omega | assumption | trivial | rfl) | (refine ⟨?_, ?_, ?_, ?_, ?_⟩ <;> first | omega | assumption | trivial | rfl)) (show (x6_32.toInt + 1).toNat < (y6_9.toInt + 1).toNat from by omega)
    · refine ok_bx (fun x4_30 e_x4_30 => ?_)
      have t_x4_30 : x4_30.toInt = (y4_9 ^^^ (p0 <<< (y6_9.toInt64 &&& 63))).toInt := by rw [e_x4_30]
      try have q7 := addT (a := y6_9) (b := (-1)) (by omega) (by omega)
      refine ok_bx (fun x6_32_2 e_x6_32_2 => ?_)
      have t_x6_32_2 : x6_32_2.toInt = (y6_9 + (-1)).toInt := by rw [e_x6_32_2]
      exact hih2 x4_30 x6_32_2 (show x6_32_2.toInt ≤ 64 from by first | omega | assumption | trivial | (refine ⟨?_, ?_⟩ <;> first | omega | assumption | trivial | rfl) | (refine ⟨?_, ?_, ?_⟩ <;> first | omega | assumption | trivial | rfl) | (refine ⟨?_, ?_, ?_, ?_⟩ <;> first | omega | assumption | trivial | rfl) | (refine ⟨?_, ?_, ?_, ?_, ?_⟩ <;> first | omega | assumption | trivial | rfl)) (show (x6_32_2.toInt + 1).toNat < (y6_9.toInt + 1).toNat from by omega)
set_option maxHeartbeats 1000000 in
theorem sp_X0_squared (p0 : Int64)  : ok (F_X0_squared p0) (fun r => True) := by
  have lm132 : (-1 : Int32).toInt = -1 := by decide
  have l032 : (0 : Int32).toInt = 0 := by decide
  have l064 : (0 : Int64).toInt = 0 := by decide
  have l164 : (1 : Int64).toInt = 1 := by decide
  have l232 : (2 : Int32).toInt = 2 := by decide
  unfold F_X0_squared
  refine ok_o (sp_X0_degreeOf p0 ) (fun r3 h1 => ?_)
  have h1 : -1 ≤ r3.toInt ∧ r3.toInt ≤ 63 := h1
  refine ok_L2 (fun y2_8 y4_8 => y4_8.toInt ≤ 64) (fun y2_8 y4_8 => (y4_8.toInt + 1).toNat) (fun ih8 y2_8 y4_8 hI2 hih2 => ?_) 20000 (0 : Int64) r3 (show r3.toInt ≤ 64 from by first | omega | assumption | trivial | (refine ⟨?_, ?_⟩ <;> first | omega | assumption | trivial | rfl) | (refine ⟨?_, ?_, ?_⟩ <;> first | omega | assumption | trivial | rfl) | (refine ⟨?_, ?_, ?_, ?_⟩ <;> first | omega | assumption | trivial | rfl) | (refine ⟨?_, ?_, ?_, ?_, ?_⟩ <;> first | omega | assumption | trivial | rfl)) (show (r3.toInt + 1).toNat < 20000 from by omega)
  have hI2 : y4_8.toInt ≤ 64 := hI2
  unfold S_X0_squared_8
  refine ok_lt (fun c3 => ?_) (fun c3 => ?_)
  · exact ok_s trivial
  · refine ok_bx (fun x2_23 e_x2_23 => ?_)
    have t_x2_23 : x2_23.toInt = ((y2_8 <<< ((2 : Int32).toInt64 &&& 63)) ||| ((p0 >>> (y4_8.toInt64 &&& 63)) &&& (1 : Int64))).toInt := by rw [e_x2_23]
    try have q4 := addT (a := y4_8) (b := (-1)) (by omega) (by omega)
    refine ok_bx (fun x4_24 e_x4_24 => ?_)
    have t_x4_24 : x4_24.toInt = (y4_8 + (-1)).toInt := by rw [e_x4_24]
    exact hih2 x2_23 x4_24 (show x4_24.toInt ≤ 64 from by first | omega | assumption | trivial | (refine ⟨?_, ?_⟩ <;> first | omega | assumption | trivial | rfl) | (refine ⟨?_, ?_, ?_⟩ <;> first | omega | assumption | trivial | rfl) | (refine ⟨?_, ?_, ?_, ?_⟩ <;> first | omega | assumption | trivial | rfl) | (refine ⟨?_, ?_, ?_, ?_, ?_⟩ <;> first | omega | assumption | trivial | rfl)) (show (x4_24.toInt + 1).toNat < (y4_8.toInt + 1).toNat from by omega)
set_option maxHeartbeats 1000000 in
theorem sp_X0_quotient (p0 : Int64) (p1 : Int64)  : ok (F_X0_quotient p0 p1) (fun r => True) := by
  have lm132 : (-1 : Int32).toInt = -1 := by decide
  have l032 : (0 : Int32).toInt = 0 := by decide
  have l064 : (0 : Int64).toInt = 0 := by decide
  have l164 : (1 : Int64).toInt = 1 := by decide
  unfold F_X0_quotient
  refine ok_eqL (fun c1 => ?_) (fun c1 => ?_)
  · exact ok_s trivial
  · refine ok_o (sp_X0_degreeOf p1 ) (fun r9 h2 => ?_)
    have h2 : -1 ≤ r9.toInt ∧ r9.toInt ≤ 63 := h2
    refine ok_o (sp_X0_degreeOf p0 ) (fun r21 h3 => ?_)
    have h3 : -1 ≤ r21.toInt ∧ r21.toInt ≤ 63 := h3
    try have q4 := subT (a := r21) (b := r9) (by omega) (by omega)
    refine ok_bx (fun x9_27 e_x9_27 => ?_)
    have t_x9_27 : x9_27.toInt = (r21 - r9).toInt := by rw [e_x9_27]
    refine ok_L3 (fun y5_29 y7_29 y9_29 => y9_29.toInt ≤ 64) (fun y5_29 y7_29 y9_29 => (y9_29.toInt + 1).toNat) (fun ih29 y5_29 y7_29 y9_29 hI5 hih5 => ?_) 20000 p0 (0 : Int64) x9_27 (show x9_27.toInt ≤ 64 from by first | omega | assumption | trivial | (refine ⟨?_, ?_⟩ <;> first | omega | assumption | trivial | rfl) | (refine ⟨?_, ?_, ?_⟩ <;> first | omega | assumption | trivial | rfl) | (refine ⟨?_, ?_, ?_, ?_⟩ <;> first | omega | assumption | trivial | rfl) | (refine ⟨?_, ?_, ?_, ?_, ?_⟩ <;> first | omega | assumption | trivial | rfl)) (show (x9_27.toInt + 1).toNat < 20000 from by omega)
    have hI5 : y9_29.toInt ≤ 64 := hI5
    unfold S_X0_quotient_29
    refine ok_lt (fun c6 => ?_) (fun c6 => ?_)
    · exact ok_s trivial
    · try have q7 := addT (a := y9_29) (b := r9) (by omega) (by omega)
      refine ok_o (sp_X0_hasOne y5_29 (y9_29 + r9) ) (fun r41 h8 => ?_)
      have h8 : r41.toInt = 0 ∨ r41.toInt = 1 := h8
      refine ok_eq (fun c9 => ?_) (fun c9 => ?_)
      · try have q10 := addT (a := y9_29) (b := (-1)) (by omega) (by omega)
        refine ok_bx (fun x9_65 e_x9_65 => ?_)
        have t_x9_65 : x9_65.toInt = (y9_29 + (-1)).toInt := by rw [e_x9_65]
        exact hih5 y5_29 y7_29 x9_65 (show x9_65.toInt ≤ 64 from by first | omega | assumption | trivial | (refine ⟨?_, ?_⟩ <;> first | omega | assumption | trivial | rfl) | (refine ⟨?_, ?_, ?_⟩ <;> first | omega | assumption | trivial | rfl) | (refine ⟨?_, ?_, ?_, ?_⟩ <;> first | omega | assumption | trivial | rfl) | (refine ⟨?_, ?_, ?_, ?_, ?_⟩ <;> first | omega | assumption | trivial | rfl)) (show (x9_65.toInt + 1).toNat < (y9_29.toInt + 1).toNat from by omega)
      · refine ok_bx (fun x5_54 e_x5_54 => ?_)
        have t_x5_54 : x5_54.toInt = (y5_29 ^^^ (p1 <<< (y9_29.toInt64 &&& 63))).toInt := by rw [e_x5_54]
        refine ok_bx (fun x7_63 e_x7_63 => ?_)
        have t_x7_63 : x7_63.toInt = (y7_29 ||| ((1 : Int64) <<< (y9_29.toInt64 &&& 63))).toInt := by rw [e_x7_63]
        try have q11 := addT (a := y9_29) (b := (-1)) (by omega) (by omega)
        refine ok_bx (fun x9_65_2 e_x9_65_2 => ?_)
        have t_x9_65_2 : x9_65_2.toInt = (y9_29 + (-1)).toInt := by rw [e_x9_65_2]
        exact hih5 x5_54 x7_63 x9_65_2 (show x9_65_2.toInt ≤ 64 from by first | omega | assumption | trivial | (refine ⟨?_, ?_⟩ <;> first | omega | assumption | trivial | rfl) | (refine ⟨?_, ?_, ?_⟩ <;> first | omega | assumption | trivial | rfl) | (refine ⟨?_, ?_, ?_, ?_⟩ <;> first | omega | assumption | trivial | rfl) | (refine ⟨?_, ?_, ?_, ?_, ?_⟩ <;> first | omega | assumption | trivial | rfl)) (show (x9_65_2.toInt + 1).toNat < (y9_29.toInt + 1).toNat from by omega)
set_option maxHeartbeats 1000000 in
theorem sp_X0_rest (p0 : Int64) (p1 : Int64)  : ok (F_X0_rest p0 p1) (fun r => True) := by
  have lm132 : (-1 : Int32).toInt = -1 := by decide
  have l032 : (0 : Int32).toInt = 0 := by decide
  have l064 : (0 : Int64).toInt = 0 := by decide
  unfold F_X0_rest
  refine ok_eqL (fun c1 => ?_) (fun c1 => ?_)
  · exact ok_s trivial
  · refine ok_o (sp_X0_degreeOf p1 ) (fun r9 h2 => ?_)
    have h2 : -1 ≤ r9.toInt ∧ r9.toInt ≤ 63 := h2
    refine ok_o (sp_X0_degreeOf p0 ) (fun r18 h3 => ?_)
    have h3 : -1 ≤ r18.toInt ∧ r18.toInt ≤ 63 := h3
    try have q4 := subT (a := r18) (b := r9) (by omega) (by omega)
    refine ok_bx (fun x7_24 e_x7_24 => ?_)
    have t_x7_24 : x7_24.toInt = (r18 - r9).toInt := by rw [e_x7_24]
    refine ok_L2 (fun y5_26 y7_26 => y7_26.toInt ≤ 64) (fun y5_26 y7_26 => (y7_26.toInt + 1).toNat) (fun ih26 y5_26 y7_26 hI5 hih5 => ?_) 20000 p0 x7_24 (show x7_24.toInt ≤ 64 from by first | omega | assumption | trivial | (refine ⟨?_, ?_⟩ <;> first | omega | assumption | trivial | rfl) | (refine ⟨?_, ?_, ?_⟩ <;> first | omega | assumption | trivial | rfl) | (refine ⟨?_, ?_, ?_, ?_⟩ <;> first | omega | assumption | trivial | rfl) | (refine ⟨?_, ?_, ?_, ?_, ?_⟩ <;> first | omega | assumption | trivial | rfl)) (show (x7_24.toInt + 1).toNat < 20000 from by omega)
    have hI5 : y7_26.toInt ≤ 64 := hI5
    unfold S_X0_rest_26
    refine ok_lt (fun c6 => ?_) (fun c6 => ?_)
    · exact ok_s trivial
    · try have q7 := addT (a := y7_26) (b := r9) (by omega) (by omega)
      refine ok_o (sp_X0_hasOne y5_26 (y7_26 + r9) ) (fun r38 h8 => ?_)
      have h8 : r38.toInt = 0 ∨ r38.toInt = 1 := h8
      refine ok_eq (fun c9 => ?_) (fun c9 => ?_)
      · try have q10 := addT (a := y7_26) (b := (-1)) (by omega) (by omega)
        refine ok_bx (fun x7_53 e_x7_53 => ?_)
        have t_x7_53 : x7_53.toInt = (y7_26 + (-1)).toInt := by rw [e_x7_53]
        exact hih5 y5_26 x7_53 (show x7_53.toInt ≤ 64 from by first | omega | assumption | trivial | (refine ⟨?_, ?_⟩ <;> first | omega | assumption | trivial | rfl) | (refine ⟨?_, ?_, ?_⟩ <;> first | omega | assumption | trivial | rfl) | (refine ⟨?_, ?_, ?_, ?_⟩ <;> first | omega | assumption | trivial | rfl) | (refine ⟨?_, ?_, ?_, ?_, ?_⟩ <;> first | omega | assumption | trivial | rfl)) (show (x7_53.toInt + 1).toNat < (y7_26.toInt + 1).toNat from by omega)
      · refine ok_bx (fun x5_51 e_x5_51 => ?_)
        have t_x5_51 : x5_51.toInt = (y5_26 ^^^ (p1 <<< (y7_26.toInt64 &&& 63))).toInt := by rw [e_x5_51]
        try have q11 := addT (a := y7_26) (b := (-1)) (by omega) (by omega)
        refine ok_bx (fun x7_53_2 e_x7_53_2 => ?_)
        have t_x7_53_2 : x7_53_2.toInt = (y7_26 + (-1)).toInt := by rw [e_x7_53_2]
        exact hih5 x5_51 x7_53_2 (show x7_53_2.toInt ≤ 64 from by first | omega | assumption | trivial | (refine ⟨?_, ?_⟩ <;> first | omega | assumption | trivial | rfl) | (refine ⟨?_, ?_, ?_⟩ <;> first | omega | assumption | trivial | rfl) | (refine ⟨?_, ?_, ?_, ?_⟩ <;> first | omega | assumption | trivial | rfl) | (refine ⟨?_, ?_, ?_, ?_, ?_⟩ <;> first | omega | assumption | trivial | rfl)) (show (x7_53_2.toInt + 1).toNat < (y7_26.toInt + 1).toNat from by omega)
set_option maxHeartbeats 1000000 in
theorem sp_X0_greatestBoth (p0 : Int64) (p1 : Int64)  : ok (F_X0_greatestBoth p0 p1) (fun r => True) := by
  have l032 : (0 : Int32).toInt = 0 := by decide
  have l064 : (0 : Int64).toInt = 0 := by decide
  have l132 : (1 : Int32).toInt = 1 := by decide
  have l100032 : (1000 : Int32).toInt = 1000 := by decide
  unfold F_X0_greatestBoth
  refine ok_L3 (fun y4_9 y6_9 y8_9 => 0 ≤ y8_9.toInt) (fun y4_9 y6_9 y8_9 => (1000 - y8_9.toInt + 1).toNat) (fun ih9 y4_9 y6_9 y8_9 hI1 hih1 => ?_) 20000 p0 p1 (0 : Int32) (show 0 ≤ (0 : Int32).toInt from by first | omega | assumption | trivial | (refine ⟨?_, ?_⟩ <;> first | omega | assumption | trivial | rfl) | (refine ⟨?_, ?_, ?_⟩ <;> first | omega | assumption | trivial | rfl) | (refine ⟨?_, ?_, ?_, ?_⟩ <;> first | omega | assumption | trivial | rfl) | (refine ⟨?_, ?_, ?_, ?_, ?_⟩ <;> first | omega | assumption | trivial | rfl)) (show (1000 - (0 : Int32).toInt + 1).toNat < 20000 from by omega)
  have hI1 : 0 ≤ y8_9.toInt := hI1
  unfold S_X0_greatestBoth_9
  refine ok_le (fun c2 => ?_) (fun c2 => ?_)
  · exact ok_s trivial
  · refine ok_eqL (fun c3 => ?_) (fun c3 => ?_)
    · exact ok_s trivial
    · refine ok_o (sp_X0_rest y4_9 y6_9 ) (fun r28 h4 => ?_)
      try have q5 := addT (a := y8_9) (b := 1) (by omega) (by omega)
      refine ok_bx (fun x8_41 e_x8_41 => ?_)
      have t_x8_41 : x8_41.toInt = (y8_9 + 1).toInt := by rw [e_x8_41]
      exact hih1 y6_9 r28 x8_41 (show 0 ≤ x8_41.toInt from by first | omega | assumption | trivial | (refine ⟨?_, ?_⟩ <;> first | omega | assumption | trivial | rfl) | (refine ⟨?_, ?_, ?_⟩ <;> first | omega | assumption | trivial | rfl) | (refine ⟨?_, ?_, ?_, ?_⟩ <;> first | omega | assumption | trivial | rfl) | (refine ⟨?_, ?_, ?_, ?_, ?_⟩ <;> first | omega | assumption | trivial | rfl)) (show (1000 - x8_41.toInt + 1).toNat < (1000 - y8_9.toInt + 1).toNat from by omega)
set_option maxHeartbeats 1000000 in
theorem sp_X4_goOn (c_t_first : Int64) (c_t_ofOne : Int64) (c_t_ofOther : Int64) (c_t_second : Int64) (c_t_secondOfOne : Int64) (c_t_secondOfOther : Int64) (p0 : Int64)  : ok (F_X4_goOn c_t_first c_t_ofOne c_t_ofOther c_t_second c_t_secondOfOne c_t_secondOfOther p0) (fun r => True) := by
  unfold F_X4_goOn
  refine ok_o (sp_X0_multiplied p0 c_t_second ) (fun r9 h1 => ?_)
  refine ok_bx (fun x3_13 e_x3_13 => ?_)
  have t_x3_13 : x3_13.toInt = (c_t_first ^^^ r9).toInt := by rw [e_x3_13]
  refine ok_o (sp_X0_multiplied p0 c_t_secondOfOne ) (fun r23 h2 => ?_)
  refine ok_bx (fun x5_27 e_x5_27 => ?_)
  have t_x5_27 : x5_27.toInt = (c_t_ofOne ^^^ r23).toInt := by rw [e_x5_27]
  refine ok_o (sp_X0_multiplied p0 c_t_secondOfOther ) (fun r38 h3 => ?_)
  refine ok_bx (fun x7_42 e_x7_42 => ?_)
  have t_x7_42 : x7_42.toInt = (c_t_ofOther ^^^ r38).toInt := by rw [e_x7_42]
  exact ok_s trivial
set_option maxHeartbeats 1000000 in
theorem sp_X4_workOut (p0 : Int64) (p1 : Int64)  : ok (F_X4_workOut p0 p1) (fun r => True) := by
  have l032 : (0 : Int32).toInt = 0 := by decide
  have l064 : (0 : Int64).toInt = 0 := by decide
  have l132 : (1 : Int32).toInt = 1 := by decide
  have l164 : (1 : Int64).toInt = 1 := by decide
  have l100032 : (1000 : Int32).toInt = 1000 := by decide
  unfold F_X4_workOut
  refine ok_L7 (fun y5_33 c_t_first_33 c_t_ofOne_33 c_t_ofOther_33 c_t_second_33 c_t_secondOfOne_33 c_t_secondOfOther_33 => 0 ≤ y5_33.toInt) (fun y5_33 c_t_first_33 c_t_ofOne_33 c_t_ofOther_33 c_t_second_33 c_t_secondOfOne_33 c_t_secondOfOther_33 => (1000 - y5_33.toInt + 1).toNat) (fun ih33 y5_33 c_t_first_33 c_t_ofOne_33 c_t_ofOther_33 c_t_second_33 c_t_secondOfOne_33 c_t_secondOfOther_33 hI1 hih1 => ?_) 20000 (0 : Int32) p0 (1 : Int64) (0 : Int64) p1 (0 : Int64) (1 : Int64) (show 0 ≤ (0 : Int32).toInt from by first | omega | assumption | trivial | (refine ⟨?_, ?_⟩ <;> first | omega | assumption | trivial | rfl) | (refine ⟨?_, ?_, ?_⟩ <;> first | omega | assumption | trivial | rfl) | (refine ⟨?_, ?_, ?_, ?_⟩ <;> first | omega | assumption | trivial | rfl) | (refine ⟨?_, ?_, ?_, ?_, ?_⟩ <;> first | omega | assumption | trivial | rfl)) (show (1000 - (0 : Int32).toInt + 1).toNat < 20000 from by omega)
  have hI1 : 0 ≤ y5_33.toInt := hI1
  unfold S_X4_workOut_33
  refine ok_le (fun c2 => ?_) (fun c2 => ?_)
  · exact ok_s trivial
  · refine ok_eqL (fun c3 => ?_) (fun c3 => ?_)
    · exact ok_s trivial
    · refine ok_o (sp_X0_quotient c_t_first_33 c_t_second_33 ) (fun r59 h4 => ?_)
      refine ok_o6 (sp_X4_goOn c_t_first_33 c_t_ofOne_33 c_t_ofOther_33 c_t_second_33 c_t_secondOfOne_33 c_t_secondOfOther_33 r59 ) (fun c_t_first_62 c_t_ofOne_62 c_t_ofOther_62 c_t_second_62 c_t_secondOfOne_62 c_t_secondOfOther_62 h5 => ?_)
      try have q6 := addT (a := y5_33) (b := 1) (by omega) (by omega)
      refine ok_bx (fun x5_65 e_x5_65 => ?_)
      have t_x5_65 : x5_65.toInt = (y5_33 + 1).toInt := by rw [e_x5_65]
      exact hih1 x5_65 c_t_first_62 c_t_ofOne_62 c_t_ofOther_62 c_t_second_62 c_t_secondOfOne_62 c_t_secondOfOther_62 (show 0 ≤ x5_65.toInt from by first | omega | assumption | trivial | (refine ⟨?_, ?_⟩ <;> first | omega | assumption | trivial | rfl) | (refine ⟨?_, ?_, ?_⟩ <;> first | omega | assumption | trivial | rfl) | (refine ⟨?_, ?_, ?_, ?_⟩ <;> first | omega | assumption | trivial | rfl) | (refine ⟨?_, ?_, ?_, ?_, ?_⟩ <;> first | omega | assumption | trivial | rfl)) (show (1000 - x5_65.toInt + 1).toNat < (1000 - y5_33.toInt + 1).toNat from by omega)
set_option maxHeartbeats 1000000 in
theorem sp_X0_powerRest (p0 : Int64) (p1 : Int32) (p2 : Int64)  : ok (F_X0_powerRest p0 p1 p2) (fun r => True) := by
  have lm132 : (-1 : Int32).toInt = -1 := by decide
  have l032 : (0 : Int32).toInt = 0 := by decide
  have l132 : (1 : Int32).toInt = 1 := by decide
  have l164 : (1 : Int64).toInt = 1 := by decide
  have l732 : (7 : Int32).toInt = 7 := by decide
  unfold F_X0_powerRest
  refine ok_o (sp_X0_rest p0 p2 ) (fun r2 h1 => ?_)
  refine ok_o (sp_X0_rest (1 : Int64) p2 ) (fun r9 h2 => ?_)
  refine ok_L2 (fun y7_18 y9_18 => y9_18.toInt ≤ 64) (fun y7_18 y9_18 => (y9_18.toInt + 1).toNat) (fun ih18 y7_18 y9_18 hI3 hih3 => ?_) 20000 r9 (7 : Int32) (show (7 : Int32).toInt ≤ 64 from by first | omega | assumption | trivial | (refine ⟨?_, ?_⟩ <;> first | omega | assumption | trivial | rfl) | (refine ⟨?_, ?_, ?_⟩ <;> first | omega | assumption | trivial | rfl) | (refine ⟨?_, ?_, ?_, ?_⟩ <;> first | omega | assumption | trivial | rfl) | (refine ⟨?_, ?_, ?_, ?_, ?_⟩ <;> first | omega | assumption | trivial | rfl)) (show ((7 : Int32).toInt + 1).toNat < 20000 from by omega)
  have hI3 : y9_18.toInt ≤ 64 := hI3
  unfold S_X0_powerRest_18
  refine ok_lt (fun c4 => ?_) (fun c4 => ?_)
  · exact ok_s trivial
  · refine ok_o (sp_X0_squared y7_18 ) (fun r25 h5 => ?_)
    refine ok_o (sp_X0_rest r25 p2 ) (fun r29 h6 => ?_)
    refine ok_eq (fun c7 => ?_) (fun c7 => ?_)
    · refine ok_o (sp_X0_multiplied r29 r2 ) (fun r48 h8 => ?_)
      refine ok_o (sp_X0_rest r48 p2 ) (fun r52 h9 => ?_)
      try have q10 := addT (a := y9_18) (b := (-1)) (by omega) (by omega)
      refine ok_bx (fun x9_57 e_x9_57 => ?_)
      have t_x9_57 : x9_57.toInt = (y9_18 + (-1)).toInt := by rw [e_x9_57]
      exact hih3 r52 x9_57 (show x9_57.toInt ≤ 64 from by first | omega | assumption | trivial | (refine ⟨?_, ?_⟩ <;> first | omega | assumption | trivial | rfl) | (refine ⟨?_, ?_, ?_⟩ <;> first | omega | assumption | trivial | rfl) | (refine ⟨?_, ?_, ?_, ?_⟩ <;> first | omega | assumption | trivial | rfl) | (refine ⟨?_, ?_, ?_, ?_, ?_⟩ <;> first | omega | assumption | trivial | rfl)) (show (x9_57.toInt + 1).toNat < (y9_18.toInt + 1).toNat from by omega)
    · try have q11 := addT (a := y9_18) (b := (-1)) (by omega) (by omega)
      refine ok_bx (fun x9_57_2 e_x9_57_2 => ?_)
      have t_x9_57_2 : x9_57_2.toInt = (y9_18 + (-1)).toInt := by rw [e_x9_57_2]
      exact hih3 r29 x9_57_2 (show x9_57_2.toInt ≤ 64 from by first | omega | assumption | trivial | (refine ⟨?_, ?_⟩ <;> first | omega | assumption | trivial | rfl) | (refine ⟨?_, ?_, ?_⟩ <;> first | omega | assumption | trivial | rfl) | (refine ⟨?_, ?_, ?_, ?_⟩ <;> first | omega | assumption | trivial | rfl) | (refine ⟨?_, ?_, ?_, ?_, ?_⟩ <;> first | omega | assumption | trivial | rfl)) (show (x9_57_2.toInt + 1).toNat < (y9_18.toInt + 1).toNat from by omega)
set_option maxHeartbeats 1000000 in
theorem sp_X0_goesInto (p0 : Int64) (p1 : Int64)  : ok (F_X0_goesInto p0 p1) (fun r => r.toInt = 0 ∨ r.toInt = 1) := by
  have l032 : (0 : Int32).toInt = 0 := by decide
  have l064 : (0 : Int64).toInt = 0 := by decide
  have l132 : (1 : Int32).toInt = 1 := by decide
  unfold F_X0_goesInto
  refine ok_o (sp_X0_rest p1 p0 ) (fun r2 h1 => ?_)
  refine ok_eqL (fun c2 => ?_) (fun c2 => ?_)
  · exact ok_s (show (1 : Int32).toInt = 0 ∨ (1 : Int32).toInt = 1 from by first | omega | assumption | trivial | (refine ⟨?_, ?_⟩ <;> first | omega | assumption | trivial | rfl) | (refine ⟨?_, ?_, ?_⟩ <;> first | omega | assumption | trivial | rfl) | (refine ⟨?_, ?_, ?_, ?_⟩ <;> first | omega | assumption | trivial | rfl) | (refine ⟨?_, ?_, ?_, ?_, ?_⟩ <;> first | omega | assumption | trivial | rfl))
  · exact ok_s (show (0 : Int32).toInt = 0 ∨ (0 : Int32).toInt = 1 from by first | omega | assumption | trivial | (refine ⟨?_, ?_⟩ <;> first | omega | assumption | trivial | rfl) | (refine ⟨?_, ?_, ?_⟩ <;> first | omega | assumption | trivial | rfl) | (refine ⟨?_, ?_, ?_, ?_⟩ <;> first | omega | assumption | trivial | rfl) | (refine ⟨?_, ?_, ?_, ?_, ?_⟩ <;> first | omega | assumption | trivial | rfl))
