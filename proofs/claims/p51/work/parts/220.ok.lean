set_option maxHeartbeats 1000000 in
theorem sp_X7_isBetween (p0 : Int32) (p1 : Int32) (p2 : Int32)  : ok (F_X7_isBetween p0 p1 p2) (fun r => (r.toInt = 0 ∧ (p0.toInt < p1.toInt ∨ p2.toInt < p0.toInt)) ∨ (r.toInt = 1 ∧ p1.toInt ≤ p0.toInt ∧ p0.toInt ≤ p2.toInt)) := by
  have l032 : (0 : Int32).toInt = 0 := by decide
  have l132 : (1 : Int32).toInt = 1 := by decide
  unfold F_X7_isBetween
  refine ok_lt (fun c1 => ?_) (fun c1 => ?_)
  · exact ok_s (show ((0 : Int32).toInt = 0 ∧ (p0.toInt < p1.toInt ∨ p2.toInt < p0.toInt)) ∨ ((0 : Int32).toInt = 1 ∧ p1.toInt ≤ p0.toInt ∧ p0.toInt ≤ p2.toInt) from by first | omega | assumption | trivial | (refine ⟨?_, ?_⟩ <;> first | omega | assumption | trivial | rfl) | (refine ⟨?_, ?_, ?_⟩ <;> first | omega | assumption | trivial | rfl) | (refine ⟨?_, ?_, ?_, ?_⟩ <;> first | omega | assumption | trivial | rfl) | (refine ⟨?_, ?_, ?_, ?_, ?_⟩ <;> first | omega | assumption | trivial | rfl) | (refine ⟨?_, ?_, ?_, ?_, ?_, ?_⟩ <;> first | omega | assumption | trivial | rfl) | (refine ⟨?_, ?_, ?_, ?_, ?_, ?_, ?_⟩ <;> first | omega | assumption | trivial | rfl) | (refine ⟨?_, ?_, ?_, ?_, ?_, ?_, ?_, ?_⟩ <;> first | omega | assumption | trivial | rfl))
  · refine ok_lt (fun c2 => ?_) (fun c2 => ?_)
    · exact ok_s (show ((0 : Int32).toInt = 0 ∧ (p0.toInt < p1.toInt ∨ p2.toInt < p0.toInt)) ∨ ((0 : Int32).toInt = 1 ∧ p1.toInt ≤ p0.toInt ∧ p0.toInt ≤ p2.toInt) from by first | omega | assumption | trivial | (refine ⟨?_, ?_⟩ <;> first | omega | assumption | trivial | rfl) | (refine ⟨?_, ?_, ?_⟩ <;> first | omega | assumption | trivial | rfl) | (refine ⟨?_, ?_, ?_, ?_⟩ <;> first | omega | assumption | trivial | rfl) | (refine ⟨?_, ?_, ?_, ?_, ?_⟩ <;> first | omega | assumption | trivial | rfl) | (refine ⟨?_, ?_, ?_, ?_, ?_, ?_⟩ <;> first | omega | assumption | trivial | rfl) | (refine ⟨?_, ?_, ?_, ?_, ?_, ?_, ?_⟩ <;> first | omega | assumption | trivial | rfl) | (refine ⟨?_, ?_, ?_, ?_, ?_, ?_, ?_, ?_⟩ <;> first | omega | assumption | trivial | rfl))
    · exact ok_s (show ((1 : Int32).toInt = 0 ∧ (p0.toInt < p1.toInt ∨ p2.toInt < p0.toInt)) ∨ ((1 : Int32).toInt = 1 ∧ p1.toInt ≤ p0.toInt ∧ p0.toInt ≤ p2.toInt) from by first | omega | assumption | trivial | (refine ⟨?_, ?_⟩ <;> first | omega | assumption | trivial | rfl) | (refine ⟨?_, ?_, ?_⟩ <;> first | omega | assumption | trivial | rfl) | (refine ⟨?_, ?_, ?_, ?_⟩ <;> first | omega | assumption | trivial | rfl) | (refine ⟨?_, ?_, ?_, ?_, ?_⟩ <;> first | omega | assumption | trivial | rfl) | (refine ⟨?_, ?_, ?_, ?_, ?_, ?_⟩ <;> first | omega | assumption | trivial | rfl) | (refine ⟨?_, ?_, ?_, ?_, ?_, ?_, ?_⟩ <;> first | omega | assumption | trivial | rfl) | (refine ⟨?_, ?_, ?_, ?_, ?_, ?_, ?_, ?_⟩ <;> first | omega | assumption | trivial | rfl))
set_option maxHeartbeats 1000000 in
theorem sp_X7_testForm (p0 : Int32)  : ok (F_X7_testForm p0) (fun r => (r = 0 ∧ 0 ≤ p0.toInt ∧ p0.toInt ≤ 5) ∨ r = 1) := by
  have l032 : (0 : Int32).toInt = 0 := by decide
  have l532 : (5 : Int32).toInt = 5 := by decide
  unfold F_X7_testForm
  refine ok_o (sp_X7_isBetween p0 (0 : Int32) (5 : Int32) ) (fun r3 h1 => ?_)
  have h1 : (r3.toInt = 0 ∧ (p0.toInt < (0 : Int32).toInt ∨ (5 : Int32).toInt < p0.toInt)) ∨ (r3.toInt = 1 ∧ (0 : Int32).toInt ≤ p0.toInt ∧ p0.toInt ≤ (5 : Int32).toInt) := h1
  refine ok_eq (fun c2 => ?_) (fun c2 => ?_)
  · exact ok_s (show (1 = 0 ∧ 0 ≤ p0.toInt ∧ p0.toInt ≤ 5) ∨ 1 = 1 from by first | omega | assumption | trivial | (refine ⟨?_, ?_⟩ <;> first | omega | assumption | trivial | rfl) | (refine ⟨?_, ?_, ?_⟩ <;> first | omega | assumption | trivial | rfl) | (refine ⟨?_, ?_, ?_, ?_⟩ <;> first | omega | assumption | trivial | rfl) | (refine ⟨?_, ?_, ?_, ?_, ?_⟩ <;> first | omega | assumption | trivial | rfl) | (refine ⟨?_, ?_, ?_, ?_, ?_, ?_⟩ <;> first | omega | assumption | trivial | rfl) | (refine ⟨?_, ?_, ?_, ?_, ?_, ?_, ?_⟩ <;> first | omega | assumption | trivial | rfl) | (refine ⟨?_, ?_, ?_, ?_, ?_, ?_, ?_, ?_⟩ <;> first | omega | assumption | trivial | rfl))
  · exact ok_s (show (0 = 0 ∧ 0 ≤ p0.toInt ∧ p0.toInt ≤ 5) ∨ 0 = 1 from by first | omega | assumption | trivial | (refine ⟨?_, ?_⟩ <;> first | omega | assumption | trivial | rfl) | (refine ⟨?_, ?_, ?_⟩ <;> first | omega | assumption | trivial | rfl) | (refine ⟨?_, ?_, ?_, ?_⟩ <;> first | omega | assumption | trivial | rfl) | (refine ⟨?_, ?_, ?_, ?_, ?_⟩ <;> first | omega | assumption | trivial | rfl) | (refine ⟨?_, ?_, ?_, ?_, ?_, ?_⟩ <;> first | omega | assumption | trivial | rfl) | (refine ⟨?_, ?_, ?_, ?_, ?_, ?_, ?_⟩ <;> first | omega | assumption | trivial | rfl) | (refine ⟨?_, ?_, ?_, ?_, ?_, ?_, ?_, ?_⟩ <;> first | omega | assumption | trivial | rfl))
set_option maxHeartbeats 1000000 in
theorem sp_X7_testRange (p0 : Int32) (p1 : Int32) (p2 : Int32)  : ok (F_X7_testRange p0 p1 p2) (fun r => (r = 0 ∧ p1.toInt ≤ p0.toInt ∧ p0.toInt ≤ p2.toInt) ∨ (r = 2 ∧ (p0.toInt < p1.toInt ∨ p2.toInt < p0.toInt))) := by
  have l032 : (0 : Int32).toInt = 0 := by decide
  unfold F_X7_testRange
  refine ok_o (sp_X7_isBetween p0 p1 p2 ) (fun r3 h1 => ?_)
  have h1 : (r3.toInt = 0 ∧ (p0.toInt < p1.toInt ∨ p2.toInt < p0.toInt)) ∨ (r3.toInt = 1 ∧ p1.toInt ≤ p0.toInt ∧ p0.toInt ≤ p2.toInt) := h1
  refine ok_eq (fun c2 => ?_) (fun c2 => ?_)
  · exact ok_s (show (2 = 0 ∧ p1.toInt ≤ p0.toInt ∧ p0.toInt ≤ p2.toInt) ∨ (2 = 2 ∧ (p0.toInt < p1.toInt ∨ p2.toInt < p0.toInt)) from by first | omega | assumption | trivial | (refine ⟨?_, ?_⟩ <;> first | omega | assumption | trivial | rfl) | (refine ⟨?_, ?_, ?_⟩ <;> first | omega | assumption | trivial | rfl) | (refine ⟨?_, ?_, ?_, ?_⟩ <;> first | omega | assumption | trivial | rfl) | (refine ⟨?_, ?_, ?_, ?_, ?_⟩ <;> first | omega | assumption | trivial | rfl) | (refine ⟨?_, ?_, ?_, ?_, ?_, ?_⟩ <;> first | omega | assumption | trivial | rfl) | (refine ⟨?_, ?_, ?_, ?_, ?_, ?_, ?_⟩ <;> first | omega | assumption | trivial | rfl) | (refine ⟨?_, ?_, ?_, ?_, ?_, ?_, ?_, ?_⟩ <;> first | omega | assumption | trivial | rfl))
  · exact ok_s (show (0 = 0 ∧ p1.toInt ≤ p0.toInt ∧ p0.toInt ≤ p2.toInt) ∨ (0 = 2 ∧ (p0.toInt < p1.toInt ∨ p2.toInt < p0.toInt)) from by first | omega | assumption | trivial | (refine ⟨?_, ?_⟩ <;> first | omega | assumption | trivial | rfl) | (refine ⟨?_, ?_, ?_⟩ <;> first | omega | assumption | trivial | rfl) | (refine ⟨?_, ?_, ?_, ?_⟩ <;> first | omega | assumption | trivial | rfl) | (refine ⟨?_, ?_, ?_, ?_, ?_⟩ <;> first | omega | assumption | trivial | rfl) | (refine ⟨?_, ?_, ?_, ?_, ?_, ?_⟩ <;> first | omega | assumption | trivial | rfl) | (refine ⟨?_, ?_, ?_, ?_, ?_, ?_, ?_⟩ <;> first | omega | assumption | trivial | rfl) | (refine ⟨?_, ?_, ?_, ?_, ?_, ?_, ?_, ?_⟩ <;> first | omega | assumption | trivial | rfl))
set_option maxHeartbeats 1000000 in
theorem sp_X7_testPlace (p0 : Int32)  : ok (F_X7_testPlace p0) (fun r => (r = 0 ∧ 0 ≤ p0.toInt ∧ p0.toInt ≤ 39) ∨ r = 1) := by
  have l032 : (0 : Int32).toInt = 0 := by decide
  have l3932 : (39 : Int32).toInt = 39 := by decide
  unfold F_X7_testPlace
  refine ok_o (sp_X7_isBetween p0 (0 : Int32) (39 : Int32) ) (fun r4 h1 => ?_)
  have h1 : (r4.toInt = 0 ∧ (p0.toInt < (0 : Int32).toInt ∨ (39 : Int32).toInt < p0.toInt)) ∨ (r4.toInt = 1 ∧ (0 : Int32).toInt ≤ p0.toInt ∧ p0.toInt ≤ (39 : Int32).toInt) := h1
  refine ok_eq (fun c2 => ?_) (fun c2 => ?_)
  · exact ok_s (show (1 = 0 ∧ 0 ≤ p0.toInt ∧ p0.toInt ≤ 39) ∨ 1 = 1 from by first | omega | assumption | trivial | (refine ⟨?_, ?_⟩ <;> first | omega | assumption | trivial | rfl) | (refine ⟨?_, ?_, ?_⟩ <;> first | omega | assumption | trivial | rfl) | (refine ⟨?_, ?_, ?_, ?_⟩ <;> first | omega | assumption | trivial | rfl) | (refine ⟨?_, ?_, ?_, ?_, ?_⟩ <;> first | omega | assumption | trivial | rfl) | (refine ⟨?_, ?_, ?_, ?_, ?_, ?_⟩ <;> first | omega | assumption | trivial | rfl) | (refine ⟨?_, ?_, ?_, ?_, ?_, ?_, ?_⟩ <;> first | omega | assumption | trivial | rfl) | (refine ⟨?_, ?_, ?_, ?_, ?_, ?_, ?_, ?_⟩ <;> first | omega | assumption | trivial | rfl))
  · exact ok_s (show (0 = 0 ∧ 0 ≤ p0.toInt ∧ p0.toInt ≤ 39) ∨ 0 = 1 from by first | omega | assumption | trivial | (refine ⟨?_, ?_⟩ <;> first | omega | assumption | trivial | rfl) | (refine ⟨?_, ?_, ?_⟩ <;> first | omega | assumption | trivial | rfl) | (refine ⟨?_, ?_, ?_, ?_⟩ <;> first | omega | assumption | trivial | rfl) | (refine ⟨?_, ?_, ?_, ?_, ?_⟩ <;> first | omega | assumption | trivial | rfl) | (refine ⟨?_, ?_, ?_, ?_, ?_, ?_⟩ <;> first | omega | assumption | trivial | rfl) | (refine ⟨?_, ?_, ?_, ?_, ?_, ?_, ?_⟩ <;> first | omega | assumption | trivial | rfl) | (refine ⟨?_, ?_, ?_, ?_, ?_, ?_, ?_, ?_⟩ <;> first | omega | assumption | trivial | rfl))
set_option maxHeartbeats 1000000 in
theorem sp_X7_testForms (p0 : Int32) (p1 : Int32) (p2 : Int32)  : ok (F_X7_testForms p0 p1 p2) (fun r => (r = 0 ∧ 0 ≤ p0.toInt ∧ p0.toInt ≤ 5 ∧ 0 ≤ p1.toInt ∧ p1.toInt ≤ 5 ∧ 0 ≤ p2.toInt ∧ p2.toInt ≤ 5) ∨ r = 1) := by
  have l032 : (0 : Int32).toInt = 0 := by decide
  unfold F_X7_testForms
  refine ok_o (sp_X7_testForm p0 ) (fun xc1 h1 => ?_)
  have h1 : (xc1 = 0 ∧ 0 ≤ p0.toInt ∧ p0.toInt ≤ 5) ∨ xc1 = 1 := h1
  refine ok_i (fun c2 => ?_) (fun c2 => ?_)
  · refine ok_o (sp_X7_testForm p1 ) (fun xc5 h3 => ?_)
    have h3 : (xc5 = 0 ∧ 0 ≤ p1.toInt ∧ p1.toInt ≤ 5) ∨ xc5 = 1 := h3
    refine ok_i (fun c4 => ?_) (fun c4 => ?_)
    · refine ok_o (sp_X7_testForm p2 ) (fun xc9 h5 => ?_)
      have h5 : (xc9 = 0 ∧ 0 ≤ p2.toInt ∧ p2.toInt ≤ 5) ∨ xc9 = 1 := h5
      refine ok_i (fun c6 => ?_) (fun c6 => ?_)
      · exact ok_s (show (0 = 0 ∧ 0 ≤ p0.toInt ∧ p0.toInt ≤ 5 ∧ 0 ≤ p1.toInt ∧ p1.toInt ≤ 5 ∧ 0 ≤ p2.toInt ∧ p2.toInt ≤ 5) ∨ 0 = 1 from by first | omega | assumption | trivial | (refine ⟨?_, ?_⟩ <;> first | omega | assumption | trivial | rfl) | (refine ⟨?_, ?_, ?_⟩ <;> first | omega | assumption | trivial | rfl) | (refine ⟨?_, ?_, ?_, ?_⟩ <;> first | omega | assumption | trivial | rfl) | (refine ⟨?_, ?_, ?_, ?_, ?_⟩ <;> first | omega | assumption | trivial | rfl) | (refine ⟨?_, ?_, ?_, ?_, ?_, ?_⟩ <;> first | omega | assumption | trivial | rfl) | (refine ⟨?_, ?_, ?_, ?_, ?_, ?_, ?_⟩ <;> first | omega | assumption | trivial | rfl) | (refine ⟨?_, ?_, ?_, ?_, ?_, ?_, ?_, ?_⟩ <;> first | omega | assumption | trivial | rfl))
      · exact ok_s (show (xc9 = 0 ∧ 0 ≤ p0.toInt ∧ p0.toInt ≤ 5 ∧ 0 ≤ p1.toInt ∧ p1.toInt ≤ 5 ∧ 0 ≤ p2.toInt ∧ p2.toInt ≤ 5) ∨ xc9 = 1 from by first | omega | assumption | trivial | (refine ⟨?_, ?_⟩ <;> first | omega | assumption | trivial | rfl) | (refine ⟨?_, ?_, ?_⟩ <;> first | omega | assumption | trivial | rfl) | (refine ⟨?_, ?_, ?_, ?_⟩ <;> first | omega | assumption | trivial | rfl) | (refine ⟨?_, ?_, ?_, ?_, ?_⟩ <;> first | omega | assumption | trivial | rfl) | (refine ⟨?_, ?_, ?_, ?_, ?_, ?_⟩ <;> first | omega | assumption | trivial | rfl) | (refine ⟨?_, ?_, ?_, ?_, ?_, ?_, ?_⟩ <;> first | omega | assumption | trivial | rfl) | (refine ⟨?_, ?_, ?_, ?_, ?_, ?_, ?_, ?_⟩ <;> first | omega | assumption | trivial | rfl))
    · exact ok_s (show (xc5 = 0 ∧ 0 ≤ p0.toInt ∧ p0.toInt ≤ 5 ∧ 0 ≤ p1.toInt ∧ p1.toInt ≤ 5 ∧ 0 ≤ p2.toInt ∧ p2.toInt ≤ 5) ∨ xc5 = 1 from by first | omega | assumption | trivial | (refine ⟨?_, ?_⟩ <;> first | omega | assumption | trivial | rfl) | (refine ⟨?_, ?_, ?_⟩ <;> first | omega | assumption | trivial | rfl) | (refine ⟨?_, ?_, ?_, ?_⟩ <;> first | omega | assumption | trivial | rfl) | (refine ⟨?_, ?_, ?_, ?_, ?_⟩ <;> first | omega | assumption | trivial | rfl) | (refine ⟨?_, ?_, ?_, ?_, ?_, ?_⟩ <;> first | omega | assumption | trivial | rfl) | (refine ⟨?_, ?_, ?_, ?_, ?_, ?_, ?_⟩ <;> first | omega | assumption | trivial | rfl) | (refine ⟨?_, ?_, ?_, ?_, ?_, ?_, ?_, ?_⟩ <;> first | omega | assumption | trivial | rfl))
  · exact ok_s (show (xc1 = 0 ∧ 0 ≤ p0.toInt ∧ p0.toInt ≤ 5 ∧ 0 ≤ p1.toInt ∧ p1.toInt ≤ 5 ∧ 0 ≤ p2.toInt ∧ p2.toInt ≤ 5) ∨ xc1 = 1 from by first | omega | assumption | trivial | (refine ⟨?_, ?_⟩ <;> first | omega | assumption | trivial | rfl) | (refine ⟨?_, ?_, ?_⟩ <;> first | omega | assumption | trivial | rfl) | (refine ⟨?_, ?_, ?_, ?_⟩ <;> first | omega | assumption | trivial | rfl) | (refine ⟨?_, ?_, ?_, ?_, ?_⟩ <;> first | omega | assumption | trivial | rfl) | (refine ⟨?_, ?_, ?_, ?_, ?_, ?_⟩ <;> first | omega | assumption | trivial | rfl) | (refine ⟨?_, ?_, ?_, ?_, ?_, ?_, ?_⟩ <;> first | omega | assumption | trivial | rfl) | (refine ⟨?_, ?_, ?_, ?_, ?_, ?_, ?_, ?_⟩ <;> first | omega | assumption | trivial | rfl))
set_option maxHeartbeats 1000000 in
theorem sp_J13_bitCount_95d88 (p0 : Int64)  : ok (F_J13_bitCount_95d88 p0) (fun r => True) := by
  have l132 : (1 : Int32).toInt = 1 := by decide
  have l232 : (2 : Int32).toInt = 2 := by decide
  have l432 : (4 : Int32).toInt = 4 := by decide
  have l832 : (8 : Int32).toInt = 8 := by decide
  have l1632 : (16 : Int32).toInt = 16 := by decide
  have l3232 : (32 : Int32).toInt = 32 := by decide
  have l12732 : (127 : Int32).toInt = 127 := by decide
  unfold F_J13_bitCount_95d88
  refine ok_bx (fun x0_9 e_x0_9 => ?_)
  refine ok_bx (fun x0_23 e_x0_23 => ?_)
  refine ok_bx (fun x0_33 e_x0_33 => ?_)
  refine ok_bx (fun x0_40 e_x0_40 => ?_)
  refine ok_bx (fun x0_47 e_x0_47 => ?_)
  refine ok_bx (fun x0_54 e_x0_54 => ?_)
  exact ok_s trivial
set_option maxHeartbeats 1000000 in
theorem sp_X0_degreeOf (p0 : Int64)  : ok (F_X0_degreeOf p0) (fun r => r.toInt = DG p0 ∧ -1 ≤ r.toInt ∧ r.toInt ≤ 63) := by
  obtain ⟨n, hn, rfl⟩ := wb_of p0
  have h1 := dgI_T hn
  have h2 : bl n ≤ 64 := bl_le.mpr hn
  rw [x0_deg hn]
  have h3 := DG_lN hn
  exact ok_s (show (dgI n).toInt = DG (lN n) ∧ -1 ≤ (dgI n).toInt ∧ (dgI n).toInt ≤ 63 from by omega)
set_option maxHeartbeats 1000000 in
theorem sp_X0_hasOne (p0 : Int64) (p1 : Int32)  : ok (F_X0_hasOne p0 p1) (fun r => r.toInt = 0 ∨ r.toInt = 1) := by
  have l032 : (0 : Int32).toInt = 0 := by decide
  have l132 : (1 : Int32).toInt = 1 := by decide
  have l164 : (1 : Int64).toInt = 1 := by decide
  unfold F_X0_hasOne
  refine ok_eqL (fun c1 => ?_) (fun c1 => ?_)
  · exact ok_s (show (1 : Int32).toInt = 0 ∨ (1 : Int32).toInt = 1 from by first | omega | assumption | trivial | (refine ⟨?_, ?_⟩ <;> first | omega | assumption | trivial | rfl) | (refine ⟨?_, ?_, ?_⟩ <;> first | omega | assumption | trivial | rfl) | (refine ⟨?_, ?_, ?_, ?_⟩ <;> first | omega | assumption | trivial | rfl) | (refine ⟨?_, ?_, ?_, ?_, ?_⟩ <;> first | omega | assumption | trivial | rfl) | (refine ⟨?_, ?_, ?_, ?_, ?_, ?_⟩ <;> first | omega | assumption | trivial | rfl) | (refine ⟨?_, ?_, ?_, ?_, ?_, ?_, ?_⟩ <;> first | omega | assumption | trivial | rfl) | (refine ⟨?_, ?_, ?_, ?_, ?_, ?_, ?_, ?_⟩ <;> first | omega | assumption | trivial | rfl))
  · exact ok_s (show (0 : Int32).toInt = 0 ∨ (0 : Int32).toInt = 1 from by first | omega | assumption | trivial | (refine ⟨?_, ?_⟩ <;> first | omega | assumption | trivial | rfl) | (refine ⟨?_, ?_, ?_⟩ <;> first | omega | assumption | trivial | rfl) | (refine ⟨?_, ?_, ?_, ?_⟩ <;> first | omega | assumption | trivial | rfl) | (refine ⟨?_, ?_, ?_, ?_, ?_⟩ <;> first | omega | assumption | trivial | rfl) | (refine ⟨?_, ?_, ?_, ?_, ?_, ?_⟩ <;> first | omega | assumption | trivial | rfl) | (refine ⟨?_, ?_, ?_, ?_, ?_, ?_, ?_⟩ <;> first | omega | assumption | trivial | rfl) | (refine ⟨?_, ?_, ?_, ?_, ?_, ?_, ?_, ?_⟩ <;> first | omega | assumption | trivial | rfl))
set_option maxHeartbeats 1000000 in
theorem sp_X0_onesOf (p0 : Int64)  : ok (F_X0_onesOf p0) (fun r => True) := by
  unfold F_X0_onesOf
  refine ok_o (sp_J13_bitCount_95d88 p0 ) (fun r1 h1 => ?_)
  exact ok_s trivial
set_option maxHeartbeats 1000000 in
theorem sp_X0_turned (p0 : Int64)  : ok (F_X0_turned p0) (fun r => True) := by
  have l032 : (0 : Int32).toInt = 0 := by decide
  have l064 : (0 : Int64).toInt = 0 := by decide
  have l132 : (1 : Int32).toInt = 1 := by decide
  have l164 : (1 : Int64).toInt = 1 := by decide
  unfold F_X0_turned
  refine ok_o (sp_X0_degreeOf p0 ) (fun r3 h1 => ?_)
  have h1 : r3.toInt = DG p0 ∧ -1 ≤ r3.toInt ∧ r3.toInt ≤ 63 := h1
  refine ok_L2 (fun y2_11 y5_11 => 0 ≤ y5_11.toInt) (fun y2_11 y5_11 => (r3.toInt - y5_11.toInt + 1).toNat) (fun ih11 y2_11 y5_11 hI2 hih2 => ?_) 20000 (0 : Int64) (0 : Int32) (show 0 ≤ (0 : Int32).toInt from by first | omega | assumption | trivial | (refine ⟨?_, ?_⟩ <;> first | omega | assumption | trivial | rfl) | (refine ⟨?_, ?_, ?_⟩ <;> first | omega | assumption | trivial | rfl) | (refine ⟨?_, ?_, ?_, ?_⟩ <;> first | omega | assumption | trivial | rfl) | (refine ⟨?_, ?_, ?_, ?_, ?_⟩ <;> first | omega | assumption | trivial | rfl) | (refine ⟨?_, ?_, ?_, ?_, ?_, ?_⟩ <;> first | omega | assumption | trivial | rfl) | (refine ⟨?_, ?_, ?_, ?_, ?_, ?_, ?_⟩ <;> first | omega | assumption | trivial | rfl) | (refine ⟨?_, ?_, ?_, ?_, ?_, ?_, ?_, ?_⟩ <;> first | omega | assumption | trivial | rfl)) (show (r3.toInt - (0 : Int32).toInt + 1).toNat < 20000 from by omega)
  have hI2 : 0 ≤ y5_11.toInt := hI2
  unfold S_X0_turned_11
  refine ok_lt (fun c3 => ?_) (fun c3 => ?_)
  · exact ok_s trivial
  · refine ok_bx (fun x2_28 e_x2_28 => ?_)
    refine ok_bx (fun x5_29 e_x5_29 => ?_)
    try have t_x5_29 : x5_29.toInt = y5_11.toInt + 1 := by rw [e_x5_29]; exact addT1 (show (1 : Int32).toInt = 1 from by decide) (by omega) (by omega)
    exact hih2 x2_28 x5_29 (show 0 ≤ x5_29.toInt from by first | omega | assumption | trivial | (refine ⟨?_, ?_⟩ <;> first | omega | assumption | trivial | rfl) | (refine ⟨?_, ?_, ?_⟩ <;> first | omega | assumption | trivial | rfl) | (refine ⟨?_, ?_, ?_, ?_⟩ <;> first | omega | assumption | trivial | rfl) | (refine ⟨?_, ?_, ?_, ?_, ?_⟩ <;> first | omega | assumption | trivial | rfl) | (refine ⟨?_, ?_, ?_, ?_, ?_, ?_⟩ <;> first | omega | assumption | trivial | rfl) | (refine ⟨?_, ?_, ?_, ?_, ?_, ?_, ?_⟩ <;> first | omega | assumption | trivial | rfl) | (refine ⟨?_, ?_, ?_, ?_, ?_, ?_, ?_, ?_⟩ <;> first | omega | assumption | trivial | rfl)) (show (r3.toInt - x5_29.toInt + 1).toNat < (r3.toInt - y5_11.toInt + 1).toNat from by omega)
set_option maxHeartbeats 1000000 in
theorem sp_X0_haveProduct (p0 : Int64) (p1 : Int64)  : ok (F_X0_haveProduct p0 p1) (fun r => r.toInt = 0 ∨ r.toInt = 1) := by
  have l032 : (0 : Int32).toInt = 0 := by decide
  have l064 : (0 : Int64).toInt = 0 := by decide
  have l132 : (1 : Int32).toInt = 1 := by decide
  have l3932 : (39 : Int32).toInt = 39 := by decide
  unfold F_X0_haveProduct
  refine ok_eqL (fun c1 => ?_) (fun c1 => ?_)
  · exact ok_s (show (1 : Int32).toInt = 0 ∨ (1 : Int32).toInt = 1 from by first | omega | assumption | trivial | (refine ⟨?_, ?_⟩ <;> first | omega | assumption | trivial | rfl) | (refine ⟨?_, ?_, ?_⟩ <;> first | omega | assumption | trivial | rfl) | (refine ⟨?_, ?_, ?_, ?_⟩ <;> first | omega | assumption | trivial | rfl) | (refine ⟨?_, ?_, ?_, ?_, ?_⟩ <;> first | omega | assumption | trivial | rfl) | (refine ⟨?_, ?_, ?_, ?_, ?_, ?_⟩ <;> first | omega | assumption | trivial | rfl) | (refine ⟨?_, ?_, ?_, ?_, ?_, ?_, ?_⟩ <;> first | omega | assumption | trivial | rfl) | (refine ⟨?_, ?_, ?_, ?_, ?_, ?_, ?_, ?_⟩ <;> first | omega | assumption | trivial | rfl))
  · refine ok_eqL (fun c2 => ?_) (fun c2 => ?_)
    · exact ok_s (show (1 : Int32).toInt = 0 ∨ (1 : Int32).toInt = 1 from by first | omega | assumption | trivial | (refine ⟨?_, ?_⟩ <;> first | omega | assumption | trivial | rfl) | (refine ⟨?_, ?_, ?_⟩ <;> first | omega | assumption | trivial | rfl) | (refine ⟨?_, ?_, ?_, ?_⟩ <;> first | omega | assumption | trivial | rfl) | (refine ⟨?_, ?_, ?_, ?_, ?_⟩ <;> first | omega | assumption | trivial | rfl) | (refine ⟨?_, ?_, ?_, ?_, ?_, ?_⟩ <;> first | omega | assumption | trivial | rfl) | (refine ⟨?_, ?_, ?_, ?_, ?_, ?_, ?_⟩ <;> first | omega | assumption | trivial | rfl) | (refine ⟨?_, ?_, ?_, ?_, ?_, ?_, ?_, ?_⟩ <;> first | omega | assumption | trivial | rfl))
    · refine ok_o (sp_X0_degreeOf p0 ) (fun r13 h3 => ?_)
      have h3 : r13.toInt = DG p0 ∧ -1 ≤ r13.toInt ∧ r13.toInt ≤ 63 := h3
      refine ok_o (sp_X0_degreeOf p1 ) (fun r17 h4 => ?_)
      have h4 : r17.toInt = DG p1 ∧ -1 ≤ r17.toInt ∧ r17.toInt ≤ 63 := h4
      obtain ⟨w5, e_w5⟩ : ∃ w : Int32, w = r13 + r17 := ⟨_, rfl⟩
      try have t_w5 : w5.toInt = r13.toInt + r17.toInt := by rw [e_w5]; exact addT1 (Eq.refl _) (by omega) (by omega)
      try rw [← e_w5]
      refine ok_lt (fun c6 => ?_) (fun c6 => ?_)
      · exact ok_s (show (0 : Int32).toInt = 0 ∨ (0 : Int32).toInt = 1 from by first | omega | assumption | trivial | (refine ⟨?_, ?_⟩ <;> first | omega | assumption | trivial | rfl) | (refine ⟨?_, ?_, ?_⟩ <;> first | omega | assumption | trivial | rfl) | (refine ⟨?_, ?_, ?_, ?_⟩ <;> first | omega | assumption | trivial | rfl) | (refine ⟨?_, ?_, ?_, ?_, ?_⟩ <;> first | omega | assumption | trivial | rfl) | (refine ⟨?_, ?_, ?_, ?_, ?_, ?_⟩ <;> first | omega | assumption | trivial | rfl) | (refine ⟨?_, ?_, ?_, ?_, ?_, ?_, ?_⟩ <;> first | omega | assumption | trivial | rfl) | (refine ⟨?_, ?_, ?_, ?_, ?_, ?_, ?_, ?_⟩ <;> first | omega | assumption | trivial | rfl))
      · exact ok_s (show (1 : Int32).toInt = 0 ∨ (1 : Int32).toInt = 1 from by first | omega | assumption | trivial | (refine ⟨?_, ?_⟩ <;> first | omega | assumption | trivial | rfl) | (refine ⟨?_, ?_, ?_⟩ <;> first | omega | assumption | trivial | rfl) | (refine ⟨?_, ?_, ?_, ?_⟩ <;> first | omega | assumption | trivial | rfl) | (refine ⟨?_, ?_, ?_, ?_, ?_⟩ <;> first | omega | assumption | trivial | rfl) | (refine ⟨?_, ?_, ?_, ?_, ?_, ?_⟩ <;> first | omega | assumption | trivial | rfl) | (refine ⟨?_, ?_, ?_, ?_, ?_, ?_, ?_⟩ <;> first | omega | assumption | trivial | rfl) | (refine ⟨?_, ?_, ?_, ?_, ?_, ?_, ?_, ?_⟩ <;> first | omega | assumption | trivial | rfl))
set_option maxHeartbeats 1000000 in
theorem sp_X0_multiplied (p0 : Int64) (p1 : Int64)  : ok (F_X0_multiplied p0 p1) (fun r => True) := by
  have lm132 : (-1 : Int32).toInt = -1 := by decide
  have l032 : (0 : Int32).toInt = 0 := by decide
  have l064 : (0 : Int64).toInt = 0 := by decide
  unfold F_X0_multiplied
  refine ok_o (sp_X0_degreeOf p1 ) (fun r4 h1 => ?_)
  have h1 : r4.toInt = DG p1 ∧ -1 ≤ r4.toInt ∧ r4.toInt ≤ 63 := h1
  refine ok_L2 (fun y4_9 y6_9 => y6_9.toInt ≤ 64) (fun y4_9 y6_9 => (y6_9.toInt + 1).toNat) (fun ih9 y4_9 y6_9 hI2 hih2 => ?_) 20000 (0 : Int64) r4 (show r4.toInt ≤ 64 from by first | omega | assumption | trivial | (refine ⟨?_, ?_⟩ <;> first | omega | assumption | trivial | rfl) | (refine ⟨?_, ?_, ?_⟩ <;> first | omega | assumption | trivial | rfl) | (refine ⟨?_, ?_, ?_, ?_⟩ <;> first | omega | assumption | trivial | rfl) | (refine ⟨?_, ?_, ?_, ?_, ?_⟩ <;> first | omega | assumption | trivial | rfl) | (refine ⟨?_, ?_, ?_, ?_, ?_, ?_⟩ <;> first | omega | assumption | trivial | rfl) | (refine ⟨?_, ?_, ?_, ?_, ?_, ?_, ?_⟩ <;> first | omega | assumption | trivial | rfl) | (refine ⟨?_, ?_, ?_, ?_, ?_, ?_, ?_, ?_⟩ <;> first | omega | assumption | trivial | rfl)) (show (r4.toInt + 1).toNat < 20000 from by omega)
  have hI2 : y6_9.toInt ≤ 64 := hI2
  unfold S_X0_multiplied_9
  refine ok_lt (fun c3 => ?_) (fun c3 => ?_)
  · exact ok_s trivial
  · refine ok_o (sp_X0_hasOne p1 y6_9 ) (fun r17 h4 => ?_)
    have h4 : r17.toInt = 0 ∨ r17.toInt = 1 := h4
    refine ok_eq (fun c5 => ?_) (fun c5 => ?_)
    · refine ok_bx (fun x6_32 e_x6_32 => ?_)
      try have t_x6_32 : x6_32.toInt = y6_9.toInt + (-1) := by rw [e_x6_32]; exact addT1 (show (-1 : Int32).toInt = -1 from by decide) (by omega) (by omega)
      exact hih2 y4_9 x6_32 (show x6_32.toInt ≤ 64 from by first | omega | assumption | trivial | (refine ⟨?_, ?_⟩ <;> first | omega | assumption | trivial | rfl) | (refine ⟨?_, ?_, ?_⟩ <;> first | omega | assumption | trivial | rfl) | (refine ⟨?_, ?_, ?_, ?_⟩ <;> first | omega | assumption | trivial | rfl) | (refine ⟨?_, ?_, ?_, ?_, ?_⟩ <;> first | omega | assumption | trivial | rfl) | (refine ⟨?_, ?_, ?_, ?_, ?_, ?_⟩ <;> first | omega | assumption | trivial | rfl) | (refine ⟨?_, ?_, ?_, ?_, ?_, ?_, ?_⟩ <;> first | omega | assumption | trivial | rfl) | (refine ⟨?_, ?_, ?_, ?_, ?_, ?_, ?_, ?_⟩ <;> first | omega | assumption | trivial | rfl)) (show (x6_32.toInt + 1).toNat < (y6_9.toInt + 1).toNat from by omega)
    · refine ok_bx (fun x4_30 e_x4_30 => ?_)
      refine ok_bx (fun x6_32_2 e_x6_32_2 => ?_)
      try have t_x6_32_2 : x6_32_2.toInt = y6_9.toInt + (-1) := by rw [e_x6_32_2]; exact addT1 (show (-1 : Int32).toInt = -1 from by decide) (by omega) (by omega)
      exact hih2 x4_30 x6_32_2 (show x6_32_2.toInt ≤ 64 from by first | omega | assumption | trivial | (refine ⟨?_, ?_⟩ <;> first | omega | assumption | trivial | rfl) | (refine ⟨?_, ?_, ?_⟩ <;> first | omega | assumption | trivial | rfl) | (refine ⟨?_, ?_, ?_, ?_⟩ <;> first | omega | assumption | trivial | rfl) | (refine ⟨?_, ?_, ?_, ?_, ?_⟩ <;> first | omega | assumption | trivial | rfl) | (refine ⟨?_, ?_, ?_, ?_, ?_, ?_⟩ <;> first | omega | assumption | trivial | rfl) | (refine ⟨?_, ?_, ?_, ?_, ?_, ?_, ?_⟩ <;> first | omega | assumption | trivial | rfl) | (refine ⟨?_, ?_, ?_, ?_, ?_, ?_, ?_, ?_⟩ <;> first | omega | assumption | trivial | rfl)) (show (x6_32_2.toInt + 1).toNat < (y6_9.toInt + 1).toNat from by omega)
set_option maxHeartbeats 1000000 in
theorem sp_X0_squared (p0 : Int64)  : ok (F_X0_squared p0) (fun r => True) := by
  have lm132 : (-1 : Int32).toInt = -1 := by decide
  have l032 : (0 : Int32).toInt = 0 := by decide
  have l064 : (0 : Int64).toInt = 0 := by decide
  have l164 : (1 : Int64).toInt = 1 := by decide
  have l232 : (2 : Int32).toInt = 2 := by decide
  unfold F_X0_squared
  refine ok_o (sp_X0_degreeOf p0 ) (fun r3 h1 => ?_)
  have h1 : r3.toInt = DG p0 ∧ -1 ≤ r3.toInt ∧ r3.toInt ≤ 63 := h1
  refine ok_L2 (fun y2_8 y4_8 => y4_8.toInt ≤ 64) (fun y2_8 y4_8 => (y4_8.toInt + 1).toNat) (fun ih8 y2_8 y4_8 hI2 hih2 => ?_) 20000 (0 : Int64) r3 (show r3.toInt ≤ 64 from by first | omega | assumption | trivial | (refine ⟨?_, ?_⟩ <;> first | omega | assumption | trivial | rfl) | (refine ⟨?_, ?_, ?_⟩ <;> first | omega | assumption | trivial | rfl) | (refine ⟨?_, ?_, ?_, ?_⟩ <;> first | omega | assumption | trivial | rfl) | (refine ⟨?_, ?_, ?_, ?_, ?_⟩ <;> first | omega | assumption | trivial | rfl) | (refine ⟨?_, ?_, ?_, ?_, ?_, ?_⟩ <;> first | omega | assumption | trivial | rfl) | (refine ⟨?_, ?_, ?_, ?_, ?_, ?_, ?_⟩ <;> first | omega | assumption | trivial | rfl) | (refine ⟨?_, ?_, ?_, ?_, ?_, ?_, ?_, ?_⟩ <;> first | omega | assumption | trivial | rfl)) (show (r3.toInt + 1).toNat < 20000 from by omega)
  have hI2 : y4_8.toInt ≤ 64 := hI2
  unfold S_X0_squared_8
  refine ok_lt (fun c3 => ?_) (fun c3 => ?_)
  · exact ok_s trivial
  · refine ok_bx (fun x2_23 e_x2_23 => ?_)
    refine ok_bx (fun x4_24 e_x4_24 => ?_)
    try have t_x4_24 : x4_24.toInt = y4_8.toInt + (-1) := by rw [e_x4_24]; exact addT1 (show (-1 : Int32).toInt = -1 from by decide) (by omega) (by omega)
    exact hih2 x2_23 x4_24 (show x4_24.toInt ≤ 64 from by first | omega | assumption | trivial | (refine ⟨?_, ?_⟩ <;> first | omega | assumption | trivial | rfl) | (refine ⟨?_, ?_, ?_⟩ <;> first | omega | assumption | trivial | rfl) | (refine ⟨?_, ?_, ?_, ?_⟩ <;> first | omega | assumption | trivial | rfl) | (refine ⟨?_, ?_, ?_, ?_, ?_⟩ <;> first | omega | assumption | trivial | rfl) | (refine ⟨?_, ?_, ?_, ?_, ?_, ?_⟩ <;> first | omega | assumption | trivial | rfl) | (refine ⟨?_, ?_, ?_, ?_, ?_, ?_, ?_⟩ <;> first | omega | assumption | trivial | rfl) | (refine ⟨?_, ?_, ?_, ?_, ?_, ?_, ?_, ?_⟩ <;> first | omega | assumption | trivial | rfl)) (show (x4_24.toInt + 1).toNat < (y4_8.toInt + 1).toNat from by omega)
set_option maxHeartbeats 1000000 in
theorem sp_X0_quotient (p0 : Int64) (p1 : Int64)  : ok (F_X0_quotient p0 p1) (fun r => True) := by
  have lm132 : (-1 : Int32).toInt = -1 := by decide
  have l032 : (0 : Int32).toInt = 0 := by decide
  have l064 : (0 : Int64).toInt = 0 := by decide
  have l164 : (1 : Int64).toInt = 1 := by decide
  unfold F_X0_quotient
  refine ok_eqL (fun c1 => ?_) (fun c1 => ?_)
  · exact ok_s trivial
  · refine ok_o (sp_X0_degreeOf p1 ) (fun r9 h2 => ?_)
    have h2 : r9.toInt = DG p1 ∧ -1 ≤ r9.toInt ∧ r9.toInt ≤ 63 := h2
    refine ok_o (sp_X0_degreeOf p0 ) (fun r21 h3 => ?_)
    have h3 : r21.toInt = DG p0 ∧ -1 ≤ r21.toInt ∧ r21.toInt ≤ 63 := h3
    refine ok_bx (fun x9_27 e_x9_27 => ?_)
    try have t_x9_27 : x9_27.toInt = r21.toInt - r9.toInt := by rw [e_x9_27]; exact subT1 (Eq.refl _) (by omega) (by omega)
    refine ok_L3 (fun y5_29 y7_29 y9_29 => y9_29.toInt ≤ 64) (fun y5_29 y7_29 y9_29 => (y9_29.toInt + 1).toNat) (fun ih29 y5_29 y7_29 y9_29 hI4 hih4 => ?_) 20000 p0 (0 : Int64) x9_27 (show x9_27.toInt ≤ 64 from by first | omega | assumption | trivial | (refine ⟨?_, ?_⟩ <;> first | omega | assumption | trivial | rfl) | (refine ⟨?_, ?_, ?_⟩ <;> first | omega | assumption | trivial | rfl) | (refine ⟨?_, ?_, ?_, ?_⟩ <;> first | omega | assumption | trivial | rfl) | (refine ⟨?_, ?_, ?_, ?_, ?_⟩ <;> first | omega | assumption | trivial | rfl) | (refine ⟨?_, ?_, ?_, ?_, ?_, ?_⟩ <;> first | omega | assumption | trivial | rfl) | (refine ⟨?_, ?_, ?_, ?_, ?_, ?_, ?_⟩ <;> first | omega | assumption | trivial | rfl) | (refine ⟨?_, ?_, ?_, ?_, ?_, ?_, ?_, ?_⟩ <;> first | omega | assumption | trivial | rfl)) (show (x9_27.toInt + 1).toNat < 20000 from by omega)
    have hI4 : y9_29.toInt ≤ 64 := hI4
    unfold S_X0_quotient_29
    refine ok_lt (fun c5 => ?_) (fun c5 => ?_)
    · exact ok_s trivial
    · obtain ⟨w6, e_w6⟩ : ∃ w : Int32, w = y9_29 + r9 := ⟨_, rfl⟩
      try have t_w6 : w6.toInt = y9_29.toInt + r9.toInt := by rw [e_w6]; exact addT1 (Eq.refl _) (by omega) (by omega)
      try rw [← e_w6]
      refine ok_o (sp_X0_hasOne y5_29 w6 ) (fun r41 h7 => ?_)
      have h7 : r41.toInt = 0 ∨ r41.toInt = 1 := h7
      refine ok_eq (fun c8 => ?_) (fun c8 => ?_)
      · refine ok_bx (fun x9_65 e_x9_65 => ?_)
        try have t_x9_65 : x9_65.toInt = y9_29.toInt + (-1) := by rw [e_x9_65]; exact addT1 (show (-1 : Int32).toInt = -1 from by decide) (by omega) (by omega)
        exact hih4 y5_29 y7_29 x9_65 (show x9_65.toInt ≤ 64 from by first | omega | assumption | trivial | (refine ⟨?_, ?_⟩ <;> first | omega | assumption | trivial | rfl) | (refine ⟨?_, ?_, ?_⟩ <;> first | omega | assumption | trivial | rfl) | (refine ⟨?_, ?_, ?_, ?_⟩ <;> first | omega | assumption | trivial | rfl) | (refine ⟨?_, ?_, ?_, ?_, ?_⟩ <;> first | omega | assumption | trivial | rfl) | (refine ⟨?_, ?_, ?_, ?_, ?_, ?_⟩ <;> first | omega | assumption | trivial | rfl) | (refine ⟨?_, ?_, ?_, ?_, ?_, ?_, ?_⟩ <;> first | omega | assumption | trivial | rfl) | (refine ⟨?_, ?_, ?_, ?_, ?_, ?_, ?_, ?_⟩ <;> first | omega | assumption | trivial | rfl)) (show (x9_65.toInt + 1).toNat < (y9_29.toInt + 1).toNat from by omega)
      · refine ok_bx (fun x5_54 e_x5_54 => ?_)
        refine ok_bx (fun x7_63 e_x7_63 => ?_)
        refine ok_bx (fun x9_65_2 e_x9_65_2 => ?_)
        try have t_x9_65_2 : x9_65_2.toInt = y9_29.toInt + (-1) := by rw [e_x9_65_2]; exact addT1 (show (-1 : Int32).toInt = -1 from by decide) (by omega) (by omega)
        exact hih4 x5_54 x7_63 x9_65_2 (show x9_65_2.toInt ≤ 64 from by first | omega | assumption | trivial | (refine ⟨?_, ?_⟩ <;> first | omega | assumption | trivial | rfl) | (refine ⟨?_, ?_, ?_⟩ <;> first | omega | assumption | trivial | rfl) | (refine ⟨?_, ?_, ?_, ?_⟩ <;> first | omega | assumption | trivial | rfl) | (refine ⟨?_, ?_, ?_, ?_, ?_⟩ <;> first | omega | assumption | trivial | rfl) | (refine ⟨?_, ?_, ?_, ?_, ?_, ?_⟩ <;> first | omega | assumption | trivial | rfl) | (refine ⟨?_, ?_, ?_, ?_, ?_, ?_, ?_⟩ <;> first | omega | assumption | trivial | rfl) | (refine ⟨?_, ?_, ?_, ?_, ?_, ?_, ?_, ?_⟩ <;> first | omega | assumption | trivial | rfl)) (show (x9_65_2.toInt + 1).toNat < (y9_29.toInt + 1).toNat from by omega)
set_option maxHeartbeats 1000000 in
theorem sp_X0_rest (p0 : Int64) (p1 : Int64)  : ok (F_X0_rest p0 p1) (fun r => True) := by
  have lm132 : (-1 : Int32).toInt = -1 := by decide
  have l032 : (0 : Int32).toInt = 0 := by decide
  have l064 : (0 : Int64).toInt = 0 := by decide
  unfold F_X0_rest
  refine ok_eqL (fun c1 => ?_) (fun c1 => ?_)
  · exact ok_s trivial
  · refine ok_o (sp_X0_degreeOf p1 ) (fun r9 h2 => ?_)
    have h2 : r9.toInt = DG p1 ∧ -1 ≤ r9.toInt ∧ r9.toInt ≤ 63 := h2
    refine ok_o (sp_X0_degreeOf p0 ) (fun r18 h3 => ?_)
    have h3 : r18.toInt = DG p0 ∧ -1 ≤ r18.toInt ∧ r18.toInt ≤ 63 := h3
    refine ok_bx (fun x7_24 e_x7_24 => ?_)
    try have t_x7_24 : x7_24.toInt = r18.toInt - r9.toInt := by rw [e_x7_24]; exact subT1 (Eq.refl _) (by omega) (by omega)
    refine ok_L2 (fun y5_26 y7_26 => y7_26.toInt ≤ 64) (fun y5_26 y7_26 => (y7_26.toInt + 1).toNat) (fun ih26 y5_26 y7_26 hI4 hih4 => ?_) 20000 p0 x7_24 (show x7_24.toInt ≤ 64 from by first | omega | assumption | trivial | (refine ⟨?_, ?_⟩ <;> first | omega | assumption | trivial | rfl) | (refine ⟨?_, ?_, ?_⟩ <;> first | omega | assumption | trivial | rfl) | (refine ⟨?_, ?_, ?_, ?_⟩ <;> first | omega | assumption | trivial | rfl) | (refine ⟨?_, ?_, ?_, ?_, ?_⟩ <;> first | omega | assumption | trivial | rfl) | (refine ⟨?_, ?_, ?_, ?_, ?_, ?_⟩ <;> first | omega | assumption | trivial | rfl) | (refine ⟨?_, ?_, ?_, ?_, ?_, ?_, ?_⟩ <;> first | omega | assumption | trivial | rfl) | (refine ⟨?_, ?_, ?_, ?_, ?_, ?_, ?_, ?_⟩ <;> first | omega | assumption | trivial | rfl)) (show (x7_24.toInt + 1).toNat < 20000 from by omega)
    have hI4 : y7_26.toInt ≤ 64 := hI4
    unfold S_X0_rest_26
    refine ok_lt (fun c5 => ?_) (fun c5 => ?_)
    · exact ok_s trivial
    · obtain ⟨w6, e_w6⟩ : ∃ w : Int32, w = y7_26 + r9 := ⟨_, rfl⟩
      try have t_w6 : w6.toInt = y7_26.toInt + r9.toInt := by rw [e_w6]; exact addT1 (Eq.refl _) (by omega) (by omega)
      try rw [← e_w6]
      refine ok_o (sp_X0_hasOne y5_26 w6 ) (fun r38 h7 => ?_)
      have h7 : r38.toInt = 0 ∨ r38.toInt = 1 := h7
      refine ok_eq (fun c8 => ?_) (fun c8 => ?_)
      · refine ok_bx (fun x7_53 e_x7_53 => ?_)
        try have t_x7_53 : x7_53.toInt = y7_26.toInt + (-1) := by rw [e_x7_53]; exact addT1 (show (-1 : Int32).toInt = -1 from by decide) (by omega) (by omega)
        exact hih4 y5_26 x7_53 (show x7_53.toInt ≤ 64 from by first | omega | assumption | trivial | (refine ⟨?_, ?_⟩ <;> first | omega | assumption | trivial | rfl) | (refine ⟨?_, ?_, ?_⟩ <;> first | omega | assumption | trivial | rfl) | (refine ⟨?_, ?_, ?_, ?_⟩ <;> first | omega | assumption | trivial | rfl) | (refine ⟨?_, ?_, ?_, ?_, ?_⟩ <;> first | omega | assumption | trivial | rfl) | (refine ⟨?_, ?_, ?_, ?_, ?_, ?_⟩ <;> first | omega | assumption | trivial | rfl) | (refine ⟨?_, ?_, ?_, ?_, ?_, ?_, ?_⟩ <;> first | omega | assumption | trivial | rfl) | (refine ⟨?_, ?_, ?_, ?_, ?_, ?_, ?_, ?_⟩ <;> first | omega | assumption | trivial | rfl)) (show (x7_53.toInt + 1).toNat < (y7_26.toInt + 1).toNat from by omega)
      · refine ok_bx (fun x5_51 e_x5_51 => ?_)
        refine ok_bx (fun x7_53_2 e_x7_53_2 => ?_)
        try have t_x7_53_2 : x7_53_2.toInt = y7_26.toInt + (-1) := by rw [e_x7_53_2]; exact addT1 (show (-1 : Int32).toInt = -1 from by decide) (by omega) (by omega)
        exact hih4 x5_51 x7_53_2 (show x7_53_2.toInt ≤ 64 from by first | omega | assumption | trivial | (refine ⟨?_, ?_⟩ <;> first | omega | assumption | trivial | rfl) | (refine ⟨?_, ?_, ?_⟩ <;> first | omega | assumption | trivial | rfl) | (refine ⟨?_, ?_, ?_, ?_⟩ <;> first | omega | assumption | trivial | rfl) | (refine ⟨?_, ?_, ?_, ?_, ?_⟩ <;> first | omega | assumption | trivial | rfl) | (refine ⟨?_, ?_, ?_, ?_, ?_, ?_⟩ <;> first | omega | assumption | trivial | rfl) | (refine ⟨?_, ?_, ?_, ?_, ?_, ?_, ?_⟩ <;> first | omega | assumption | trivial | rfl) | (refine ⟨?_, ?_, ?_, ?_, ?_, ?_, ?_, ?_⟩ <;> first | omega | assumption | trivial | rfl)) (show (x7_53_2.toInt + 1).toNat < (y7_26.toInt + 1).toNat from by omega)
set_option maxHeartbeats 1000000 in
theorem sp_X0_greatestBoth (p0 : Int64) (p1 : Int64)  : ok (F_X0_greatestBoth p0 p1) (fun r => True) := by
  have l032 : (0 : Int32).toInt = 0 := by decide
  have l064 : (0 : Int64).toInt = 0 := by decide
  have l132 : (1 : Int32).toInt = 1 := by decide
  have l100032 : (1000 : Int32).toInt = 1000 := by decide
  unfold F_X0_greatestBoth
  refine ok_L3 (fun y4_9 y6_9 y8_9 => 0 ≤ y8_9.toInt) (fun y4_9 y6_9 y8_9 => (1000 - y8_9.toInt + 1).toNat) (fun ih9 y4_9 y6_9 y8_9 hI1 hih1 => ?_) 20000 p0 p1 (0 : Int32) (show 0 ≤ (0 : Int32).toInt from by first | omega | assumption | trivial | (refine ⟨?_, ?_⟩ <;> first | omega | assumption | trivial | rfl) | (refine ⟨?_, ?_, ?_⟩ <;> first | omega | assumption | trivial | rfl) | (refine ⟨?_, ?_, ?_, ?_⟩ <;> first | omega | assumption | trivial | rfl) | (refine ⟨?_, ?_, ?_, ?_, ?_⟩ <;> first | omega | assumption | trivial | rfl) | (refine ⟨?_, ?_, ?_, ?_, ?_, ?_⟩ <;> first | omega | assumption | trivial | rfl) | (refine ⟨?_, ?_, ?_, ?_, ?_, ?_, ?_⟩ <;> first | omega | assumption | trivial | rfl) | (refine ⟨?_, ?_, ?_, ?_, ?_, ?_, ?_, ?_⟩ <;> first | omega | assumption | trivial | rfl)) (show (1000 - (0 : Int32).toInt + 1).toNat < 20000 from by omega)
  have hI1 : 0 ≤ y8_9.toInt := hI1
  unfold S_X0_greatestBoth_9
  refine ok_le (fun c2 => ?_) (fun c2 => ?_)
  · exact ok_s trivial
  · refine ok_eqL (fun c3 => ?_) (fun c3 => ?_)
    · exact ok_s trivial
    · refine ok_o (sp_X0_rest y4_9 y6_9 ) (fun r28 h4 => ?_)
      refine ok_bx (fun x8_41 e_x8_41 => ?_)
      try have t_x8_41 : x8_41.toInt = y8_9.toInt + 1 := by rw [e_x8_41]; exact addT1 (show (1 : Int32).toInt = 1 from by decide) (by omega) (by omega)
      exact hih1 y6_9 r28 x8_41 (show 0 ≤ x8_41.toInt from by first | omega | assumption | trivial | (refine ⟨?_, ?_⟩ <;> first | omega | assumption | trivial | rfl) | (refine ⟨?_, ?_, ?_⟩ <;> first | omega | assumption | trivial | rfl) | (refine ⟨?_, ?_, ?_, ?_⟩ <;> first | omega | assumption | trivial | rfl) | (refine ⟨?_, ?_, ?_, ?_, ?_⟩ <;> first | omega | assumption | trivial | rfl) | (refine ⟨?_, ?_, ?_, ?_, ?_, ?_⟩ <;> first | omega | assumption | trivial | rfl) | (refine ⟨?_, ?_, ?_, ?_, ?_, ?_, ?_⟩ <;> first | omega | assumption | trivial | rfl) | (refine ⟨?_, ?_, ?_, ?_, ?_, ?_, ?_, ?_⟩ <;> first | omega | assumption | trivial | rfl)) (show (1000 - x8_41.toInt + 1).toNat < (1000 - y8_9.toInt + 1).toNat from by omega)
set_option maxHeartbeats 1000000 in
theorem sp_X4_goOn (c_t_first : Int64) (c_t_ofOne : Int64) (c_t_ofOther : Int64) (c_t_second : Int64) (c_t_secondOfOne : Int64) (c_t_secondOfOther : Int64) (p0 : Int64)  : ok (F_X4_goOn c_t_first c_t_ofOne c_t_ofOther c_t_second c_t_secondOfOne c_t_secondOfOther p0) (fun r => True) := by
  unfold F_X4_goOn
  refine ok_o (sp_X0_multiplied p0 c_t_second ) (fun r9 h1 => ?_)
  refine ok_bx (fun x3_13 e_x3_13 => ?_)
  refine ok_o (sp_X0_multiplied p0 c_t_secondOfOne ) (fun r23 h2 => ?_)
  refine ok_bx (fun x5_27 e_x5_27 => ?_)
  refine ok_o (sp_X0_multiplied p0 c_t_secondOfOther ) (fun r38 h3 => ?_)
  refine ok_bx (fun x7_42 e_x7_42 => ?_)
  exact ok_s trivial
set_option maxHeartbeats 1000000 in
theorem sp_X4_workOut (p0 : Int64) (p1 : Int64)  : ok (F_X4_workOut p0 p1) (fun r => True) := by
  have l032 : (0 : Int32).toInt = 0 := by decide
  have l064 : (0 : Int64).toInt = 0 := by decide
  have l132 : (1 : Int32).toInt = 1 := by decide
  have l164 : (1 : Int64).toInt = 1 := by decide
  have l100032 : (1000 : Int32).toInt = 1000 := by decide
  unfold F_X4_workOut
  refine ok_L7 (fun y5_33 c_t_first_33 c_t_ofOne_33 c_t_ofOther_33 c_t_second_33 c_t_secondOfOne_33 c_t_secondOfOther_33 => 0 ≤ y5_33.toInt) (fun y5_33 c_t_first_33 c_t_ofOne_33 c_t_ofOther_33 c_t_second_33 c_t_secondOfOne_33 c_t_secondOfOther_33 => (1000 - y5_33.toInt + 1).toNat) (fun ih33 y5_33 c_t_first_33 c_t_ofOne_33 c_t_ofOther_33 c_t_second_33 c_t_secondOfOne_33 c_t_secondOfOther_33 hI1 hih1 => ?_) 20000 (0 : Int32) p0 (1 : Int64) (0 : Int64) p1 (0 : Int64) (1 : Int64) (show 0 ≤ (0 : Int32).toInt from by first | omega | assumption | trivial | (refine ⟨?_, ?_⟩ <;> first | omega | assumption | trivial | rfl) | (refine ⟨?_, ?_, ?_⟩ <;> first | omega | assumption | trivial | rfl) | (refine ⟨?_, ?_, ?_, ?_⟩ <;> first | omega | assumption | trivial | rfl) | (refine ⟨?_, ?_, ?_, ?_, ?_⟩ <;> first | omega | assumption | trivial | rfl) | (refine ⟨?_, ?_, ?_, ?_, ?_, ?_⟩ <;> first | omega | assumption | trivial | rfl) | (refine ⟨?_, ?_, ?_, ?_, ?_, ?_, ?_⟩ <;> first | omega | assumption | trivial | rfl) | (refine ⟨?_, ?_, ?_, ?_, ?_, ?_, ?_, ?_⟩ <;> first | omega | assumption | trivial | rfl)) (show (1000 - (0 : Int32).toInt + 1).toNat < 20000 from by omega)
  have hI1 : 0 ≤ y5_33.toInt := hI1
  unfold S_X4_workOut_33
  refine ok_le (fun c2 => ?_) (fun c2 => ?_)
  · exact ok_s trivial
  · refine ok_eqL (fun c3 => ?_) (fun c3 => ?_)
    · exact ok_s trivial
    · refine ok_o (sp_X0_quotient c_t_first_33 c_t_second_33 ) (fun r59 h4 => ?_)
      refine ok_o6 (sp_X4_goOn c_t_first_33 c_t_ofOne_33 c_t_ofOther_33 c_t_second_33 c_t_secondOfOne_33 c_t_secondOfOther_33 r59 ) (fun c_t_first_62 c_t_ofOne_62 c_t_ofOther_62 c_t_second_62 c_t_secondOfOne_62 c_t_secondOfOther_62 h5 => ?_)
      refine ok_bx (fun x5_65 e_x5_65 => ?_)
      try have t_x5_65 : x5_65.toInt = y5_33.toInt + 1 := by rw [e_x5_65]; exact addT1 (show (1 : Int32).toInt = 1 from by decide) (by omega) (by omega)
      exact hih1 x5_65 c_t_first_62 c_t_ofOne_62 c_t_ofOther_62 c_t_second_62 c_t_secondOfOne_62 c_t_secondOfOther_62 (show 0 ≤ x5_65.toInt from by first | omega | assumption | trivial | (refine ⟨?_, ?_⟩ <;> first | omega | assumption | trivial | rfl) | (refine ⟨?_, ?_, ?_⟩ <;> first | omega | assumption | trivial | rfl) | (refine ⟨?_, ?_, ?_, ?_⟩ <;> first | omega | assumption | trivial | rfl) | (refine ⟨?_, ?_, ?_, ?_, ?_⟩ <;> first | omega | assumption | trivial | rfl) | (refine ⟨?_, ?_, ?_, ?_, ?_, ?_⟩ <;> first | omega | assumption | trivial | rfl) | (refine ⟨?_, ?_, ?_, ?_, ?_, ?_, ?_⟩ <;> first | omega | assumption | trivial | rfl) | (refine ⟨?_, ?_, ?_, ?_, ?_, ?_, ?_, ?_⟩ <;> first | omega | assumption | trivial | rfl)) (show (1000 - x5_65.toInt + 1).toNat < (1000 - y5_33.toInt + 1).toNat from by omega)
set_option maxHeartbeats 1000000 in
theorem sp_X0_powerRest (p0 : Int64) (p1 : Int32) (p2 : Int64)  : ok (F_X0_powerRest p0 p1 p2) (fun r => True) := by
  have lm132 : (-1 : Int32).toInt = -1 := by decide
  have l032 : (0 : Int32).toInt = 0 := by decide
  have l132 : (1 : Int32).toInt = 1 := by decide
  have l164 : (1 : Int64).toInt = 1 := by decide
  have l732 : (7 : Int32).toInt = 7 := by decide
  unfold F_X0_powerRest
  refine ok_o (sp_X0_rest p0 p2 ) (fun r2 h1 => ?_)
  refine ok_o (sp_X0_rest (1 : Int64) p2 ) (fun r9 h2 => ?_)
  refine ok_L2 (fun y7_18 y9_18 => y9_18.toInt ≤ 64) (fun y7_18 y9_18 => (y9_18.toInt + 1).toNat) (fun ih18 y7_18 y9_18 hI3 hih3 => ?_) 20000 r9 (7 : Int32) (show (7 : Int32).toInt ≤ 64 from by first | omega | assumption | trivial | (refine ⟨?_, ?_⟩ <;> first | omega | assumption | trivial | rfl) | (refine ⟨?_, ?_, ?_⟩ <;> first | omega | assumption | trivial | rfl) | (refine ⟨?_, ?_, ?_, ?_⟩ <;> first | omega | assumption | trivial | rfl) | (refine ⟨?_, ?_, ?_, ?_, ?_⟩ <;> first | omega | assumption | trivial | rfl) | (refine ⟨?_, ?_, ?_, ?_, ?_, ?_⟩ <;> first | omega | assumption | trivial | rfl) | (refine ⟨?_, ?_, ?_, ?_, ?_, ?_, ?_⟩ <;> first | omega | assumption | trivial | rfl) | (refine ⟨?_, ?_, ?_, ?_, ?_, ?_, ?_, ?_⟩ <;> first | omega | assumption | trivial | rfl)) (show ((7 : Int32).toInt + 1).toNat < 20000 from by omega)
  have hI3 : y9_18.toInt ≤ 64 := hI3
  unfold S_X0_powerRest_18
  refine ok_lt (fun c4 => ?_) (fun c4 => ?_)
  · exact ok_s trivial
  · refine ok_o (sp_X0_squared y7_18 ) (fun r25 h5 => ?_)
    refine ok_o (sp_X0_rest r25 p2 ) (fun r29 h6 => ?_)
    refine ok_eq (fun c7 => ?_) (fun c7 => ?_)
    · refine ok_o (sp_X0_multiplied r29 r2 ) (fun r48 h8 => ?_)
      refine ok_o (sp_X0_rest r48 p2 ) (fun r52 h9 => ?_)
      refine ok_bx (fun x9_57 e_x9_57 => ?_)
      try have t_x9_57 : x9_57.toInt = y9_18.toInt + (-1) := by rw [e_x9_57]; exact addT1 (show (-1 : Int32).toInt = -1 from by decide) (by omega) (by omega)
      exact hih3 r52 x9_57 (show x9_57.toInt ≤ 64 from by first | omega | assumption | trivial | (refine ⟨?_, ?_⟩ <;> first | omega | assumption | trivial | rfl) | (refine ⟨?_, ?_, ?_⟩ <;> first | omega | assumption | trivial | rfl) | (refine ⟨?_, ?_, ?_, ?_⟩ <;> first | omega | assumption | trivial | rfl) | (refine ⟨?_, ?_, ?_, ?_, ?_⟩ <;> first | omega | assumption | trivial | rfl) | (refine ⟨?_, ?_, ?_, ?_, ?_, ?_⟩ <;> first | omega | assumption | trivial | rfl) | (refine ⟨?_, ?_, ?_, ?_, ?_, ?_, ?_⟩ <;> first | omega | assumption | trivial | rfl) | (refine ⟨?_, ?_, ?_, ?_, ?_, ?_, ?_, ?_⟩ <;> first | omega | assumption | trivial | rfl)) (show (x9_57.toInt + 1).toNat < (y9_18.toInt + 1).toNat from by omega)
    · refine ok_bx (fun x9_57_2 e_x9_57_2 => ?_)
      try have t_x9_57_2 : x9_57_2.toInt = y9_18.toInt + (-1) := by rw [e_x9_57_2]; exact addT1 (show (-1 : Int32).toInt = -1 from by decide) (by omega) (by omega)
      exact hih3 r29 x9_57_2 (show x9_57_2.toInt ≤ 64 from by first | omega | assumption | trivial | (refine ⟨?_, ?_⟩ <;> first | omega | assumption | trivial | rfl) | (refine ⟨?_, ?_, ?_⟩ <;> first | omega | assumption | trivial | rfl) | (refine ⟨?_, ?_, ?_, ?_⟩ <;> first | omega | assumption | trivial | rfl) | (refine ⟨?_, ?_, ?_, ?_, ?_⟩ <;> first | omega | assumption | trivial | rfl) | (refine ⟨?_, ?_, ?_, ?_, ?_, ?_⟩ <;> first | omega | assumption | trivial | rfl) | (refine ⟨?_, ?_, ?_, ?_, ?_, ?_, ?_⟩ <;> first | omega | assumption | trivial | rfl) | (refine ⟨?_, ?_, ?_, ?_, ?_, ?_, ?_, ?_⟩ <;> first | omega | assumption | trivial | rfl)) (show (x9_57_2.toInt + 1).toNat < (y9_18.toInt + 1).toNat from by omega)
set_option maxHeartbeats 1000000 in
theorem sp_X0_goesInto (p0 : Int64) (p1 : Int64)  : ok (F_X0_goesInto p0 p1) (fun r => r.toInt = 0 ∨ r.toInt = 1) := by
  have l032 : (0 : Int32).toInt = 0 := by decide
  have l064 : (0 : Int64).toInt = 0 := by decide
  have l132 : (1 : Int32).toInt = 1 := by decide
  unfold F_X0_goesInto
  refine ok_o (sp_X0_rest p1 p0 ) (fun r2 h1 => ?_)
  refine ok_eqL (fun c2 => ?_) (fun c2 => ?_)
  · exact ok_s (show (1 : Int32).toInt = 0 ∨ (1 : Int32).toInt = 1 from by first | omega | assumption | trivial | (refine ⟨?_, ?_⟩ <;> first | omega | assumption | trivial | rfl) | (refine ⟨?_, ?_, ?_⟩ <;> first | omega | assumption | trivial | rfl) | (refine ⟨?_, ?_, ?_, ?_⟩ <;> first | omega | assumption | trivial | rfl) | (refine ⟨?_, ?_, ?_, ?_, ?_⟩ <;> first | omega | assumption | trivial | rfl) | (refine ⟨?_, ?_, ?_, ?_, ?_, ?_⟩ <;> first | omega | assumption | trivial | rfl) | (refine ⟨?_, ?_, ?_, ?_, ?_, ?_, ?_⟩ <;> first | omega | assumption | trivial | rfl) | (refine ⟨?_, ?_, ?_, ?_, ?_, ?_, ?_, ?_⟩ <;> first | omega | assumption | trivial | rfl))
  · exact ok_s (show (0 : Int32).toInt = 0 ∨ (0 : Int32).toInt = 1 from by first | omega | assumption | trivial | (refine ⟨?_, ?_⟩ <;> first | omega | assumption | trivial | rfl) | (refine ⟨?_, ?_, ?_⟩ <;> first | omega | assumption | trivial | rfl) | (refine ⟨?_, ?_, ?_, ?_⟩ <;> first | omega | assumption | trivial | rfl) | (refine ⟨?_, ?_, ?_, ?_, ?_⟩ <;> first | omega | assumption | trivial | rfl) | (refine ⟨?_, ?_, ?_, ?_, ?_, ?_⟩ <;> first | omega | assumption | trivial | rfl) | (refine ⟨?_, ?_, ?_, ?_, ?_, ?_, ?_⟩ <;> first | omega | assumption | trivial | rfl) | (refine ⟨?_, ?_, ?_, ?_, ?_, ?_, ?_, ?_⟩ <;> first | omega | assumption | trivial | rfl))
set_option maxHeartbeats 1000000 in
theorem sp_X7_done (c_t_acts : Int32) (p0 : Int32)  : ok (F_X7_done c_t_acts p0) (fun r => True) := by
  have l132 : (1 : Int32).toInt = 1 := by decide
  unfold F_X7_done
  refine ok_bx (fun c_t_acts_7 e_c_t_acts_7 => ?_)
  try have t_c_t_acts_7 : c_t_acts_7.toInt = c_t_acts.toInt + 1 := by rw [e_c_t_acts_7]; exact addT1 (show (1 : Int32).toInt = 1 from by decide) (by omega) (by omega)
  exact ok_s trivial
set_option maxHeartbeats 1000000 in
theorem sp_X7_refuse (c_t_refusals : Int32)  : ok (F_X7_refuse c_t_refusals) (fun r => True) := by
  have lm932 : (-9 : Int32).toInt = -9 := by decide
  have l132 : (1 : Int32).toInt = 1 := by decide
  unfold F_X7_refuse
  refine ok_bx (fun c_t_refusals_7 e_c_t_refusals_7 => ?_)
  try have t_c_t_refusals_7 : c_t_refusals_7.toInt = c_t_refusals.toInt + 1 := by rw [e_c_t_refusals_7]; exact addT1 (show (1 : Int32).toInt = 1 from by decide) (by omega) (by omega)
  exact ok_s trivial
set_option maxHeartbeats 1000000 in
theorem sp_X7_set (c_t_acts : Int32) (f_t_forms : Nat → Int64) (p0 : Int32) (p1 : Int32)  : ok (F_X7_set c_t_acts f_t_forms p0 p1) (fun r => r.1 = 0 ∨ r.1 = 1 ∨ r.1 = 2) := by
  have l032 : (0 : Int32).toInt = 0 := by decide
  unfold F_X7_set
  refine ok_o (sp_X7_testForm p0 ) (fun xc1 h1 => ?_)
  have h1 : (xc1 = 0 ∧ 0 ≤ p0.toInt ∧ p0.toInt ≤ 5) ∨ xc1 = 1 := h1
  refine ok_i (fun c2 => ?_) (fun c2 => ?_)
  · refine ok_o (sp_X7_testRange p1 (0 : Int32) (2147483647 : Int32) ) (fun xc8 h3 => ?_)
    have h3 : (xc8 = 0 ∧ (0 : Int32).toInt ≤ p1.toInt ∧ p1.toInt ≤ (2147483647 : Int32).toInt) ∨ (xc8 = 2 ∧ (p1.toInt < (0 : Int32).toInt ∨ (2147483647 : Int32).toInt < p1.toInt)) := h3
    refine ok_i (fun c4 => ?_) (fun c4 => ?_)
    · refine ok_c (ixo (by omega) (by omega)) ?_
      refine ok_o (sp_X0_degreeOf (f_t_forms p0.toNatClampNeg) ) (fun r17 h5 => ?_)
      have h5 : r17.toInt = DG (f_t_forms p0.toNatClampNeg) ∧ -1 ≤ r17.toInt ∧ r17.toInt ≤ 63 := h5
      refine ok_c (ixo (by omega) (by omega)) ?_
      refine ok_bx (fun f_t_forms_28 e_f_t_forms_28 => ?_)
      refine ok_o2 (sp_X7_done c_t_acts r17 ) (fun r31 c_t_acts_31 h6 => ?_)
      exact ok_s (show 0 = 0 ∨ 0 = 1 ∨ 0 = 2 from by first | omega | assumption | trivial | (refine ⟨?_, ?_⟩ <;> first | omega | assumption | trivial | rfl) | (refine ⟨?_, ?_, ?_⟩ <;> first | omega | assumption | trivial | rfl) | (refine ⟨?_, ?_, ?_, ?_⟩ <;> first | omega | assumption | trivial | rfl) | (refine ⟨?_, ?_, ?_, ?_, ?_⟩ <;> first | omega | assumption | trivial | rfl) | (refine ⟨?_, ?_, ?_, ?_, ?_, ?_⟩ <;> first | omega | assumption | trivial | rfl) | (refine ⟨?_, ?_, ?_, ?_, ?_, ?_, ?_⟩ <;> first | omega | assumption | trivial | rfl) | (refine ⟨?_, ?_, ?_, ?_, ?_, ?_, ?_, ?_⟩ <;> first | omega | assumption | trivial | rfl))
    · exact ok_s (show xc8 = 0 ∨ xc8 = 1 ∨ xc8 = 2 from by first | omega | assumption | trivial | (refine ⟨?_, ?_⟩ <;> first | omega | assumption | trivial | rfl) | (refine ⟨?_, ?_, ?_⟩ <;> first | omega | assumption | trivial | rfl) | (refine ⟨?_, ?_, ?_, ?_⟩ <;> first | omega | assumption | trivial | rfl) | (refine ⟨?_, ?_, ?_, ?_, ?_⟩ <;> first | omega | assumption | trivial | rfl) | (refine ⟨?_, ?_, ?_, ?_, ?_, ?_⟩ <;> first | omega | assumption | trivial | rfl) | (refine ⟨?_, ?_, ?_, ?_, ?_, ?_, ?_⟩ <;> first | omega | assumption | trivial | rfl) | (refine ⟨?_, ?_, ?_, ?_, ?_, ?_, ?_, ?_⟩ <;> first | omega | assumption | trivial | rfl))
  · exact ok_s (show xc1 = 0 ∨ xc1 = 1 ∨ xc1 = 2 from by first | omega | assumption | trivial | (refine ⟨?_, ?_⟩ <;> first | omega | assumption | trivial | rfl) | (refine ⟨?_, ?_, ?_⟩ <;> first | omega | assumption | trivial | rfl) | (refine ⟨?_, ?_, ?_, ?_⟩ <;> first | omega | assumption | trivial | rfl) | (refine ⟨?_, ?_, ?_, ?_, ?_⟩ <;> first | omega | assumption | trivial | rfl) | (refine ⟨?_, ?_, ?_, ?_, ?_, ?_⟩ <;> first | omega | assumption | trivial | rfl) | (refine ⟨?_, ?_, ?_, ?_, ?_, ?_, ?_⟩ <;> first | omega | assumption | trivial | rfl) | (refine ⟨?_, ?_, ?_, ?_, ?_, ?_, ?_, ?_⟩ <;> first | omega | assumption | trivial | rfl))
set_option maxHeartbeats 1000000 in
theorem sp_X7_digit (c_t_acts : Int32) (f_t_forms : Nat → Int64) (p0 : Int32) (p1 : Int32) (p2 : Int32)  : ok (F_X7_digit c_t_acts f_t_forms p0 p1 p2) (fun r => r.1 = 0 ∨ r.1 = 1 ∨ r.1 = 2) := by
  have l032 : (0 : Int32).toInt = 0 := by decide
  have l132 : (1 : Int32).toInt = 1 := by decide
  have l164 : (1 : Int64).toInt = 1 := by decide
  have l232 : (2 : Int32).toInt = 2 := by decide
  unfold F_X7_digit
  refine ok_o (sp_X7_testForm p0 ) (fun xc1 h1 => ?_)
  have h1 : (xc1 = 0 ∧ 0 ≤ p0.toInt ∧ p0.toInt ≤ 5) ∨ xc1 = 1 := h1
  refine ok_i (fun c2 => ?_) (fun c2 => ?_)
  · refine ok_o (sp_X7_testPlace p1 ) (fun xc5 h3 => ?_)
    have h3 : (xc5 = 0 ∧ 0 ≤ p1.toInt ∧ p1.toInt ≤ 39) ∨ xc5 = 1 := h3
    refine ok_i (fun c4 => ?_) (fun c4 => ?_)
    · refine ok_o (sp_X7_testRange p2 (0 : Int32) (2 : Int32) ) (fun xc11 h5 => ?_)
      have h5 : (xc11 = 0 ∧ (0 : Int32).toInt ≤ p2.toInt ∧ p2.toInt ≤ (2 : Int32).toInt) ∨ (xc11 = 2 ∧ (p2.toInt < (0 : Int32).toInt ∨ (2 : Int32).toInt < p2.toInt)) := h5
      refine ok_i (fun c6 => ?_) (fun c6 => ?_)
      · refine ok_c (ixo (by omega) (by omega)) ?_
        refine ok_o (sp_X0_hasOne (f_t_forms p0.toNatClampNeg) p1 ) (fun r21 h7 => ?_)
        have h7 : r21.toInt = 0 ∨ r21.toInt = 1 := h7
        refine ok_eq (fun c8 => ?_) (fun c8 => ?_)
        · refine ok_eq (fun c9 => ?_) (fun c9 => ?_)
          · first | unfold J_X7_digit_54 | skip
            refine ok_eq (fun c10 => ?_) (fun c10 => ?_)
            · refine ok_o2 (sp_X7_done c_t_acts (0 : Int32) ) (fun r65 c_t_acts_65 h11 => ?_)
              exact ok_s (show 0 = 0 ∨ 0 = 1 ∨ 0 = 2 from by first | omega | assumption | trivial | (refine ⟨?_, ?_⟩ <;> first | omega | assumption | trivial | rfl) | (refine ⟨?_, ?_, ?_⟩ <;> first | omega | assumption | trivial | rfl) | (refine ⟨?_, ?_, ?_, ?_⟩ <;> first | omega | assumption | trivial | rfl) | (refine ⟨?_, ?_, ?_, ?_, ?_⟩ <;> first | omega | assumption | trivial | rfl) | (refine ⟨?_, ?_, ?_, ?_, ?_, ?_⟩ <;> first | omega | assumption | trivial | rfl) | (refine ⟨?_, ?_, ?_, ?_, ?_, ?_, ?_⟩ <;> first | omega | assumption | trivial | rfl) | (refine ⟨?_, ?_, ?_, ?_, ?_, ?_, ?_, ?_⟩ <;> first | omega | assumption | trivial | rfl))
            · refine ok_c (ixo (by omega) (by omega)) ?_
              refine ok_c (ixo (by omega) (by omega)) ?_
              refine ok_bx (fun f_t_forms_80 e_f_t_forms_80 => ?_)
              refine ok_o2 (sp_X7_done c_t_acts (1 : Int32) ) (fun r83 c_t_acts_83 h12 => ?_)
              exact ok_s (show 0 = 0 ∨ 0 = 1 ∨ 0 = 2 from by first | omega | assumption | trivial | (refine ⟨?_, ?_⟩ <;> first | omega | assumption | trivial | rfl) | (refine ⟨?_, ?_, ?_⟩ <;> first | omega | assumption | trivial | rfl) | (refine ⟨?_, ?_, ?_, ?_⟩ <;> first | omega | assumption | trivial | rfl) | (refine ⟨?_, ?_, ?_, ?_, ?_⟩ <;> first | omega | assumption | trivial | rfl) | (refine ⟨?_, ?_, ?_, ?_, ?_, ?_⟩ <;> first | omega | assumption | trivial | rfl) | (refine ⟨?_, ?_, ?_, ?_, ?_, ?_, ?_⟩ <;> first | omega | assumption | trivial | rfl) | (refine ⟨?_, ?_, ?_, ?_, ?_, ?_, ?_, ?_⟩ <;> first | omega | assumption | trivial | rfl))
          · first | unfold J_X7_digit_54 | skip
            refine ok_eq (fun c13 => ?_) (fun c13 => ?_)
            · refine ok_o2 (sp_X7_done c_t_acts (0 : Int32) ) (fun r65_2 c_t_acts_65_2 h14 => ?_)
              exact ok_s (show 0 = 0 ∨ 0 = 1 ∨ 0 = 2 from by first | omega | assumption | trivial | (refine ⟨?_, ?_⟩ <;> first | omega | assumption | trivial | rfl) | (refine ⟨?_, ?_, ?_⟩ <;> first | omega | assumption | trivial | rfl) | (refine ⟨?_, ?_, ?_, ?_⟩ <;> first | omega | assumption | trivial | rfl) | (refine ⟨?_, ?_, ?_, ?_, ?_⟩ <;> first | omega | assumption | trivial | rfl) | (refine ⟨?_, ?_, ?_, ?_, ?_, ?_⟩ <;> first | omega | assumption | trivial | rfl) | (refine ⟨?_, ?_, ?_, ?_, ?_, ?_, ?_⟩ <;> first | omega | assumption | trivial | rfl) | (refine ⟨?_, ?_, ?_, ?_, ?_, ?_, ?_, ?_⟩ <;> first | omega | assumption | trivial | rfl))
            · refine ok_c (ixo (by omega) (by omega)) ?_
              refine ok_c (ixo (by omega) (by omega)) ?_
              refine ok_bx (fun f_t_forms_80_2 e_f_t_forms_80_2 => ?_)
              refine ok_o2 (sp_X7_done c_t_acts (1 : Int32) ) (fun r83_2 c_t_acts_83_2 h15 => ?_)
              exact ok_s (show 0 = 0 ∨ 0 = 1 ∨ 0 = 2 from by first | omega | assumption | trivial | (refine ⟨?_, ?_⟩ <;> first | omega | assumption | trivial | rfl) | (refine ⟨?_, ?_, ?_⟩ <;> first | omega | assumption | trivial | rfl) | (refine ⟨?_, ?_, ?_, ?_⟩ <;> first | omega | assumption | trivial | rfl) | (refine ⟨?_, ?_, ?_, ?_, ?_⟩ <;> first | omega | assumption | trivial | rfl) | (refine ⟨?_, ?_, ?_, ?_, ?_, ?_⟩ <;> first | omega | assumption | trivial | rfl) | (refine ⟨?_, ?_, ?_, ?_, ?_, ?_, ?_⟩ <;> first | omega | assumption | trivial | rfl) | (refine ⟨?_, ?_, ?_, ?_, ?_, ?_, ?_, ?_⟩ <;> first | omega | assumption | trivial | rfl))
        · refine ok_eq (fun c16 => ?_) (fun c16 => ?_)
          · first | unfold J_X7_digit_54 | skip
            refine ok_eq (fun c17 => ?_) (fun c17 => ?_)
            · refine ok_o2 (sp_X7_done c_t_acts (0 : Int32) ) (fun r65_3 c_t_acts_65_3 h18 => ?_)
              exact ok_s (show 0 = 0 ∨ 0 = 1 ∨ 0 = 2 from by first | omega | assumption | trivial | (refine ⟨?_, ?_⟩ <;> first | omega | assumption | trivial | rfl) | (refine ⟨?_, ?_, ?_⟩ <;> first | omega | assumption | trivial | rfl) | (refine ⟨?_, ?_, ?_, ?_⟩ <;> first | omega | assumption | trivial | rfl) | (refine ⟨?_, ?_, ?_, ?_, ?_⟩ <;> first | omega | assumption | trivial | rfl) | (refine ⟨?_, ?_, ?_, ?_, ?_, ?_⟩ <;> first | omega | assumption | trivial | rfl) | (refine ⟨?_, ?_, ?_, ?_, ?_, ?_, ?_⟩ <;> first | omega | assumption | trivial | rfl) | (refine ⟨?_, ?_, ?_, ?_, ?_, ?_, ?_, ?_⟩ <;> first | omega | assumption | trivial | rfl))
            · refine ok_c (ixo (by omega) (by omega)) ?_
              refine ok_c (ixo (by omega) (by omega)) ?_
              refine ok_bx (fun f_t_forms_80_3 e_f_t_forms_80_3 => ?_)
              refine ok_o2 (sp_X7_done c_t_acts (1 : Int32) ) (fun r83_3 c_t_acts_83_3 h19 => ?_)
              exact ok_s (show 0 = 0 ∨ 0 = 1 ∨ 0 = 2 from by first | omega | assumption | trivial | (refine ⟨?_, ?_⟩ <;> first | omega | assumption | trivial | rfl) | (refine ⟨?_, ?_, ?_⟩ <;> first | omega | assumption | trivial | rfl) | (refine ⟨?_, ?_, ?_, ?_⟩ <;> first | omega | assumption | trivial | rfl) | (refine ⟨?_, ?_, ?_, ?_, ?_⟩ <;> first | omega | assumption | trivial | rfl) | (refine ⟨?_, ?_, ?_, ?_, ?_, ?_⟩ <;> first | omega | assumption | trivial | rfl) | (refine ⟨?_, ?_, ?_, ?_, ?_, ?_, ?_⟩ <;> first | omega | assumption | trivial | rfl) | (refine ⟨?_, ?_, ?_, ?_, ?_, ?_, ?_, ?_⟩ <;> first | omega | assumption | trivial | rfl))
          · first | unfold J_X7_digit_54 | skip
            refine ok_eq (fun c20 => ?_) (fun c20 => ?_)
            · refine ok_o2 (sp_X7_done c_t_acts (0 : Int32) ) (fun r65_4 c_t_acts_65_4 h21 => ?_)
              exact ok_s (show 0 = 0 ∨ 0 = 1 ∨ 0 = 2 from by first | omega | assumption | trivial | (refine ⟨?_, ?_⟩ <;> first | omega | assumption | trivial | rfl) | (refine ⟨?_, ?_, ?_⟩ <;> first | omega | assumption | trivial | rfl) | (refine ⟨?_, ?_, ?_, ?_⟩ <;> first | omega | assumption | trivial | rfl) | (refine ⟨?_, ?_, ?_, ?_, ?_⟩ <;> first | omega | assumption | trivial | rfl) | (refine ⟨?_, ?_, ?_, ?_, ?_, ?_⟩ <;> first | omega | assumption | trivial | rfl) | (refine ⟨?_, ?_, ?_, ?_, ?_, ?_, ?_⟩ <;> first | omega | assumption | trivial | rfl) | (refine ⟨?_, ?_, ?_, ?_, ?_, ?_, ?_, ?_⟩ <;> first | omega | assumption | trivial | rfl))
            · refine ok_c (ixo (by omega) (by omega)) ?_
              refine ok_c (ixo (by omega) (by omega)) ?_
              refine ok_bx (fun f_t_forms_80_4 e_f_t_forms_80_4 => ?_)
              refine ok_o2 (sp_X7_done c_t_acts (1 : Int32) ) (fun r83_4 c_t_acts_83_4 h22 => ?_)
              exact ok_s (show 0 = 0 ∨ 0 = 1 ∨ 0 = 2 from by first | omega | assumption | trivial | (refine ⟨?_, ?_⟩ <;> first | omega | assumption | trivial | rfl) | (refine ⟨?_, ?_, ?_⟩ <;> first | omega | assumption | trivial | rfl) | (refine ⟨?_, ?_, ?_, ?_⟩ <;> first | omega | assumption | trivial | rfl) | (refine ⟨?_, ?_, ?_, ?_, ?_⟩ <;> first | omega | assumption | trivial | rfl) | (refine ⟨?_, ?_, ?_, ?_, ?_, ?_⟩ <;> first | omega | assumption | trivial | rfl) | (refine ⟨?_, ?_, ?_, ?_, ?_, ?_, ?_⟩ <;> first | omega | assumption | trivial | rfl) | (refine ⟨?_, ?_, ?_, ?_, ?_, ?_, ?_, ?_⟩ <;> first | omega | assumption | trivial | rfl))
      · exact ok_s (show xc11 = 0 ∨ xc11 = 1 ∨ xc11 = 2 from by first | omega | assumption | trivial | (refine ⟨?_, ?_⟩ <;> first | omega | assumption | trivial | rfl) | (refine ⟨?_, ?_, ?_⟩ <;> first | omega | assumption | trivial | rfl) | (refine ⟨?_, ?_, ?_, ?_⟩ <;> first | omega | assumption | trivial | rfl) | (refine ⟨?_, ?_, ?_, ?_, ?_⟩ <;> first | omega | assumption | trivial | rfl) | (refine ⟨?_, ?_, ?_, ?_, ?_, ?_⟩ <;> first | omega | assumption | trivial | rfl) | (refine ⟨?_, ?_, ?_, ?_, ?_, ?_, ?_⟩ <;> first | omega | assumption | trivial | rfl) | (refine ⟨?_, ?_, ?_, ?_, ?_, ?_, ?_, ?_⟩ <;> first | omega | assumption | trivial | rfl))
    · exact ok_s (show xc5 = 0 ∨ xc5 = 1 ∨ xc5 = 2 from by first | omega | assumption | trivial | (refine ⟨?_, ?_⟩ <;> first | omega | assumption | trivial | rfl) | (refine ⟨?_, ?_, ?_⟩ <;> first | omega | assumption | trivial | rfl) | (refine ⟨?_, ?_, ?_, ?_⟩ <;> first | omega | assumption | trivial | rfl) | (refine ⟨?_, ?_, ?_, ?_, ?_⟩ <;> first | omega | assumption | trivial | rfl) | (refine ⟨?_, ?_, ?_, ?_, ?_, ?_⟩ <;> first | omega | assumption | trivial | rfl) | (refine ⟨?_, ?_, ?_, ?_, ?_, ?_, ?_⟩ <;> first | omega | assumption | trivial | rfl) | (refine ⟨?_, ?_, ?_, ?_, ?_, ?_, ?_, ?_⟩ <;> first | omega | assumption | trivial | rfl))
  · exact ok_s (show xc1 = 0 ∨ xc1 = 1 ∨ xc1 = 2 from by first | omega | assumption | trivial | (refine ⟨?_, ?_⟩ <;> first | omega | assumption | trivial | rfl) | (refine ⟨?_, ?_, ?_⟩ <;> first | omega | assumption | trivial | rfl) | (refine ⟨?_, ?_, ?_, ?_⟩ <;> first | omega | assumption | trivial | rfl) | (refine ⟨?_, ?_, ?_, ?_, ?_⟩ <;> first | omega | assumption | trivial | rfl) | (refine ⟨?_, ?_, ?_, ?_, ?_, ?_⟩ <;> first | omega | assumption | trivial | rfl) | (refine ⟨?_, ?_, ?_, ?_, ?_, ?_, ?_⟩ <;> first | omega | assumption | trivial | rfl) | (refine ⟨?_, ?_, ?_, ?_, ?_, ?_, ?_, ?_⟩ <;> first | omega | assumption | trivial | rfl))
set_option maxHeartbeats 1000000 in
theorem sp_X7_run (c_t_acts : Int32) (f_t_forms : Nat → Int64) (p0 : Int32) (p1 : Int32) (p2 : Int32)  : ok (F_X7_run c_t_acts f_t_forms p0 p1 p2) (fun r => r.1 = 0 ∨ r.1 = 1 ∨ r.1 = 2) := by
  have l032 : (0 : Int32).toInt = 0 := by decide
  have l164 : (1 : Int64).toInt = 1 := by decide
  have l4032 : (40 : Int32).toInt = 40 := by decide
  unfold F_X7_run
  refine ok_o (sp_X7_testForm p0 ) (fun xc1 h1 => ?_)
  have h1 : (xc1 = 0 ∧ 0 ≤ p0.toInt ∧ p0.toInt ≤ 5) ∨ xc1 = 1 := h1
  refine ok_i (fun c2 => ?_) (fun c2 => ?_)
  · refine ok_o (sp_X7_testRange p2 (0 : Int32) (40 : Int32) ) (fun xc8 h3 => ?_)
    have h3 : (xc8 = 0 ∧ (0 : Int32).toInt ≤ p2.toInt ∧ p2.toInt ≤ (40 : Int32).toInt) ∨ (xc8 = 2 ∧ (p2.toInt < (0 : Int32).toInt ∨ (40 : Int32).toInt < p2.toInt)) := h3
    refine ok_i (fun c4 => ?_) (fun c4 => ?_)
    · refine ok_o (sp_X7_testRange p1 (0 : Int32) p2 ) (fun xc14 h5 => ?_)
      have h5 : (xc14 = 0 ∧ (0 : Int32).toInt ≤ p1.toInt ∧ p1.toInt ≤ p2.toInt) ∨ (xc14 = 2 ∧ (p1.toInt < (0 : Int32).toInt ∨ p2.toInt < p1.toInt)) := h5
      refine ok_i (fun c6 => ?_) (fun c6 => ?_)
      · refine ok_c (ixo (by omega) (by omega)) ?_
        refine ok_c (ixo (by omega) (by omega)) ?_
        refine ok_bx (fun f_t_forms_32 e_f_t_forms_32 => ?_)
        refine ok_c (ixo (by omega) (by omega)) ?_
        refine ok_o (sp_X0_onesOf (f_t_forms_32 p0.toNatClampNeg) ) (fun r40 h7 => ?_)
        refine ok_o2 (sp_X7_done c_t_acts r40 ) (fun r43 c_t_acts_43 h8 => ?_)
        exact ok_s (show 0 = 0 ∨ 0 = 1 ∨ 0 = 2 from by first | omega | assumption | trivial | (refine ⟨?_, ?_⟩ <;> first | omega | assumption | trivial | rfl) | (refine ⟨?_, ?_, ?_⟩ <;> first | omega | assumption | trivial | rfl) | (refine ⟨?_, ?_, ?_, ?_⟩ <;> first | omega | assumption | trivial | rfl) | (refine ⟨?_, ?_, ?_, ?_, ?_⟩ <;> first | omega | assumption | trivial | rfl) | (refine ⟨?_, ?_, ?_, ?_, ?_, ?_⟩ <;> first | omega | assumption | trivial | rfl) | (refine ⟨?_, ?_, ?_, ?_, ?_, ?_, ?_⟩ <;> first | omega | assumption | trivial | rfl) | (refine ⟨?_, ?_, ?_, ?_, ?_, ?_, ?_, ?_⟩ <;> first | omega | assumption | trivial | rfl))
      · exact ok_s (show xc14 = 0 ∨ xc14 = 1 ∨ xc14 = 2 from by first | omega | assumption | trivial | (refine ⟨?_, ?_⟩ <;> first | omega | assumption | trivial | rfl) | (refine ⟨?_, ?_, ?_⟩ <;> first | omega | assumption | trivial | rfl) | (refine ⟨?_, ?_, ?_, ?_⟩ <;> first | omega | assumption | trivial | rfl) | (refine ⟨?_, ?_, ?_, ?_, ?_⟩ <;> first | omega | assumption | trivial | rfl) | (refine ⟨?_, ?_, ?_, ?_, ?_, ?_⟩ <;> first | omega | assumption | trivial | rfl) | (refine ⟨?_, ?_, ?_, ?_, ?_, ?_, ?_⟩ <;> first | omega | assumption | trivial | rfl) | (refine ⟨?_, ?_, ?_, ?_, ?_, ?_, ?_, ?_⟩ <;> first | omega | assumption | trivial | rfl))
    · exact ok_s (show xc8 = 0 ∨ xc8 = 1 ∨ xc8 = 2 from by first | omega | assumption | trivial | (refine ⟨?_, ?_⟩ <;> first | omega | assumption | trivial | rfl) | (refine ⟨?_, ?_, ?_⟩ <;> first | omega | assumption | trivial | rfl) | (refine ⟨?_, ?_, ?_, ?_⟩ <;> first | omega | assumption | trivial | rfl) | (refine ⟨?_, ?_, ?_, ?_, ?_⟩ <;> first | omega | assumption | trivial | rfl) | (refine ⟨?_, ?_, ?_, ?_, ?_, ?_⟩ <;> first | omega | assumption | trivial | rfl) | (refine ⟨?_, ?_, ?_, ?_, ?_, ?_, ?_⟩ <;> first | omega | assumption | trivial | rfl) | (refine ⟨?_, ?_, ?_, ?_, ?_, ?_, ?_, ?_⟩ <;> first | omega | assumption | trivial | rfl))
  · exact ok_s (show xc1 = 0 ∨ xc1 = 1 ∨ xc1 = 2 from by first | omega | assumption | trivial | (refine ⟨?_, ?_⟩ <;> first | omega | assumption | trivial | rfl) | (refine ⟨?_, ?_, ?_⟩ <;> first | omega | assumption | trivial | rfl) | (refine ⟨?_, ?_, ?_, ?_⟩ <;> first | omega | assumption | trivial | rfl) | (refine ⟨?_, ?_, ?_, ?_, ?_⟩ <;> first | omega | assumption | trivial | rfl) | (refine ⟨?_, ?_, ?_, ?_, ?_, ?_⟩ <;> first | omega | assumption | trivial | rfl) | (refine ⟨?_, ?_, ?_, ?_, ?_, ?_, ?_⟩ <;> first | omega | assumption | trivial | rfl) | (refine ⟨?_, ?_, ?_, ?_, ?_, ?_, ?_, ?_⟩ <;> first | omega | assumption | trivial | rfl))
set_option maxHeartbeats 1000000 in
theorem sp_X7_become (c_t_acts : Int32) (f_t_forms : Nat → Int64) (p0 : Int32) (p1 : Int64) (hp0 : 0 ≤ p0.toInt) (hp1 : p0.toInt ≤ 5) : ok (F_X7_become c_t_acts f_t_forms p0 p1) (fun r => True) := by
  have l032 : (0 : Int32).toInt = 0 := by decide
  unfold F_X7_become
  refine ok_c (ixo (by omega) (by omega)) ?_
  refine ok_bx (fun f_t_forms_6 e_f_t_forms_6 => ?_)
  refine ok_o (sp_X0_degreeOf p1 ) (fun r9 h1 => ?_)
  have h1 : r9.toInt = DG p1 ∧ -1 ≤ r9.toInt ∧ r9.toInt ≤ 63 := h1
  refine ok_o2 (sp_X7_done c_t_acts r9 ) (fun r12 c_t_acts_12 h2 => ?_)
  exact ok_s trivial
set_option maxHeartbeats 1000000 in
theorem sp_X7_copy (c_t_acts : Int32) (f_t_forms : Nat → Int64) (p0 : Int32) (p1 : Int32)  : ok (F_X7_copy c_t_acts f_t_forms p0 p1) (fun r => r.1 = 0 ∨ r.1 = 1) := by
  have l032 : (0 : Int32).toInt = 0 := by decide
  unfold F_X7_copy
  refine ok_o (sp_X7_testForm p0 ) (fun xc1 h1 => ?_)
  have h1 : (xc1 = 0 ∧ 0 ≤ p0.toInt ∧ p0.toInt ≤ 5) ∨ xc1 = 1 := h1
  refine ok_i (fun c2 => ?_) (fun c2 => ?_)
  · refine ok_o (sp_X7_testForm p1 ) (fun xc5 h3 => ?_)
    have h3 : (xc5 = 0 ∧ 0 ≤ p1.toInt ∧ p1.toInt ≤ 5) ∨ xc5 = 1 := h3
    refine ok_i (fun c4 => ?_) (fun c4 => ?_)
    · refine ok_c (ixo (by omega) (by omega)) ?_
      refine ok_o3 (sp_X7_become c_t_acts f_t_forms p1 (f_t_forms p0.toNatClampNeg) (by first | omega | assumption | trivial) (by first | omega | assumption | trivial)) (fun r16 c_t_acts_16 f_t_forms_16 h5 => ?_)
      exact ok_s (show 0 = 0 ∨ 0 = 1 from by first | omega | assumption | trivial | (refine ⟨?_, ?_⟩ <;> first | omega | assumption | trivial | rfl) | (refine ⟨?_, ?_, ?_⟩ <;> first | omega | assumption | trivial | rfl) | (refine ⟨?_, ?_, ?_, ?_⟩ <;> first | omega | assumption | trivial | rfl) | (refine ⟨?_, ?_, ?_, ?_, ?_⟩ <;> first | omega | assumption | trivial | rfl) | (refine ⟨?_, ?_, ?_, ?_, ?_, ?_⟩ <;> first | omega | assumption | trivial | rfl) | (refine ⟨?_, ?_, ?_, ?_, ?_, ?_, ?_⟩ <;> first | omega | assumption | trivial | rfl) | (refine ⟨?_, ?_, ?_, ?_, ?_, ?_, ?_, ?_⟩ <;> first | omega | assumption | trivial | rfl))
    · exact ok_s (show xc5 = 0 ∨ xc5 = 1 from by first | omega | assumption | trivial | (refine ⟨?_, ?_⟩ <;> first | omega | assumption | trivial | rfl) | (refine ⟨?_, ?_, ?_⟩ <;> first | omega | assumption | trivial | rfl) | (refine ⟨?_, ?_, ?_, ?_⟩ <;> first | omega | assumption | trivial | rfl) | (refine ⟨?_, ?_, ?_, ?_, ?_⟩ <;> first | omega | assumption | trivial | rfl) | (refine ⟨?_, ?_, ?_, ?_, ?_, ?_⟩ <;> first | omega | assumption | trivial | rfl) | (refine ⟨?_, ?_, ?_, ?_, ?_, ?_, ?_⟩ <;> first | omega | assumption | trivial | rfl) | (refine ⟨?_, ?_, ?_, ?_, ?_, ?_, ?_, ?_⟩ <;> first | omega | assumption | trivial | rfl))
  · exact ok_s (show xc1 = 0 ∨ xc1 = 1 from by first | omega | assumption | trivial | (refine ⟨?_, ?_⟩ <;> first | omega | assumption | trivial | rfl) | (refine ⟨?_, ?_, ?_⟩ <;> first | omega | assumption | trivial | rfl) | (refine ⟨?_, ?_, ?_, ?_⟩ <;> first | omega | assumption | trivial | rfl) | (refine ⟨?_, ?_, ?_, ?_, ?_⟩ <;> first | omega | assumption | trivial | rfl) | (refine ⟨?_, ?_, ?_, ?_, ?_, ?_⟩ <;> first | omega | assumption | trivial | rfl) | (refine ⟨?_, ?_, ?_, ?_, ?_, ?_, ?_⟩ <;> first | omega | assumption | trivial | rfl) | (refine ⟨?_, ?_, ?_, ?_, ?_, ?_, ?_, ?_⟩ <;> first | omega | assumption | trivial | rfl))
set_option maxHeartbeats 1000000 in
theorem sp_X7_swap (c_t_acts : Int32) (f_t_forms : Nat → Int64) (p0 : Int32) (p1 : Int32)  : ok (F_X7_swap c_t_acts f_t_forms p0 p1) (fun r => r.1 = 0 ∨ r.1 = 1) := by
  have l032 : (0 : Int32).toInt = 0 := by decide
  have l132 : (1 : Int32).toInt = 1 := by decide
  unfold F_X7_swap
  refine ok_o (sp_X7_testForm p0 ) (fun xc1 h1 => ?_)
  have h1 : (xc1 = 0 ∧ 0 ≤ p0.toInt ∧ p0.toInt ≤ 5) ∨ xc1 = 1 := h1
  refine ok_i (fun c2 => ?_) (fun c2 => ?_)
  · refine ok_o (sp_X7_testForm p1 ) (fun xc5 h3 => ?_)
    have h3 : (xc5 = 0 ∧ 0 ≤ p1.toInt ∧ p1.toInt ≤ 5) ∨ xc5 = 1 := h3
    refine ok_i (fun c4 => ?_) (fun c4 => ?_)
    · refine ok_c (ixo (by omega) (by omega)) ?_
      refine ok_bx (fun x3_14 e_x3_14 => ?_)
      refine ok_c (ixo (by omega) (by omega)) ?_
      refine ok_c (ixo (by omega) (by omega)) ?_
      refine ok_bx (fun f_t_forms_26 e_f_t_forms_26 => ?_)
      refine ok_c (ixo (by omega) (by omega)) ?_
      refine ok_bx (fun f_t_forms_33 e_f_t_forms_33 => ?_)
      refine ok_c (ixo (by omega) (by omega)) ?_
      refine ok_eqL (fun c5 => ?_) (fun c5 => ?_)
      · refine ok_o2 (sp_X7_done c_t_acts (0 : Int32) ) (fun r51 c_t_acts_51 h6 => ?_)
        exact ok_s (show 0 = 0 ∨ 0 = 1 from by first | omega | assumption | trivial | (refine ⟨?_, ?_⟩ <;> first | omega | assumption | trivial | rfl) | (refine ⟨?_, ?_, ?_⟩ <;> first | omega | assumption | trivial | rfl) | (refine ⟨?_, ?_, ?_, ?_⟩ <;> first | omega | assumption | trivial | rfl) | (refine ⟨?_, ?_, ?_, ?_, ?_⟩ <;> first | omega | assumption | trivial | rfl) | (refine ⟨?_, ?_, ?_, ?_, ?_, ?_⟩ <;> first | omega | assumption | trivial | rfl) | (refine ⟨?_, ?_, ?_, ?_, ?_, ?_, ?_⟩ <;> first | omega | assumption | trivial | rfl) | (refine ⟨?_, ?_, ?_, ?_, ?_, ?_, ?_, ?_⟩ <;> first | omega | assumption | trivial | rfl))
      · refine ok_o2 (sp_X7_done c_t_acts (1 : Int32) ) (fun r51_2 c_t_acts_51_2 h7 => ?_)
        exact ok_s (show 0 = 0 ∨ 0 = 1 from by first | omega | assumption | trivial | (refine ⟨?_, ?_⟩ <;> first | omega | assumption | trivial | rfl) | (refine ⟨?_, ?_, ?_⟩ <;> first | omega | assumption | trivial | rfl) | (refine ⟨?_, ?_, ?_, ?_⟩ <;> first | omega | assumption | trivial | rfl) | (refine ⟨?_, ?_, ?_, ?_, ?_⟩ <;> first | omega | assumption | trivial | rfl) | (refine ⟨?_, ?_, ?_, ?_, ?_, ?_⟩ <;> first | omega | assumption | trivial | rfl) | (refine ⟨?_, ?_, ?_, ?_, ?_, ?_, ?_⟩ <;> first | omega | assumption | trivial | rfl) | (refine ⟨?_, ?_, ?_, ?_, ?_, ?_, ?_, ?_⟩ <;> first | omega | assumption | trivial | rfl))
    · exact ok_s (show xc5 = 0 ∨ xc5 = 1 from by first | omega | assumption | trivial | (refine ⟨?_, ?_⟩ <;> first | omega | assumption | trivial | rfl) | (refine ⟨?_, ?_, ?_⟩ <;> first | omega | assumption | trivial | rfl) | (refine ⟨?_, ?_, ?_, ?_⟩ <;> first | omega | assumption | trivial | rfl) | (refine ⟨?_, ?_, ?_, ?_, ?_⟩ <;> first | omega | assumption | trivial | rfl) | (refine ⟨?_, ?_, ?_, ?_, ?_, ?_⟩ <;> first | omega | assumption | trivial | rfl) | (refine ⟨?_, ?_, ?_, ?_, ?_, ?_, ?_⟩ <;> first | omega | assumption | trivial | rfl) | (refine ⟨?_, ?_, ?_, ?_, ?_, ?_, ?_, ?_⟩ <;> first | omega | assumption | trivial | rfl))
  · exact ok_s (show xc1 = 0 ∨ xc1 = 1 from by first | omega | assumption | trivial | (refine ⟨?_, ?_⟩ <;> first | omega | assumption | trivial | rfl) | (refine ⟨?_, ?_, ?_⟩ <;> first | omega | assumption | trivial | rfl) | (refine ⟨?_, ?_, ?_, ?_⟩ <;> first | omega | assumption | trivial | rfl) | (refine ⟨?_, ?_, ?_, ?_, ?_⟩ <;> first | omega | assumption | trivial | rfl) | (refine ⟨?_, ?_, ?_, ?_, ?_, ?_⟩ <;> first | omega | assumption | trivial | rfl) | (refine ⟨?_, ?_, ?_, ?_, ?_, ?_, ?_⟩ <;> first | omega | assumption | trivial | rfl) | (refine ⟨?_, ?_, ?_, ?_, ?_, ?_, ?_, ?_⟩ <;> first | omega | assumption | trivial | rfl))
set_option maxHeartbeats 1000000 in
theorem sp_X7_turn (c_t_acts : Int32) (f_t_forms : Nat → Int64) (p0 : Int32)  : ok (F_X7_turn c_t_acts f_t_forms p0) (fun r => r.1 = 0 ∨ r.1 = 1) := by
  have l032 : (0 : Int32).toInt = 0 := by decide
  unfold F_X7_turn
  refine ok_o (sp_X7_testForm p0 ) (fun xc1 h1 => ?_)
  have h1 : (xc1 = 0 ∧ 0 ≤ p0.toInt ∧ p0.toInt ≤ 5) ∨ xc1 = 1 := h1
  refine ok_i (fun c2 => ?_) (fun c2 => ?_)
  · refine ok_c (ixo (by omega) (by omega)) ?_
    refine ok_o (sp_X0_turned (f_t_forms p0.toNatClampNeg) ) (fun r12 h3 => ?_)
    refine ok_o3 (sp_X7_become c_t_acts f_t_forms p0 r12 (by first | omega | assumption | trivial) (by first | omega | assumption | trivial)) (fun r15 c_t_acts_15 f_t_forms_15 h4 => ?_)
    exact ok_s (show 0 = 0 ∨ 0 = 1 from by first | omega | assumption | trivial | (refine ⟨?_, ?_⟩ <;> first | omega | assumption | trivial | rfl) | (refine ⟨?_, ?_, ?_⟩ <;> first | omega | assumption | trivial | rfl) | (refine ⟨?_, ?_, ?_, ?_⟩ <;> first | omega | assumption | trivial | rfl) | (refine ⟨?_, ?_, ?_, ?_, ?_⟩ <;> first | omega | assumption | trivial | rfl) | (refine ⟨?_, ?_, ?_, ?_, ?_, ?_⟩ <;> first | omega | assumption | trivial | rfl) | (refine ⟨?_, ?_, ?_, ?_, ?_, ?_, ?_⟩ <;> first | omega | assumption | trivial | rfl) | (refine ⟨?_, ?_, ?_, ?_, ?_, ?_, ?_, ?_⟩ <;> first | omega | assumption | trivial | rfl))
  · exact ok_s (show xc1 = 0 ∨ xc1 = 1 from by first | omega | assumption | trivial | (refine ⟨?_, ?_⟩ <;> first | omega | assumption | trivial | rfl) | (refine ⟨?_, ?_, ?_⟩ <;> first | omega | assumption | trivial | rfl) | (refine ⟨?_, ?_, ?_, ?_⟩ <;> first | omega | assumption | trivial | rfl) | (refine ⟨?_, ?_, ?_, ?_, ?_⟩ <;> first | omega | assumption | trivial | rfl) | (refine ⟨?_, ?_, ?_, ?_, ?_, ?_⟩ <;> first | omega | assumption | trivial | rfl) | (refine ⟨?_, ?_, ?_, ?_, ?_, ?_, ?_⟩ <;> first | omega | assumption | trivial | rfl) | (refine ⟨?_, ?_, ?_, ?_, ?_, ?_, ?_, ?_⟩ <;> first | omega | assumption | trivial | rfl))
set_option maxHeartbeats 1000000 in
theorem sp_X7_slope (c_t_acts : Int32) (f_t_forms : Nat → Int64) (p0 : Int32)  : ok (F_X7_slope c_t_acts f_t_forms p0) (fun r => r.1 = 0 ∨ r.1 = 1) := by
  have l032 : (0 : Int32).toInt = 0 := by decide
  have l132 : (1 : Int32).toInt = 1 := by decide
  unfold F_X7_slope
  refine ok_o (sp_X7_testForm p0 ) (fun xc1 h1 => ?_)
  have h1 : (xc1 = 0 ∧ 0 ≤ p0.toInt ∧ p0.toInt ≤ 5) ∨ xc1 = 1 := h1
  refine ok_i (fun c2 => ?_) (fun c2 => ?_)
  · refine ok_c (ixo (by omega) (by omega)) ?_
    refine ok_o3 (sp_X7_become c_t_acts f_t_forms p0 (((f_t_forms p0.toNatClampNeg) >>> ((1 : Int32).toInt64 &&& 63)) &&& (366503875925 : Int64)) (by first | omega | assumption | trivial) (by first | omega | assumption | trivial)) (fun r18 c_t_acts_18 f_t_forms_18 h3 => ?_)
    exact ok_s (show 0 = 0 ∨ 0 = 1 from by first | omega | assumption | trivial | (refine ⟨?_, ?_⟩ <;> first | omega | assumption | trivial | rfl) | (refine ⟨?_, ?_, ?_⟩ <;> first | omega | assumption | trivial | rfl) | (refine ⟨?_, ?_, ?_, ?_⟩ <;> first | omega | assumption | trivial | rfl) | (refine ⟨?_, ?_, ?_, ?_, ?_⟩ <;> first | omega | assumption | trivial | rfl) | (refine ⟨?_, ?_, ?_, ?_, ?_, ?_⟩ <;> first | omega | assumption | trivial | rfl) | (refine ⟨?_, ?_, ?_, ?_, ?_, ?_, ?_⟩ <;> first | omega | assumption | trivial | rfl) | (refine ⟨?_, ?_, ?_, ?_, ?_, ?_, ?_, ?_⟩ <;> first | omega | assumption | trivial | rfl))
  · exact ok_s (show xc1 = 0 ∨ xc1 = 1 from by first | omega | assumption | trivial | (refine ⟨?_, ?_⟩ <;> first | omega | assumption | trivial | rfl) | (refine ⟨?_, ?_, ?_⟩ <;> first | omega | assumption | trivial | rfl) | (refine ⟨?_, ?_, ?_, ?_⟩ <;> first | omega | assumption | trivial | rfl) | (refine ⟨?_, ?_, ?_, ?_, ?_⟩ <;> first | omega | assumption | trivial | rfl) | (refine ⟨?_, ?_, ?_, ?_, ?_, ?_⟩ <;> first | omega | assumption | trivial | rfl) | (refine ⟨?_, ?_, ?_, ?_, ?_, ?_, ?_⟩ <;> first | omega | assumption | trivial | rfl) | (refine ⟨?_, ?_, ?_, ?_, ?_, ?_, ?_, ?_⟩ <;> first | omega | assumption | trivial | rfl))
set_option maxHeartbeats 1000000 in
theorem sp_X7_add (c_t_acts : Int32) (f_t_forms : Nat → Int64) (p0 : Int32) (p1 : Int32) (p2 : Int32)  : ok (F_X7_add c_t_acts f_t_forms p0 p1 p2) (fun r => r.1 = 0 ∨ r.1 = 1) := by
  have l032 : (0 : Int32).toInt = 0 := by decide
  unfold F_X7_add
  refine ok_o (sp_X7_testForms p0 p1 p2 ) (fun xc3 h1 => ?_)
  have h1 : (xc3 = 0 ∧ 0 ≤ p0.toInt ∧ p0.toInt ≤ 5 ∧ 0 ≤ p1.toInt ∧ p1.toInt ≤ 5 ∧ 0 ≤ p2.toInt ∧ p2.toInt ≤ 5) ∨ xc3 = 1 := h1
  refine ok_i (fun c2 => ?_) (fun c2 => ?_)
  · refine ok_c (ixo (by omega) (by omega)) ?_
    refine ok_c (ixo (by omega) (by omega)) ?_
    refine ok_o3 (sp_X7_become c_t_acts f_t_forms p2 ((f_t_forms p0.toNatClampNeg) ^^^ (f_t_forms p1.toNatClampNeg)) (by first | omega | assumption | trivial) (by first | omega | assumption | trivial)) (fun r21 c_t_acts_21 f_t_forms_21 h3 => ?_)
    exact ok_s (show 0 = 0 ∨ 0 = 1 from by first | omega | assumption | trivial | (refine ⟨?_, ?_⟩ <;> first | omega | assumption | trivial | rfl) | (refine ⟨?_, ?_, ?_⟩ <;> first | omega | assumption | trivial | rfl) | (refine ⟨?_, ?_, ?_, ?_⟩ <;> first | omega | assumption | trivial | rfl) | (refine ⟨?_, ?_, ?_, ?_, ?_⟩ <;> first | omega | assumption | trivial | rfl) | (refine ⟨?_, ?_, ?_, ?_, ?_, ?_⟩ <;> first | omega | assumption | trivial | rfl) | (refine ⟨?_, ?_, ?_, ?_, ?_, ?_, ?_⟩ <;> first | omega | assumption | trivial | rfl) | (refine ⟨?_, ?_, ?_, ?_, ?_, ?_, ?_, ?_⟩ <;> first | omega | assumption | trivial | rfl))
  · exact ok_s (show xc3 = 0 ∨ xc3 = 1 from by first | omega | assumption | trivial | (refine ⟨?_, ?_⟩ <;> first | omega | assumption | trivial | rfl) | (refine ⟨?_, ?_, ?_⟩ <;> first | omega | assumption | trivial | rfl) | (refine ⟨?_, ?_, ?_, ?_⟩ <;> first | omega | assumption | trivial | rfl) | (refine ⟨?_, ?_, ?_, ?_, ?_⟩ <;> first | omega | assumption | trivial | rfl) | (refine ⟨?_, ?_, ?_, ?_, ?_, ?_⟩ <;> first | omega | assumption | trivial | rfl) | (refine ⟨?_, ?_, ?_, ?_, ?_, ?_, ?_⟩ <;> first | omega | assumption | trivial | rfl) | (refine ⟨?_, ?_, ?_, ?_, ?_, ?_, ?_, ?_⟩ <;> first | omega | assumption | trivial | rfl))
set_option maxHeartbeats 1000000 in
theorem sp_X7_multiply (c_t_acts : Int32) (c_t_refusals : Int32) (f_t_forms : Nat → Int64) (p0 : Int32) (p1 : Int32) (p2 : Int32)  : ok (F_X7_multiply c_t_acts c_t_refusals f_t_forms p0 p1 p2) (fun r => r.1 = 0 ∨ r.1 = 1) := by
  have l032 : (0 : Int32).toInt = 0 := by decide
  unfold F_X7_multiply
  refine ok_o (sp_X7_testForms p0 p1 p2 ) (fun xc3 h1 => ?_)
  have h1 : (xc3 = 0 ∧ 0 ≤ p0.toInt ∧ p0.toInt ≤ 5 ∧ 0 ≤ p1.toInt ∧ p1.toInt ≤ 5 ∧ 0 ≤ p2.toInt ∧ p2.toInt ≤ 5) ∨ xc3 = 1 := h1
  refine ok_i (fun c2 => ?_) (fun c2 => ?_)
  · refine ok_c (ixo (by omega) (by omega)) ?_
    refine ok_c (ixo (by omega) (by omega)) ?_
    refine ok_o (sp_X0_haveProduct (f_t_forms p0.toNatClampNeg) (f_t_forms p1.toNatClampNeg) ) (fun r18 h3 => ?_)
    have h3 : r18.toInt = 0 ∨ r18.toInt = 1 := h3
    refine ok_eq (fun c4 => ?_) (fun c4 => ?_)
    · refine ok_o2 (sp_X7_refuse c_t_refusals ) (fun r25 c_t_refusals_25 h5 => ?_)
      exact ok_s (show 0 = 0 ∨ 0 = 1 from by first | omega | assumption | trivial | (refine ⟨?_, ?_⟩ <;> first | omega | assumption | trivial | rfl) | (refine ⟨?_, ?_, ?_⟩ <;> first | omega | assumption | trivial | rfl) | (refine ⟨?_, ?_, ?_, ?_⟩ <;> first | omega | assumption | trivial | rfl) | (refine ⟨?_, ?_, ?_, ?_, ?_⟩ <;> first | omega | assumption | trivial | rfl) | (refine ⟨?_, ?_, ?_, ?_, ?_, ?_⟩ <;> first | omega | assumption | trivial | rfl) | (refine ⟨?_, ?_, ?_, ?_, ?_, ?_, ?_⟩ <;> first | omega | assumption | trivial | rfl) | (refine ⟨?_, ?_, ?_, ?_, ?_, ?_, ?_, ?_⟩ <;> first | omega | assumption | trivial | rfl))
    · refine ok_c (ixo (by omega) (by omega)) ?_
      refine ok_c (ixo (by omega) (by omega)) ?_
      refine ok_o (sp_X0_multiplied (f_t_forms p0.toNatClampNeg) (f_t_forms p1.toNatClampNeg) ) (fun r43 h6 => ?_)
      refine ok_o3 (sp_X7_become c_t_acts f_t_forms p2 r43 (by first | omega | assumption | trivial) (by first | omega | assumption | trivial)) (fun r46 c_t_acts_46 f_t_forms_46 h7 => ?_)
      exact ok_s (show 0 = 0 ∨ 0 = 1 from by first | omega | assumption | trivial | (refine ⟨?_, ?_⟩ <;> first | omega | assumption | trivial | rfl) | (refine ⟨?_, ?_, ?_⟩ <;> first | omega | assumption | trivial | rfl) | (refine ⟨?_, ?_, ?_, ?_⟩ <;> first | omega | assumption | trivial | rfl) | (refine ⟨?_, ?_, ?_, ?_, ?_⟩ <;> first | omega | assumption | trivial | rfl) | (refine ⟨?_, ?_, ?_, ?_, ?_, ?_⟩ <;> first | omega | assumption | trivial | rfl) | (refine ⟨?_, ?_, ?_, ?_, ?_, ?_, ?_⟩ <;> first | omega | assumption | trivial | rfl) | (refine ⟨?_, ?_, ?_, ?_, ?_, ?_, ?_, ?_⟩ <;> first | omega | assumption | trivial | rfl))
  · exact ok_s (show xc3 = 0 ∨ xc3 = 1 from by first | omega | assumption | trivial | (refine ⟨?_, ?_⟩ <;> first | omega | assumption | trivial | rfl) | (refine ⟨?_, ?_, ?_⟩ <;> first | omega | assumption | trivial | rfl) | (refine ⟨?_, ?_, ?_, ?_⟩ <;> first | omega | assumption | trivial | rfl) | (refine ⟨?_, ?_, ?_, ?_, ?_⟩ <;> first | omega | assumption | trivial | rfl) | (refine ⟨?_, ?_, ?_, ?_, ?_, ?_⟩ <;> first | omega | assumption | trivial | rfl) | (refine ⟨?_, ?_, ?_, ?_, ?_, ?_, ?_⟩ <;> first | omega | assumption | trivial | rfl) | (refine ⟨?_, ?_, ?_, ?_, ?_, ?_, ?_, ?_⟩ <;> first | omega | assumption | trivial | rfl))
set_option maxHeartbeats 1000000 in
theorem sp_X7_square (c_t_acts : Int32) (c_t_refusals : Int32) (f_t_forms : Nat → Int64) (p0 : Int32) (p1 : Int32)  : ok (F_X7_square c_t_acts c_t_refusals f_t_forms p0 p1) (fun r => r.1 = 0 ∨ r.1 = 1) := by
  have l032 : (0 : Int32).toInt = 0 := by decide
  have l232 : (2 : Int32).toInt = 2 := by decide
  have l3932 : (39 : Int32).toInt = 39 := by decide
  unfold F_X7_square
  refine ok_o (sp_X7_testForm p0 ) (fun xc1 h1 => ?_)
  have h1 : (xc1 = 0 ∧ 0 ≤ p0.toInt ∧ p0.toInt ≤ 5) ∨ xc1 = 1 := h1
  refine ok_i (fun c2 => ?_) (fun c2 => ?_)
  · refine ok_o (sp_X7_testForm p1 ) (fun xc5 h3 => ?_)
    have h3 : (xc5 = 0 ∧ 0 ≤ p1.toInt ∧ p1.toInt ≤ 5) ∨ xc5 = 1 := h3
    refine ok_i (fun c4 => ?_) (fun c4 => ?_)
    · refine ok_c (ixo (by omega) (by omega)) ?_
      refine ok_o (sp_X0_degreeOf (f_t_forms p0.toNatClampNeg) ) (fun r15 h5 => ?_)
      have h5 : r15.toInt = DG (f_t_forms p0.toNatClampNeg) ∧ -1 ≤ r15.toInt ∧ r15.toInt ≤ 63 := h5
      refine ok_le (fun c6 => ?_) (fun c6 => ?_)
      · refine ok_c (ixo (by omega) (by omega)) ?_
        refine ok_o (sp_X0_squared (f_t_forms p0.toNatClampNeg) ) (fun r37 h7 => ?_)
        refine ok_o3 (sp_X7_become c_t_acts f_t_forms p1 r37 (by first | omega | assumption | trivial) (by first | omega | assumption | trivial)) (fun r40 c_t_acts_40 f_t_forms_40 h8 => ?_)
        exact ok_s (show 0 = 0 ∨ 0 = 1 from by first | omega | assumption | trivial | (refine ⟨?_, ?_⟩ <;> first | omega | assumption | trivial | rfl) | (refine ⟨?_, ?_, ?_⟩ <;> first | omega | assumption | trivial | rfl) | (refine ⟨?_, ?_, ?_, ?_⟩ <;> first | omega | assumption | trivial | rfl) | (refine ⟨?_, ?_, ?_, ?_, ?_⟩ <;> first | omega | assumption | trivial | rfl) | (refine ⟨?_, ?_, ?_, ?_, ?_, ?_⟩ <;> first | omega | assumption | trivial | rfl) | (refine ⟨?_, ?_, ?_, ?_, ?_, ?_, ?_⟩ <;> first | omega | assumption | trivial | rfl) | (refine ⟨?_, ?_, ?_, ?_, ?_, ?_, ?_, ?_⟩ <;> first | omega | assumption | trivial | rfl))
      · refine ok_o2 (sp_X7_refuse c_t_refusals ) (fun r25 c_t_refusals_25 h9 => ?_)
        exact ok_s (show 0 = 0 ∨ 0 = 1 from by first | omega | assumption | trivial | (refine ⟨?_, ?_⟩ <;> first | omega | assumption | trivial | rfl) | (refine ⟨?_, ?_, ?_⟩ <;> first | omega | assumption | trivial | rfl) | (refine ⟨?_, ?_, ?_, ?_⟩ <;> first | omega | assumption | trivial | rfl) | (refine ⟨?_, ?_, ?_, ?_, ?_⟩ <;> first | omega | assumption | trivial | rfl) | (refine ⟨?_, ?_, ?_, ?_, ?_, ?_⟩ <;> first | omega | assumption | trivial | rfl) | (refine ⟨?_, ?_, ?_, ?_, ?_, ?_, ?_⟩ <;> first | omega | assumption | trivial | rfl) | (refine ⟨?_, ?_, ?_, ?_, ?_, ?_, ?_, ?_⟩ <;> first | omega | assumption | trivial | rfl))
    · exact ok_s (show xc5 = 0 ∨ xc5 = 1 from by first | omega | assumption | trivial | (refine ⟨?_, ?_⟩ <;> first | omega | assumption | trivial | rfl) | (refine ⟨?_, ?_, ?_⟩ <;> first | omega | assumption | trivial | rfl) | (refine ⟨?_, ?_, ?_, ?_⟩ <;> first | omega | assumption | trivial | rfl) | (refine ⟨?_, ?_, ?_, ?_, ?_⟩ <;> first | omega | assumption | trivial | rfl) | (refine ⟨?_, ?_, ?_, ?_, ?_, ?_⟩ <;> first | omega | assumption | trivial | rfl) | (refine ⟨?_, ?_, ?_, ?_, ?_, ?_, ?_⟩ <;> first | omega | assumption | trivial | rfl) | (refine ⟨?_, ?_, ?_, ?_, ?_, ?_, ?_, ?_⟩ <;> first | omega | assumption | trivial | rfl))
  · exact ok_s (show xc1 = 0 ∨ xc1 = 1 from by first | omega | assumption | trivial | (refine ⟨?_, ?_⟩ <;> first | omega | assumption | trivial | rfl) | (refine ⟨?_, ?_, ?_⟩ <;> first | omega | assumption | trivial | rfl) | (refine ⟨?_, ?_, ?_, ?_⟩ <;> first | omega | assumption | trivial | rfl) | (refine ⟨?_, ?_, ?_, ?_, ?_⟩ <;> first | omega | assumption | trivial | rfl) | (refine ⟨?_, ?_, ?_, ?_, ?_, ?_⟩ <;> first | omega | assumption | trivial | rfl) | (refine ⟨?_, ?_, ?_, ?_, ?_, ?_, ?_⟩ <;> first | omega | assumption | trivial | rfl) | (refine ⟨?_, ?_, ?_, ?_, ?_, ?_, ?_, ?_⟩ <;> first | omega | assumption | trivial | rfl))
set_option maxHeartbeats 1000000 in
theorem sp_X7_divide (c_t_acts : Int32) (c_t_refusals : Int32) (f_t_forms : Nat → Int64) (p0 : Int32) (p1 : Int32) (p2 : Int32)  : ok (F_X7_divide c_t_acts c_t_refusals f_t_forms p0 p1 p2) (fun r => r.1 = 0 ∨ r.1 = 1) := by
  have l032 : (0 : Int32).toInt = 0 := by decide
  have l064 : (0 : Int64).toInt = 0 := by decide
  unfold F_X7_divide
  refine ok_o (sp_X7_testForms p0 p1 p2 ) (fun xc3 h1 => ?_)
  have h1 : (xc3 = 0 ∧ 0 ≤ p0.toInt ∧ p0.toInt ≤ 5 ∧ 0 ≤ p1.toInt ∧ p1.toInt ≤ 5 ∧ 0 ≤ p2.toInt ∧ p2.toInt ≤ 5) ∨ xc3 = 1 := h1
  refine ok_i (fun c2 => ?_) (fun c2 => ?_)
  · refine ok_c (ixo (by omega) (by omega)) ?_
    refine ok_eqL (fun c3 => ?_) (fun c3 => ?_)
    · refine ok_o2 (sp_X7_refuse c_t_refusals ) (fun r18 c_t_refusals_18 h4 => ?_)
      exact ok_s (show 0 = 0 ∨ 0 = 1 from by first | omega | assumption | trivial | (refine ⟨?_, ?_⟩ <;> first | omega | assumption | trivial | rfl) | (refine ⟨?_, ?_, ?_⟩ <;> first | omega | assumption | trivial | rfl) | (refine ⟨?_, ?_, ?_, ?_⟩ <;> first | omega | assumption | trivial | rfl) | (refine ⟨?_, ?_, ?_, ?_, ?_⟩ <;> first | omega | assumption | trivial | rfl) | (refine ⟨?_, ?_, ?_, ?_, ?_, ?_⟩ <;> first | omega | assumption | trivial | rfl) | (refine ⟨?_, ?_, ?_, ?_, ?_, ?_, ?_⟩ <;> first | omega | assumption | trivial | rfl) | (refine ⟨?_, ?_, ?_, ?_, ?_, ?_, ?_, ?_⟩ <;> first | omega | assumption | trivial | rfl))
    · refine ok_c (ixo (by omega) (by omega)) ?_
      refine ok_c (ixo (by omega) (by omega)) ?_
      refine ok_o (sp_X0_quotient (f_t_forms p0.toNatClampNeg) (f_t_forms p1.toNatClampNeg) ) (fun r36 h5 => ?_)
      refine ok_o3 (sp_X7_become c_t_acts f_t_forms p2 r36 (by first | omega | assumption | trivial) (by first | omega | assumption | trivial)) (fun r39 c_t_acts_39 f_t_forms_39 h6 => ?_)
      exact ok_s (show 0 = 0 ∨ 0 = 1 from by first | omega | assumption | trivial | (refine ⟨?_, ?_⟩ <;> first | omega | assumption | trivial | rfl) | (refine ⟨?_, ?_, ?_⟩ <;> first | omega | assumption | trivial | rfl) | (refine ⟨?_, ?_, ?_, ?_⟩ <;> first | omega | assumption | trivial | rfl) | (refine ⟨?_, ?_, ?_, ?_, ?_⟩ <;> first | omega | assumption | trivial | rfl) | (refine ⟨?_, ?_, ?_, ?_, ?_, ?_⟩ <;> first | omega | assumption | trivial | rfl) | (refine ⟨?_, ?_, ?_, ?_, ?_, ?_, ?_⟩ <;> first | omega | assumption | trivial | rfl) | (refine ⟨?_, ?_, ?_, ?_, ?_, ?_, ?_, ?_⟩ <;> first | omega | assumption | trivial | rfl))
  · exact ok_s (show xc3 = 0 ∨ xc3 = 1 from by first | omega | assumption | trivial | (refine ⟨?_, ?_⟩ <;> first | omega | assumption | trivial | rfl) | (refine ⟨?_, ?_, ?_⟩ <;> first | omega | assumption | trivial | rfl) | (refine ⟨?_, ?_, ?_, ?_⟩ <;> first | omega | assumption | trivial | rfl) | (refine ⟨?_, ?_, ?_, ?_, ?_⟩ <;> first | omega | assumption | trivial | rfl) | (refine ⟨?_, ?_, ?_, ?_, ?_, ?_⟩ <;> first | omega | assumption | trivial | rfl) | (refine ⟨?_, ?_, ?_, ?_, ?_, ?_, ?_⟩ <;> first | omega | assumption | trivial | rfl) | (refine ⟨?_, ?_, ?_, ?_, ?_, ?_, ?_, ?_⟩ <;> first | omega | assumption | trivial | rfl))
set_option maxHeartbeats 1000000 in
theorem sp_X7_remain (c_t_acts : Int32) (c_t_refusals : Int32) (f_t_forms : Nat → Int64) (p0 : Int32) (p1 : Int32) (p2 : Int32)  : ok (F_X7_remain c_t_acts c_t_refusals f_t_forms p0 p1 p2) (fun r => r.1 = 0 ∨ r.1 = 1) := by
  have l032 : (0 : Int32).toInt = 0 := by decide
  have l064 : (0 : Int64).toInt = 0 := by decide
  unfold F_X7_remain
  refine ok_o (sp_X7_testForms p0 p1 p2 ) (fun xc3 h1 => ?_)
  have h1 : (xc3 = 0 ∧ 0 ≤ p0.toInt ∧ p0.toInt ≤ 5 ∧ 0 ≤ p1.toInt ∧ p1.toInt ≤ 5 ∧ 0 ≤ p2.toInt ∧ p2.toInt ≤ 5) ∨ xc3 = 1 := h1
  refine ok_i (fun c2 => ?_) (fun c2 => ?_)
  · refine ok_c (ixo (by omega) (by omega)) ?_
    refine ok_eqL (fun c3 => ?_) (fun c3 => ?_)
    · refine ok_o2 (sp_X7_refuse c_t_refusals ) (fun r18 c_t_refusals_18 h4 => ?_)
      exact ok_s (show 0 = 0 ∨ 0 = 1 from by first | omega | assumption | trivial | (refine ⟨?_, ?_⟩ <;> first | omega | assumption | trivial | rfl) | (refine ⟨?_, ?_, ?_⟩ <;> first | omega | assumption | trivial | rfl) | (refine ⟨?_, ?_, ?_, ?_⟩ <;> first | omega | assumption | trivial | rfl) | (refine ⟨?_, ?_, ?_, ?_, ?_⟩ <;> first | omega | assumption | trivial | rfl) | (refine ⟨?_, ?_, ?_, ?_, ?_, ?_⟩ <;> first | omega | assumption | trivial | rfl) | (refine ⟨?_, ?_, ?_, ?_, ?_, ?_, ?_⟩ <;> first | omega | assumption | trivial | rfl) | (refine ⟨?_, ?_, ?_, ?_, ?_, ?_, ?_, ?_⟩ <;> first | omega | assumption | trivial | rfl))
    · refine ok_c (ixo (by omega) (by omega)) ?_
      refine ok_c (ixo (by omega) (by omega)) ?_
      refine ok_o (sp_X0_rest (f_t_forms p0.toNatClampNeg) (f_t_forms p1.toNatClampNeg) ) (fun r36 h5 => ?_)
      refine ok_o3 (sp_X7_become c_t_acts f_t_forms p2 r36 (by first | omega | assumption | trivial) (by first | omega | assumption | trivial)) (fun r39 c_t_acts_39 f_t_forms_39 h6 => ?_)
      exact ok_s (show 0 = 0 ∨ 0 = 1 from by first | omega | assumption | trivial | (refine ⟨?_, ?_⟩ <;> first | omega | assumption | trivial | rfl) | (refine ⟨?_, ?_, ?_⟩ <;> first | omega | assumption | trivial | rfl) | (refine ⟨?_, ?_, ?_, ?_⟩ <;> first | omega | assumption | trivial | rfl) | (refine ⟨?_, ?_, ?_, ?_, ?_⟩ <;> first | omega | assumption | trivial | rfl) | (refine ⟨?_, ?_, ?_, ?_, ?_, ?_⟩ <;> first | omega | assumption | trivial | rfl) | (refine ⟨?_, ?_, ?_, ?_, ?_, ?_, ?_⟩ <;> first | omega | assumption | trivial | rfl) | (refine ⟨?_, ?_, ?_, ?_, ?_, ?_, ?_, ?_⟩ <;> first | omega | assumption | trivial | rfl))
  · exact ok_s (show xc3 = 0 ∨ xc3 = 1 from by first | omega | assumption | trivial | (refine ⟨?_, ?_⟩ <;> first | omega | assumption | trivial | rfl) | (refine ⟨?_, ?_, ?_⟩ <;> first | omega | assumption | trivial | rfl) | (refine ⟨?_, ?_, ?_, ?_⟩ <;> first | omega | assumption | trivial | rfl) | (refine ⟨?_, ?_, ?_, ?_, ?_⟩ <;> first | omega | assumption | trivial | rfl) | (refine ⟨?_, ?_, ?_, ?_, ?_, ?_⟩ <;> first | omega | assumption | trivial | rfl) | (refine ⟨?_, ?_, ?_, ?_, ?_, ?_, ?_⟩ <;> first | omega | assumption | trivial | rfl) | (refine ⟨?_, ?_, ?_, ?_, ?_, ?_, ?_, ?_⟩ <;> first | omega | assumption | trivial | rfl))
set_option maxHeartbeats 1000000 in
theorem sp_X7_common (c_t_acts : Int32) (f_t_forms : Nat → Int64) (p0 : Int32) (p1 : Int32) (p2 : Int32)  : ok (F_X7_common c_t_acts f_t_forms p0 p1 p2) (fun r => r.1 = 0 ∨ r.1 = 1) := by
  have l032 : (0 : Int32).toInt = 0 := by decide
  unfold F_X7_common
  refine ok_o (sp_X7_testForms p0 p1 p2 ) (fun xc3 h1 => ?_)
  have h1 : (xc3 = 0 ∧ 0 ≤ p0.toInt ∧ p0.toInt ≤ 5 ∧ 0 ≤ p1.toInt ∧ p1.toInt ≤ 5 ∧ 0 ≤ p2.toInt ∧ p2.toInt ≤ 5) ∨ xc3 = 1 := h1
  refine ok_i (fun c2 => ?_) (fun c2 => ?_)
  · refine ok_c (ixo (by omega) (by omega)) ?_
    refine ok_c (ixo (by omega) (by omega)) ?_
    refine ok_o (sp_X0_greatestBoth (f_t_forms p0.toNatClampNeg) (f_t_forms p1.toNatClampNeg) ) (fun r20 h3 => ?_)
    refine ok_o3 (sp_X7_become c_t_acts f_t_forms p2 r20 (by first | omega | assumption | trivial) (by first | omega | assumption | trivial)) (fun r23 c_t_acts_23 f_t_forms_23 h4 => ?_)
    exact ok_s (show 0 = 0 ∨ 0 = 1 from by first | omega | assumption | trivial | (refine ⟨?_, ?_⟩ <;> first | omega | assumption | trivial | rfl) | (refine ⟨?_, ?_, ?_⟩ <;> first | omega | assumption | trivial | rfl) | (refine ⟨?_, ?_, ?_, ?_⟩ <;> first | omega | assumption | trivial | rfl) | (refine ⟨?_, ?_, ?_, ?_, ?_⟩ <;> first | omega | assumption | trivial | rfl) | (refine ⟨?_, ?_, ?_, ?_, ?_, ?_⟩ <;> first | omega | assumption | trivial | rfl) | (refine ⟨?_, ?_, ?_, ?_, ?_, ?_, ?_⟩ <;> first | omega | assumption | trivial | rfl) | (refine ⟨?_, ?_, ?_, ?_, ?_, ?_, ?_, ?_⟩ <;> first | omega | assumption | trivial | rfl))
  · exact ok_s (show xc3 = 0 ∨ xc3 = 1 from by first | omega | assumption | trivial | (refine ⟨?_, ?_⟩ <;> first | omega | assumption | trivial | rfl) | (refine ⟨?_, ?_, ?_⟩ <;> first | omega | assumption | trivial | rfl) | (refine ⟨?_, ?_, ?_, ?_⟩ <;> first | omega | assumption | trivial | rfl) | (refine ⟨?_, ?_, ?_, ?_, ?_⟩ <;> first | omega | assumption | trivial | rfl) | (refine ⟨?_, ?_, ?_, ?_, ?_, ?_⟩ <;> first | omega | assumption | trivial | rfl) | (refine ⟨?_, ?_, ?_, ?_, ?_, ?_, ?_⟩ <;> first | omega | assumption | trivial | rfl) | (refine ⟨?_, ?_, ?_, ?_, ?_, ?_, ?_, ?_⟩ <;> first | omega | assumption | trivial | rfl))
set_option maxHeartbeats 1000000 in
theorem sp_X7_shift (c_t_acts : Int32) (c_t_refusals : Int32) (f_t_forms : Nat → Int64) (p0 : Int32) (p1 : Int32)  : ok (F_X7_shift c_t_acts c_t_refusals f_t_forms p0 p1) (fun r => r.1 = 0 ∨ r.1 = 1 ∨ r.1 = 2) := by
  have lm3932 : (-39 : Int32).toInt = -39 := by decide
  have l032 : (0 : Int32).toInt = 0 := by decide
  have l3932 : (39 : Int32).toInt = 39 := by decide
  unfold F_X7_shift
  refine ok_o (sp_X7_testForm p0 ) (fun xc1 h1 => ?_)
  have h1 : (xc1 = 0 ∧ 0 ≤ p0.toInt ∧ p0.toInt ≤ 5) ∨ xc1 = 1 := h1
  refine ok_i (fun c2 => ?_) (fun c2 => ?_)
  · refine ok_o (sp_X7_testRange p1 (-39 : Int32) (39 : Int32) ) (fun xc9 h3 => ?_)
    have h3 : (xc9 = 0 ∧ (-39 : Int32).toInt ≤ p1.toInt ∧ p1.toInt ≤ (39 : Int32).toInt) ∨ (xc9 = 2 ∧ (p1.toInt < (-39 : Int32).toInt ∨ (39 : Int32).toInt < p1.toInt)) := h3
    refine ok_i (fun c4 => ?_) (fun c4 => ?_)
    · refine ok_c (ixo (by omega) (by omega)) ?_
      refine ok_bx (fun x3_18 e_x3_18 => ?_)
      refine ok_le (fun c5 => ?_) (fun c5 => ?_)
      · refine ok_o (sp_X0_degreeOf x3_18 ) (fun r34 h6 => ?_)
        have h6 : r34.toInt = DG x3_18 ∧ -1 ≤ r34.toInt ∧ r34.toInt ≤ 63 := h6
        obtain ⟨w7, e_w7⟩ : ∃ w : Int32, w = r34 + p1 := ⟨_, rfl⟩
        try have t_w7 : w7.toInt = r34.toInt + p1.toInt := by rw [e_w7]; exact addT1 (Eq.refl _) (by omega) (by omega)
        try rw [← e_w7]
        refine ok_le (fun c8 => ?_) (fun c8 => ?_)
        · refine ok_o3 (sp_X7_become c_t_acts f_t_forms p0 (x3_18 <<< (p1.toInt64 &&& 63)) (by first | omega | assumption | trivial) (by first | omega | assumption | trivial)) (fun r54 c_t_acts_54 f_t_forms_54 h9 => ?_)
          exact ok_s (show 0 = 0 ∨ 0 = 1 ∨ 0 = 2 from by first | omega | assumption | trivial | (refine ⟨?_, ?_⟩ <;> first | omega | assumption | trivial | rfl) | (refine ⟨?_, ?_, ?_⟩ <;> first | omega | assumption | trivial | rfl) | (refine ⟨?_, ?_, ?_, ?_⟩ <;> first | omega | assumption | trivial | rfl) | (refine ⟨?_, ?_, ?_, ?_, ?_⟩ <;> first | omega | assumption | trivial | rfl) | (refine ⟨?_, ?_, ?_, ?_, ?_, ?_⟩ <;> first | omega | assumption | trivial | rfl) | (refine ⟨?_, ?_, ?_, ?_, ?_, ?_, ?_⟩ <;> first | omega | assumption | trivial | rfl) | (refine ⟨?_, ?_, ?_, ?_, ?_, ?_, ?_, ?_⟩ <;> first | omega | assumption | trivial | rfl))
        · refine ok_o2 (sp_X7_refuse c_t_refusals ) (fun r45 c_t_refusals_45 h10 => ?_)
          exact ok_s (show 0 = 0 ∨ 0 = 1 ∨ 0 = 2 from by first | omega | assumption | trivial | (refine ⟨?_, ?_⟩ <;> first | omega | assumption | trivial | rfl) | (refine ⟨?_, ?_, ?_⟩ <;> first | omega | assumption | trivial | rfl) | (refine ⟨?_, ?_, ?_, ?_⟩ <;> first | omega | assumption | trivial | rfl) | (refine ⟨?_, ?_, ?_, ?_, ?_⟩ <;> first | omega | assumption | trivial | rfl) | (refine ⟨?_, ?_, ?_, ?_, ?_, ?_⟩ <;> first | omega | assumption | trivial | rfl) | (refine ⟨?_, ?_, ?_, ?_, ?_, ?_, ?_⟩ <;> first | omega | assumption | trivial | rfl) | (refine ⟨?_, ?_, ?_, ?_, ?_, ?_, ?_, ?_⟩ <;> first | omega | assumption | trivial | rfl))
      · refine ok_o3 (sp_X7_become c_t_acts f_t_forms p0 (x3_18 >>> ((-p1).toInt64 &&& 63)) (by first | omega | assumption | trivial) (by first | omega | assumption | trivial)) (fun r29 c_t_acts_29 f_t_forms_29 h11 => ?_)
        exact ok_s (show 0 = 0 ∨ 0 = 1 ∨ 0 = 2 from by first | omega | assumption | trivial | (refine ⟨?_, ?_⟩ <;> first | omega | assumption | trivial | rfl) | (refine ⟨?_, ?_, ?_⟩ <;> first | omega | assumption | trivial | rfl) | (refine ⟨?_, ?_, ?_, ?_⟩ <;> first | omega | assumption | trivial | rfl) | (refine ⟨?_, ?_, ?_, ?_, ?_⟩ <;> first | omega | assumption | trivial | rfl) | (refine ⟨?_, ?_, ?_, ?_, ?_, ?_⟩ <;> first | omega | assumption | trivial | rfl) | (refine ⟨?_, ?_, ?_, ?_, ?_, ?_, ?_⟩ <;> first | omega | assumption | trivial | rfl) | (refine ⟨?_, ?_, ?_, ?_, ?_, ?_, ?_, ?_⟩ <;> first | omega | assumption | trivial | rfl))
    · exact ok_s (show xc9 = 0 ∨ xc9 = 1 ∨ xc9 = 2 from by first | omega | assumption | trivial | (refine ⟨?_, ?_⟩ <;> first | omega | assumption | trivial | rfl) | (refine ⟨?_, ?_, ?_⟩ <;> first | omega | assumption | trivial | rfl) | (refine ⟨?_, ?_, ?_, ?_⟩ <;> first | omega | assumption | trivial | rfl) | (refine ⟨?_, ?_, ?_, ?_, ?_⟩ <;> first | omega | assumption | trivial | rfl) | (refine ⟨?_, ?_, ?_, ?_, ?_, ?_⟩ <;> first | omega | assumption | trivial | rfl) | (refine ⟨?_, ?_, ?_, ?_, ?_, ?_, ?_⟩ <;> first | omega | assumption | trivial | rfl) | (refine ⟨?_, ?_, ?_, ?_, ?_, ?_, ?_, ?_⟩ <;> first | omega | assumption | trivial | rfl))
  · exact ok_s (show xc1 = 0 ∨ xc1 = 1 ∨ xc1 = 2 from by first | omega | assumption | trivial | (refine ⟨?_, ?_⟩ <;> first | omega | assumption | trivial | rfl) | (refine ⟨?_, ?_, ?_⟩ <;> first | omega | assumption | trivial | rfl) | (refine ⟨?_, ?_, ?_, ?_⟩ <;> first | omega | assumption | trivial | rfl) | (refine ⟨?_, ?_, ?_, ?_, ?_⟩ <;> first | omega | assumption | trivial | rfl) | (refine ⟨?_, ?_, ?_, ?_, ?_, ?_⟩ <;> first | omega | assumption | trivial | rfl) | (refine ⟨?_, ?_, ?_, ?_, ?_, ?_, ?_⟩ <;> first | omega | assumption | trivial | rfl) | (refine ⟨?_, ?_, ?_, ?_, ?_, ?_, ?_, ?_⟩ <;> first | omega | assumption | trivial | rfl))
set_option maxHeartbeats 1000000 in
theorem sp_X7_multipliers (c_t_acts : Int32) (f_t_forms : Nat → Int64) (c_t_rows_first : Int64) (c_t_rows_ofOne : Int64) (c_t_rows_ofOther : Int64) (c_t_rows_second : Int64) (c_t_rows_secondOfOne : Int64) (c_t_rows_secondOfOther : Int64) (p0 : Int32) (p1 : Int32) (p2 : Int32) (p3 : Int32)  : ok (F_X7_multipliers c_t_acts f_t_forms c_t_rows_first c_t_rows_ofOne c_t_rows_ofOther c_t_rows_second c_t_rows_secondOfOne c_t_rows_secondOfOther p0 p1 p2 p3) (fun r => r.1 = 0 ∨ r.1 = 1 ∨ r.1 = 2) := by
  have l032 : (0 : Int32).toInt = 0 := by decide
  unfold F_X7_multipliers
  refine ok_o (sp_X7_testForms p0 p1 p2 ) (fun xc3 h1 => ?_)
  have h1 : (xc3 = 0 ∧ 0 ≤ p0.toInt ∧ p0.toInt ≤ 5 ∧ 0 ≤ p1.toInt ∧ p1.toInt ≤ 5 ∧ 0 ≤ p2.toInt ∧ p2.toInt ≤ 5) ∨ xc3 = 1 := h1
  refine ok_i (fun c2 => ?_) (fun c2 => ?_)
  · refine ok_o (sp_X7_testForm p3 ) (fun xc8 h3 => ?_)
    have h3 : (xc8 = 0 ∧ 0 ≤ p3.toInt ∧ p3.toInt ≤ 5) ∨ xc8 = 1 := h3
    refine ok_i (fun c4 => ?_) (fun c4 => ?_)
    · refine ok_eq (fun c5 => ?_) (fun c5 => ?_)
      · exact ok_s (show 2 = 0 ∨ 2 = 1 ∨ 2 = 2 from by first | omega | assumption | trivial | (refine ⟨?_, ?_⟩ <;> first | omega | assumption | trivial | rfl) | (refine ⟨?_, ?_, ?_⟩ <;> first | omega | assumption | trivial | rfl) | (refine ⟨?_, ?_, ?_, ?_⟩ <;> first | omega | assumption | trivial | rfl) | (refine ⟨?_, ?_, ?_, ?_, ?_⟩ <;> first | omega | assumption | trivial | rfl) | (refine ⟨?_, ?_, ?_, ?_, ?_, ?_⟩ <;> first | omega | assumption | trivial | rfl) | (refine ⟨?_, ?_, ?_, ?_, ?_, ?_, ?_⟩ <;> first | omega | assumption | trivial | rfl) | (refine ⟨?_, ?_, ?_, ?_, ?_, ?_, ?_, ?_⟩ <;> first | omega | assumption | trivial | rfl))
      · refine ok_c (ixo (by omega) (by omega)) ?_
        refine ok_c (ixo (by omega) (by omega)) ?_
        refine ok_o6 (sp_X4_workOut (f_t_forms p0.toNatClampNeg) (f_t_forms p1.toNatClampNeg) ) (fun c_t_rows_first_43 c_t_rows_ofOne_43 c_t_rows_ofOther_43 c_t_rows_second_43 c_t_rows_secondOfOne_43 c_t_rows_secondOfOther_43 h6 => ?_)
        refine ok_c (ixo (by omega) (by omega)) ?_
        refine ok_bx (fun f_t_forms_58 e_f_t_forms_58 => ?_)
        refine ok_c (ixo (by omega) (by omega)) ?_
        refine ok_bx (fun f_t_forms_72 e_f_t_forms_72 => ?_)
        refine ok_o (sp_X0_degreeOf c_t_rows_first_43 ) (fun r81 h7 => ?_)
        have h7 : r81.toInt = DG c_t_rows_first_43 ∧ -1 ≤ r81.toInt ∧ r81.toInt ≤ 63 := h7
        refine ok_o2 (sp_X7_done c_t_acts r81 ) (fun r84 c_t_acts_84 h8 => ?_)
        exact ok_s (show 0 = 0 ∨ 0 = 1 ∨ 0 = 2 from by first | omega | assumption | trivial | (refine ⟨?_, ?_⟩ <;> first | omega | assumption | trivial | rfl) | (refine ⟨?_, ?_, ?_⟩ <;> first | omega | assumption | trivial | rfl) | (refine ⟨?_, ?_, ?_, ?_⟩ <;> first | omega | assumption | trivial | rfl) | (refine ⟨?_, ?_, ?_, ?_, ?_⟩ <;> first | omega | assumption | trivial | rfl) | (refine ⟨?_, ?_, ?_, ?_, ?_, ?_⟩ <;> first | omega | assumption | trivial | rfl) | (refine ⟨?_, ?_, ?_, ?_, ?_, ?_, ?_⟩ <;> first | omega | assumption | trivial | rfl) | (refine ⟨?_, ?_, ?_, ?_, ?_, ?_, ?_, ?_⟩ <;> first | omega | assumption | trivial | rfl))
    · exact ok_s (show xc8 = 0 ∨ xc8 = 1 ∨ xc8 = 2 from by first | omega | assumption | trivial | (refine ⟨?_, ?_⟩ <;> first | omega | assumption | trivial | rfl) | (refine ⟨?_, ?_, ?_⟩ <;> first | omega | assumption | trivial | rfl) | (refine ⟨?_, ?_, ?_, ?_⟩ <;> first | omega | assumption | trivial | rfl) | (refine ⟨?_, ?_, ?_, ?_, ?_⟩ <;> first | omega | assumption | trivial | rfl) | (refine ⟨?_, ?_, ?_, ?_, ?_, ?_⟩ <;> first | omega | assumption | trivial | rfl) | (refine ⟨?_, ?_, ?_, ?_, ?_, ?_, ?_⟩ <;> first | omega | assumption | trivial | rfl) | (refine ⟨?_, ?_, ?_, ?_, ?_, ?_, ?_, ?_⟩ <;> first | omega | assumption | trivial | rfl))
  · exact ok_s (show xc3 = 0 ∨ xc3 = 1 ∨ xc3 = 2 from by first | omega | assumption | trivial | (refine ⟨?_, ?_⟩ <;> first | omega | assumption | trivial | rfl) | (refine ⟨?_, ?_, ?_⟩ <;> first | omega | assumption | trivial | rfl) | (refine ⟨?_, ?_, ?_, ?_⟩ <;> first | omega | assumption | trivial | rfl) | (refine ⟨?_, ?_, ?_, ?_, ?_⟩ <;> first | omega | assumption | trivial | rfl) | (refine ⟨?_, ?_, ?_, ?_, ?_, ?_⟩ <;> first | omega | assumption | trivial | rfl) | (refine ⟨?_, ?_, ?_, ?_, ?_, ?_, ?_⟩ <;> first | omega | assumption | trivial | rfl) | (refine ⟨?_, ?_, ?_, ?_, ?_, ?_, ?_, ?_⟩ <;> first | omega | assumption | trivial | rfl))
set_option maxHeartbeats 1000000 in
theorem sp_X7_power (c_t_acts : Int32) (c_t_refusals : Int32) (f_t_forms : Nat → Int64) (p0 : Int32) (p1 : Int32) (p2 : Int32) (p3 : Int32)  : ok (F_X7_power c_t_acts c_t_refusals f_t_forms p0 p1 p2 p3) (fun r => r.1 = 0 ∨ r.1 = 1 ∨ r.1 = 2) := by
  have l032 : (0 : Int32).toInt = 0 := by decide
  have l064 : (0 : Int64).toInt = 0 := by decide
  have l2032 : (20 : Int32).toInt = 20 := by decide
  have l25532 : (255 : Int32).toInt = 255 := by decide
  unfold F_X7_power
  refine ok_o (sp_X7_testForms p0 p2 p3 ) (fun xc4 h1 => ?_)
  have h1 : (xc4 = 0 ∧ 0 ≤ p0.toInt ∧ p0.toInt ≤ 5 ∧ 0 ≤ p2.toInt ∧ p2.toInt ≤ 5 ∧ 0 ≤ p3.toInt ∧ p3.toInt ≤ 5) ∨ xc4 = 1 := h1
  refine ok_i (fun c2 => ?_) (fun c2 => ?_)
  · refine ok_o (sp_X7_testRange p1 (0 : Int32) (255 : Int32) ) (fun xc12 h3 => ?_)
    have h3 : (xc12 = 0 ∧ (0 : Int32).toInt ≤ p1.toInt ∧ p1.toInt ≤ (255 : Int32).toInt) ∨ (xc12 = 2 ∧ (p1.toInt < (0 : Int32).toInt ∨ (255 : Int32).toInt < p1.toInt)) := h3
    refine ok_i (fun c4 => ?_) (fun c4 => ?_)
    · refine ok_c (ixo (by omega) (by omega)) ?_
      refine ok_eqL (fun c5 => ?_) (fun c5 => ?_)
      · refine ok_o2 (sp_X7_refuse c_t_refusals ) (fun r41 c_t_refusals_41 h6 => ?_)
        exact ok_s (show 0 = 0 ∨ 0 = 1 ∨ 0 = 2 from by first | omega | assumption | trivial | (refine ⟨?_, ?_⟩ <;> first | omega | assumption | trivial | rfl) | (refine ⟨?_, ?_, ?_⟩ <;> first | omega | assumption | trivial | rfl) | (refine ⟨?_, ?_, ?_, ?_⟩ <;> first | omega | assumption | trivial | rfl) | (refine ⟨?_, ?_, ?_, ?_, ?_⟩ <;> first | omega | assumption | trivial | rfl) | (refine ⟨?_, ?_, ?_, ?_, ?_, ?_⟩ <;> first | omega | assumption | trivial | rfl) | (refine ⟨?_, ?_, ?_, ?_, ?_, ?_, ?_⟩ <;> first | omega | assumption | trivial | rfl) | (refine ⟨?_, ?_, ?_, ?_, ?_, ?_, ?_, ?_⟩ <;> first | omega | assumption | trivial | rfl))
      · refine ok_c (ixo (by omega) (by omega)) ?_
        refine ok_o (sp_X0_degreeOf (f_t_forms p2.toNatClampNeg) ) (fun r32 h7 => ?_)
        have h7 : r32.toInt = DG (f_t_forms p2.toNatClampNeg) ∧ -1 ≤ r32.toInt ∧ r32.toInt ≤ 63 := h7
        refine ok_le (fun c8 => ?_) (fun c8 => ?_)
        · refine ok_c (ixo (by omega) (by omega)) ?_
          refine ok_c (ixo (by omega) (by omega)) ?_
          refine ok_o (sp_X0_powerRest (f_t_forms p0.toNatClampNeg) p1 (f_t_forms p2.toNatClampNeg) ) (fun r61 h9 => ?_)
          refine ok_o3 (sp_X7_become c_t_acts f_t_forms p3 r61 (by first | omega | assumption | trivial) (by first | omega | assumption | trivial)) (fun r64 c_t_acts_64 f_t_forms_64 h10 => ?_)
          exact ok_s (show 0 = 0 ∨ 0 = 1 ∨ 0 = 2 from by first | omega | assumption | trivial | (refine ⟨?_, ?_⟩ <;> first | omega | assumption | trivial | rfl) | (refine ⟨?_, ?_, ?_⟩ <;> first | omega | assumption | trivial | rfl) | (refine ⟨?_, ?_, ?_, ?_⟩ <;> first | omega | assumption | trivial | rfl) | (refine ⟨?_, ?_, ?_, ?_, ?_⟩ <;> first | omega | assumption | trivial | rfl) | (refine ⟨?_, ?_, ?_, ?_, ?_, ?_⟩ <;> first | omega | assumption | trivial | rfl) | (refine ⟨?_, ?_, ?_, ?_, ?_, ?_, ?_⟩ <;> first | omega | assumption | trivial | rfl) | (refine ⟨?_, ?_, ?_, ?_, ?_, ?_, ?_, ?_⟩ <;> first | omega | assumption | trivial | rfl))
        · refine ok_o2 (sp_X7_refuse c_t_refusals ) (fun r41_2 c_t_refusals_41_2 h11 => ?_)
          exact ok_s (show 0 = 0 ∨ 0 = 1 ∨ 0 = 2 from by first | omega | assumption | trivial | (refine ⟨?_, ?_⟩ <;> first | omega | assumption | trivial | rfl) | (refine ⟨?_, ?_, ?_⟩ <;> first | omega | assumption | trivial | rfl) | (refine ⟨?_, ?_, ?_, ?_⟩ <;> first | omega | assumption | trivial | rfl) | (refine ⟨?_, ?_, ?_, ?_, ?_⟩ <;> first | omega | assumption | trivial | rfl) | (refine ⟨?_, ?_, ?_, ?_, ?_, ?_⟩ <;> first | omega | assumption | trivial | rfl) | (refine ⟨?_, ?_, ?_, ?_, ?_, ?_, ?_⟩ <;> first | omega | assumption | trivial | rfl) | (refine ⟨?_, ?_, ?_, ?_, ?_, ?_, ?_, ?_⟩ <;> first | omega | assumption | trivial | rfl))
    · exact ok_s (show xc12 = 0 ∨ xc12 = 1 ∨ xc12 = 2 from by first | omega | assumption | trivial | (refine ⟨?_, ?_⟩ <;> first | omega | assumption | trivial | rfl) | (refine ⟨?_, ?_, ?_⟩ <;> first | omega | assumption | trivial | rfl) | (refine ⟨?_, ?_, ?_, ?_⟩ <;> first | omega | assumption | trivial | rfl) | (refine ⟨?_, ?_, ?_, ?_, ?_⟩ <;> first | omega | assumption | trivial | rfl) | (refine ⟨?_, ?_, ?_, ?_, ?_, ?_⟩ <;> first | omega | assumption | trivial | rfl) | (refine ⟨?_, ?_, ?_, ?_, ?_, ?_, ?_⟩ <;> first | omega | assumption | trivial | rfl) | (refine ⟨?_, ?_, ?_, ?_, ?_, ?_, ?_, ?_⟩ <;> first | omega | assumption | trivial | rfl))
  · exact ok_s (show xc4 = 0 ∨ xc4 = 1 ∨ xc4 = 2 from by first | omega | assumption | trivial | (refine ⟨?_, ?_⟩ <;> first | omega | assumption | trivial | rfl) | (refine ⟨?_, ?_, ?_⟩ <;> first | omega | assumption | trivial | rfl) | (refine ⟨?_, ?_, ?_, ?_⟩ <;> first | omega | assumption | trivial | rfl) | (refine ⟨?_, ?_, ?_, ?_, ?_⟩ <;> first | omega | assumption | trivial | rfl) | (refine ⟨?_, ?_, ?_, ?_, ?_, ?_⟩ <;> first | omega | assumption | trivial | rfl) | (refine ⟨?_, ?_, ?_, ?_, ?_, ?_, ?_⟩ <;> first | omega | assumption | trivial | rfl) | (refine ⟨?_, ?_, ?_, ?_, ?_, ?_, ?_, ?_⟩ <;> first | omega | assumption | trivial | rfl))
set_option maxHeartbeats 1000000 in
theorem sp_X7_canBeSealed (f_t_forms : Nat → Int64) (p0 : Int32) (p1 : Int32) (hp0 : 0 ≤ p0.toInt) (hp1 : p0.toInt ≤ 5) (hp2 : 0 ≤ p1.toInt) (hp3 : p1.toInt ≤ 5) : ok (F_X7_canBeSealed f_t_forms p0 p1) (fun r => r.toInt = 0 ∨ r.toInt = 1) := by
  have l032 : (0 : Int32).toInt = 0 := by decide
  have l132 : (1 : Int32).toInt = 1 := by decide
  have l3932 : (39 : Int32).toInt = 39 := by decide
  unfold F_X7_canBeSealed
  refine ok_c (ixo (by omega) (by omega)) ?_
  refine ok_o (sp_X0_degreeOf (f_t_forms p0.toNatClampNeg) ) (fun r6 h1 => ?_)
  have h1 : r6.toInt = DG (f_t_forms p0.toNatClampNeg) ∧ -1 ≤ r6.toInt ∧ r6.toInt ≤ 63 := h1
  refine ok_c (ixo (by omega) (by omega)) ?_
  refine ok_o (sp_X0_degreeOf (f_t_forms p1.toNatClampNeg) ) (fun r15 h2 => ?_)
  have h2 : r15.toInt = DG (f_t_forms p1.toNatClampNeg) ∧ -1 ≤ r15.toInt ∧ r15.toInt ≤ 63 := h2
  obtain ⟨w3, e_w3⟩ : ∃ w : Int32, w = r6 + r15 := ⟨_, rfl⟩
  try have t_w3 : w3.toInt = r6.toInt + r15.toInt := by rw [e_w3]; exact addT1 (Eq.refl _) (by omega) (by omega)
  try rw [← e_w3]
  refine ok_lt (fun c4 => ?_) (fun c4 => ?_)
  · exact ok_s (show (0 : Int32).toInt = 0 ∨ (0 : Int32).toInt = 1 from by first | omega | assumption | trivial | (refine ⟨?_, ?_⟩ <;> first | omega | assumption | trivial | rfl) | (refine ⟨?_, ?_, ?_⟩ <;> first | omega | assumption | trivial | rfl) | (refine ⟨?_, ?_, ?_, ?_⟩ <;> first | omega | assumption | trivial | rfl) | (refine ⟨?_, ?_, ?_, ?_, ?_⟩ <;> first | omega | assumption | trivial | rfl) | (refine ⟨?_, ?_, ?_, ?_, ?_, ?_⟩ <;> first | omega | assumption | trivial | rfl) | (refine ⟨?_, ?_, ?_, ?_, ?_, ?_, ?_⟩ <;> first | omega | assumption | trivial | rfl) | (refine ⟨?_, ?_, ?_, ?_, ?_, ?_, ?_, ?_⟩ <;> first | omega | assumption | trivial | rfl))
  · exact ok_s (show (1 : Int32).toInt = 0 ∨ (1 : Int32).toInt = 1 from by first | omega | assumption | trivial | (refine ⟨?_, ?_⟩ <;> first | omega | assumption | trivial | rfl) | (refine ⟨?_, ?_, ?_⟩ <;> first | omega | assumption | trivial | rfl) | (refine ⟨?_, ?_, ?_, ?_⟩ <;> first | omega | assumption | trivial | rfl) | (refine ⟨?_, ?_, ?_, ?_, ?_⟩ <;> first | omega | assumption | trivial | rfl) | (refine ⟨?_, ?_, ?_, ?_, ?_, ?_⟩ <;> first | omega | assumption | trivial | rfl) | (refine ⟨?_, ?_, ?_, ?_, ?_, ?_, ?_⟩ <;> first | omega | assumption | trivial | rfl) | (refine ⟨?_, ?_, ?_, ?_, ?_, ?_, ?_, ?_⟩ <;> first | omega | assumption | trivial | rfl))
set_option maxHeartbeats 1000000 in
theorem sp_X0_checkOf (p0 : Int64) (p1 : Int64)  : ok (F_X0_checkOf p0 p1) (fun r => True) := by
  unfold F_X0_checkOf
  refine ok_o (sp_X0_degreeOf p1 ) (fun r2 h1 => ?_)
  have h1 : r2.toInt = DG p1 ∧ -1 ≤ r2.toInt ∧ r2.toInt ≤ 63 := h1
  refine ok_o (sp_X0_rest (p0 <<< (r2.toInt64 &&& 63)) p1 ) (fun r7 h2 => ?_)
  exact ok_s trivial
set_option maxHeartbeats 1000000 in
theorem sp_X7_seal (c_t_acts : Int32) (c_t_refusals : Int32) (f_t_forms : Nat → Int64) (p0 : Int32) (p1 : Int32) (p2 : Int32)  : ok (F_X7_seal c_t_acts c_t_refusals f_t_forms p0 p1 p2) (fun r => r.1 = 0 ∨ r.1 = 1) := by
  have l032 : (0 : Int32).toInt = 0 := by decide
  have l132 : (1 : Int32).toInt = 1 := by decide
  unfold F_X7_seal
  refine ok_o (sp_X7_testForms p0 p1 p2 ) (fun xc3 h1 => ?_)
  have h1 : (xc3 = 0 ∧ 0 ≤ p0.toInt ∧ p0.toInt ≤ 5 ∧ 0 ≤ p1.toInt ∧ p1.toInt ≤ 5 ∧ 0 ≤ p2.toInt ∧ p2.toInt ≤ 5) ∨ xc3 = 1 := h1
  refine ok_i (fun c2 => ?_) (fun c2 => ?_)
  · refine ok_c (ixo (by omega) (by omega)) ?_
    refine ok_o (sp_X0_degreeOf (f_t_forms p1.toNatClampNeg) ) (fun r12 h3 => ?_)
    have h3 : r12.toInt = DG (f_t_forms p1.toNatClampNeg) ∧ -1 ≤ r12.toInt ∧ r12.toInt ≤ 63 := h3
    refine ok_lt (fun c4 => ?_) (fun c4 => ?_)
    · refine ok_o2 (sp_X7_refuse c_t_refusals ) (fun r29 c_t_refusals_29 h5 => ?_)
      exact ok_s (show 0 = 0 ∨ 0 = 1 from by first | omega | assumption | trivial | (refine ⟨?_, ?_⟩ <;> first | omega | assumption | trivial | rfl) | (refine ⟨?_, ?_, ?_⟩ <;> first | omega | assumption | trivial | rfl) | (refine ⟨?_, ?_, ?_, ?_⟩ <;> first | omega | assumption | trivial | rfl) | (refine ⟨?_, ?_, ?_, ?_, ?_⟩ <;> first | omega | assumption | trivial | rfl) | (refine ⟨?_, ?_, ?_, ?_, ?_, ?_⟩ <;> first | omega | assumption | trivial | rfl) | (refine ⟨?_, ?_, ?_, ?_, ?_, ?_, ?_⟩ <;> first | omega | assumption | trivial | rfl) | (refine ⟨?_, ?_, ?_, ?_, ?_, ?_, ?_, ?_⟩ <;> first | omega | assumption | trivial | rfl))
    · refine ok_o (sp_X7_canBeSealed f_t_forms p0 p1 (by first | omega | assumption | trivial) (by first | omega | assumption | trivial) (by first | omega | assumption | trivial) (by first | omega | assumption | trivial)) (fun r22 h6 => ?_)
      have h6 : r22.toInt = 0 ∨ r22.toInt = 1 := h6
      refine ok_eq (fun c7 => ?_) (fun c7 => ?_)
      · refine ok_o2 (sp_X7_refuse c_t_refusals ) (fun r29_2 c_t_refusals_29_2 h8 => ?_)
        exact ok_s (show 0 = 0 ∨ 0 = 1 from by first | omega | assumption | trivial | (refine ⟨?_, ?_⟩ <;> first | omega | assumption | trivial | rfl) | (refine ⟨?_, ?_, ?_⟩ <;> first | omega | assumption | trivial | rfl) | (refine ⟨?_, ?_, ?_, ?_⟩ <;> first | omega | assumption | trivial | rfl) | (refine ⟨?_, ?_, ?_, ?_, ?_⟩ <;> first | omega | assumption | trivial | rfl) | (refine ⟨?_, ?_, ?_, ?_, ?_, ?_⟩ <;> first | omega | assumption | trivial | rfl) | (refine ⟨?_, ?_, ?_, ?_, ?_, ?_, ?_⟩ <;> first | omega | assumption | trivial | rfl) | (refine ⟨?_, ?_, ?_, ?_, ?_, ?_, ?_, ?_⟩ <;> first | omega | assumption | trivial | rfl))
      · refine ok_c (ixo (by omega) (by omega)) ?_
        refine ok_c (ixo (by omega) (by omega)) ?_
        refine ok_o (sp_X0_checkOf (f_t_forms p0.toNatClampNeg) (f_t_forms p1.toNatClampNeg) ) (fun r45 h9 => ?_)
        refine ok_c (ixo (by omega) (by omega)) ?_
        refine ok_c (ixo (by omega) (by omega)) ?_
        refine ok_o (sp_X0_degreeOf (f_t_forms p1.toNatClampNeg) ) (fun r67 h10 => ?_)
        have h10 : r67.toInt = DG (f_t_forms p1.toNatClampNeg) ∧ -1 ≤ r67.toInt ∧ r67.toInt ≤ 63 := h10
        refine ok_c (ixo (by omega) (by omega)) ?_
        refine ok_bx (fun f_t_forms_74 e_f_t_forms_74 => ?_)
        refine ok_o (sp_X0_onesOf r45 ) (fun r78 h11 => ?_)
        refine ok_o2 (sp_X7_done c_t_acts r78 ) (fun r81 c_t_acts_81 h12 => ?_)
        exact ok_s (show 0 = 0 ∨ 0 = 1 from by first | omega | assumption | trivial | (refine ⟨?_, ?_⟩ <;> first | omega | assumption | trivial | rfl) | (refine ⟨?_, ?_, ?_⟩ <;> first | omega | assumption | trivial | rfl) | (refine ⟨?_, ?_, ?_, ?_⟩ <;> first | omega | assumption | trivial | rfl) | (refine ⟨?_, ?_, ?_, ?_, ?_⟩ <;> first | omega | assumption | trivial | rfl) | (refine ⟨?_, ?_, ?_, ?_, ?_, ?_⟩ <;> first | omega | assumption | trivial | rfl) | (refine ⟨?_, ?_, ?_, ?_, ?_, ?_, ?_⟩ <;> first | omega | assumption | trivial | rfl) | (refine ⟨?_, ?_, ?_, ?_, ?_, ?_, ?_, ?_⟩ <;> first | omega | assumption | trivial | rfl))
  · exact ok_s (show xc3 = 0 ∨ xc3 = 1 from by first | omega | assumption | trivial | (refine ⟨?_, ?_⟩ <;> first | omega | assumption | trivial | rfl) | (refine ⟨?_, ?_, ?_⟩ <;> first | omega | assumption | trivial | rfl) | (refine ⟨?_, ?_, ?_, ?_⟩ <;> first | omega | assumption | trivial | rfl) | (refine ⟨?_, ?_, ?_, ?_, ?_⟩ <;> first | omega | assumption | trivial | rfl) | (refine ⟨?_, ?_, ?_, ?_, ?_, ?_⟩ <;> first | omega | assumption | trivial | rfl) | (refine ⟨?_, ?_, ?_, ?_, ?_, ?_, ?_⟩ <;> first | omega | assumption | trivial | rfl) | (refine ⟨?_, ?_, ?_, ?_, ?_, ?_, ?_, ?_⟩ <;> first | omega | assumption | trivial | rfl))
set_option maxHeartbeats 1000000 in
theorem sp_X7_burst (c_t_acts : Int32) (c_t_refusals : Int32) (f_t_forms : Nat → Int64) (p0 : Int32) (p1 : Int32) (p2 : Int32)  : ok (F_X7_burst c_t_acts c_t_refusals f_t_forms p0 p1 p2) (fun r => r.1 = 0 ∨ r.1 = 1 ∨ r.1 = 2) := by
  have l032 : (0 : Int32).toInt = 0 := by decide
  have l3932 : (39 : Int32).toInt = 39 := by decide
  have l409532 : (4095 : Int32).toInt = 4095 := by decide
  unfold F_X7_burst
  refine ok_o (sp_X7_testForm p0 ) (fun xc1 h1 => ?_)
  have h1 : (xc1 = 0 ∧ 0 ≤ p0.toInt ∧ p0.toInt ≤ 5) ∨ xc1 = 1 := h1
  refine ok_i (fun c2 => ?_) (fun c2 => ?_)
  · refine ok_o (sp_X7_testPlace p1 ) (fun xc5 h3 => ?_)
    have h3 : (xc5 = 0 ∧ 0 ≤ p1.toInt ∧ p1.toInt ≤ 39) ∨ xc5 = 1 := h3
    refine ok_i (fun c4 => ?_) (fun c4 => ?_)
    · refine ok_o (sp_X7_testRange p2 (0 : Int32) (4095 : Int32) ) (fun xc13 h5 => ?_)
      have h5 : (xc13 = 0 ∧ (0 : Int32).toInt ≤ p2.toInt ∧ p2.toInt ≤ (4095 : Int32).toInt) ∨ (xc13 = 2 ∧ (p2.toInt < (0 : Int32).toInt ∨ (4095 : Int32).toInt < p2.toInt)) := h5
      refine ok_i (fun c6 => ?_) (fun c6 => ?_)
      · refine ok_o (sp_X0_degreeOf p2.toInt64 ) (fun r18 h7 => ?_)
        have h7 : r18.toInt = DG p2.toInt64 ∧ -1 ≤ r18.toInt ∧ r18.toInt ≤ 63 := h7
        obtain ⟨w8, e_w8⟩ : ∃ w : Int32, w = r18 + p1 := ⟨_, rfl⟩
        try have t_w8 : w8.toInt = r18.toInt + p1.toInt := by rw [e_w8]; exact addT1 (Eq.refl _) (by omega) (by omega)
        try rw [← e_w8]
        refine ok_le (fun c9 => ?_) (fun c9 => ?_)
        · refine ok_c (ixo (by omega) (by omega)) ?_
          refine ok_c (ixo (by omega) (by omega)) ?_
          refine ok_bx (fun f_t_forms_45 e_f_t_forms_45 => ?_)
          refine ok_c (ixo (by omega) (by omega)) ?_
          refine ok_o (sp_X0_onesOf (f_t_forms_45 p0.toNatClampNeg) ) (fun r53 h10 => ?_)
          refine ok_o2 (sp_X7_done c_t_acts r53 ) (fun r56 c_t_acts_56 h11 => ?_)
          exact ok_s (show 0 = 0 ∨ 0 = 1 ∨ 0 = 2 from by first | omega | assumption | trivial | (refine ⟨?_, ?_⟩ <;> first | omega | assumption | trivial | rfl) | (refine ⟨?_, ?_, ?_⟩ <;> first | omega | assumption | trivial | rfl) | (refine ⟨?_, ?_, ?_, ?_⟩ <;> first | omega | assumption | trivial | rfl) | (refine ⟨?_, ?_, ?_, ?_, ?_⟩ <;> first | omega | assumption | trivial | rfl) | (refine ⟨?_, ?_, ?_, ?_, ?_, ?_⟩ <;> first | omega | assumption | trivial | rfl) | (refine ⟨?_, ?_, ?_, ?_, ?_, ?_, ?_⟩ <;> first | omega | assumption | trivial | rfl) | (refine ⟨?_, ?_, ?_, ?_, ?_, ?_, ?_, ?_⟩ <;> first | omega | assumption | trivial | rfl))
        · refine ok_o2 (sp_X7_refuse c_t_refusals ) (fun r29 c_t_refusals_29 h12 => ?_)
          exact ok_s (show 0 = 0 ∨ 0 = 1 ∨ 0 = 2 from by first | omega | assumption | trivial | (refine ⟨?_, ?_⟩ <;> first | omega | assumption | trivial | rfl) | (refine ⟨?_, ?_, ?_⟩ <;> first | omega | assumption | trivial | rfl) | (refine ⟨?_, ?_, ?_, ?_⟩ <;> first | omega | assumption | trivial | rfl) | (refine ⟨?_, ?_, ?_, ?_, ?_⟩ <;> first | omega | assumption | trivial | rfl) | (refine ⟨?_, ?_, ?_, ?_, ?_, ?_⟩ <;> first | omega | assumption | trivial | rfl) | (refine ⟨?_, ?_, ?_, ?_, ?_, ?_, ?_⟩ <;> first | omega | assumption | trivial | rfl) | (refine ⟨?_, ?_, ?_, ?_, ?_, ?_, ?_, ?_⟩ <;> first | omega | assumption | trivial | rfl))
      · exact ok_s (show xc13 = 0 ∨ xc13 = 1 ∨ xc13 = 2 from by first | omega | assumption | trivial | (refine ⟨?_, ?_⟩ <;> first | omega | assumption | trivial | rfl) | (refine ⟨?_, ?_, ?_⟩ <;> first | omega | assumption | trivial | rfl) | (refine ⟨?_, ?_, ?_, ?_⟩ <;> first | omega | assumption | trivial | rfl) | (refine ⟨?_, ?_, ?_, ?_, ?_⟩ <;> first | omega | assumption | trivial | rfl) | (refine ⟨?_, ?_, ?_, ?_, ?_, ?_⟩ <;> first | omega | assumption | trivial | rfl) | (refine ⟨?_, ?_, ?_, ?_, ?_, ?_, ?_⟩ <;> first | omega | assumption | trivial | rfl) | (refine ⟨?_, ?_, ?_, ?_, ?_, ?_, ?_, ?_⟩ <;> first | omega | assumption | trivial | rfl))
    · exact ok_s (show xc5 = 0 ∨ xc5 = 1 ∨ xc5 = 2 from by first | omega | assumption | trivial | (refine ⟨?_, ?_⟩ <;> first | omega | assumption | trivial | rfl) | (refine ⟨?_, ?_, ?_⟩ <;> first | omega | assumption | trivial | rfl) | (refine ⟨?_, ?_, ?_, ?_⟩ <;> first | omega | assumption | trivial | rfl) | (refine ⟨?_, ?_, ?_, ?_, ?_⟩ <;> first | omega | assumption | trivial | rfl) | (refine ⟨?_, ?_, ?_, ?_, ?_, ?_⟩ <;> first | omega | assumption | trivial | rfl) | (refine ⟨?_, ?_, ?_, ?_, ?_, ?_, ?_⟩ <;> first | omega | assumption | trivial | rfl) | (refine ⟨?_, ?_, ?_, ?_, ?_, ?_, ?_, ?_⟩ <;> first | omega | assumption | trivial | rfl))
  · exact ok_s (show xc1 = 0 ∨ xc1 = 1 ∨ xc1 = 2 from by first | omega | assumption | trivial | (refine ⟨?_, ?_⟩ <;> first | omega | assumption | trivial | rfl) | (refine ⟨?_, ?_, ?_⟩ <;> first | omega | assumption | trivial | rfl) | (refine ⟨?_, ?_, ?_, ?_⟩ <;> first | omega | assumption | trivial | rfl) | (refine ⟨?_, ?_, ?_, ?_, ?_⟩ <;> first | omega | assumption | trivial | rfl) | (refine ⟨?_, ?_, ?_, ?_, ?_, ?_⟩ <;> first | omega | assumption | trivial | rfl) | (refine ⟨?_, ?_, ?_, ?_, ?_, ?_, ?_⟩ <;> first | omega | assumption | trivial | rfl) | (refine ⟨?_, ?_, ?_, ?_, ?_, ?_, ?_, ?_⟩ <;> first | omega | assumption | trivial | rfl))
set_option maxHeartbeats 1000000 in
theorem sp_X3_removeAll   : ok (F_X3_removeAll) (fun r => r.toInt = 0) := by
  have l032 : (0 : Int32).toInt = 0 := by decide
  unfold F_X3_removeAll
  exact ok_s (show (0 : Int32).toInt = 0 from by first | omega | assumption | trivial | (refine ⟨?_, ?_⟩ <;> first | omega | assumption | trivial | rfl) | (refine ⟨?_, ?_, ?_⟩ <;> first | omega | assumption | trivial | rfl) | (refine ⟨?_, ?_, ?_, ?_⟩ <;> first | omega | assumption | trivial | rfl) | (refine ⟨?_, ?_, ?_, ?_, ?_⟩ <;> first | omega | assumption | trivial | rfl) | (refine ⟨?_, ?_, ?_, ?_, ?_, ?_⟩ <;> first | omega | assumption | trivial | rfl) | (refine ⟨?_, ?_, ?_, ?_, ?_, ?_, ?_⟩ <;> first | omega | assumption | trivial | rfl) | (refine ⟨?_, ?_, ?_, ?_, ?_, ?_, ?_, ?_⟩ <;> first | omega | assumption | trivial | rfl))
set_option maxHeartbeats 1000000 in
theorem sp_X3_append (c_t_size : Int32) (f_t_held : Nat → Int64) (p0 : Int64) (hp0 : 0 ≤ c_t_size.toInt) (hp1 : c_t_size.toInt ≤ 12) : ok (F_X3_append c_t_size f_t_held p0) (fun r => 0 ≤ r.1.toInt ∧ r.1.toInt ≤ 12) := by
  have l032 : (0 : Int32).toInt = 0 := by decide
  have l132 : (1 : Int32).toInt = 1 := by decide
  have l1232 : (12 : Int32).toInt = 12 := by decide
  unfold F_X3_append
  refine ok_le (fun c1 => ?_) (fun c1 => ?_)
  · exact ok_s (show 0 ≤ c_t_size.toInt ∧ c_t_size.toInt ≤ 12 from by first | omega | assumption | trivial | (refine ⟨?_, ?_⟩ <;> first | omega | assumption | trivial | rfl) | (refine ⟨?_, ?_, ?_⟩ <;> first | omega | assumption | trivial | rfl) | (refine ⟨?_, ?_, ?_, ?_⟩ <;> first | omega | assumption | trivial | rfl) | (refine ⟨?_, ?_, ?_, ?_, ?_⟩ <;> first | omega | assumption | trivial | rfl) | (refine ⟨?_, ?_, ?_, ?_, ?_, ?_⟩ <;> first | omega | assumption | trivial | rfl) | (refine ⟨?_, ?_, ?_, ?_, ?_, ?_, ?_⟩ <;> first | omega | assumption | trivial | rfl) | (refine ⟨?_, ?_, ?_, ?_, ?_, ?_, ?_, ?_⟩ <;> first | omega | assumption | trivial | rfl))
  · refine ok_c (ixo (by omega) (by omega)) ?_
    refine ok_bx (fun f_t_held_18 e_f_t_held_18 => ?_)
    refine ok_bx (fun c_t_size_26 e_c_t_size_26 => ?_)
    try have t_c_t_size_26 : c_t_size_26.toInt = c_t_size.toInt + 1 := by rw [e_c_t_size_26]; exact addT1 (show (1 : Int32).toInt = 1 from by decide) (by omega) (by omega)
    exact ok_s (show 0 ≤ c_t_size_26.toInt ∧ c_t_size_26.toInt ≤ 12 from by first | omega | assumption | trivial | (refine ⟨?_, ?_⟩ <;> first | omega | assumption | trivial | rfl) | (refine ⟨?_, ?_, ?_⟩ <;> first | omega | assumption | trivial | rfl) | (refine ⟨?_, ?_, ?_, ?_⟩ <;> first | omega | assumption | trivial | rfl) | (refine ⟨?_, ?_, ?_, ?_, ?_⟩ <;> first | omega | assumption | trivial | rfl) | (refine ⟨?_, ?_, ?_, ?_, ?_, ?_⟩ <;> first | omega | assumption | trivial | rfl) | (refine ⟨?_, ?_, ?_, ?_, ?_, ?_, ?_⟩ <;> first | omega | assumption | trivial | rfl) | (refine ⟨?_, ?_, ?_, ?_, ?_, ?_, ?_, ?_⟩ <;> first | omega | assumption | trivial | rfl))
set_option maxHeartbeats 1000000 in
theorem sp_X3_put (c_t_size : Int32) (f_t_held : Nat → Int64) (p0 : Int32) (p1 : Int64) (hp0 : 0 ≤ c_t_size.toInt) (hp1 : c_t_size.toInt ≤ 12) : ok (F_X3_put c_t_size f_t_held p0 p1) (fun r => True) := by
  have l032 : (0 : Int32).toInt = 0 := by decide
  unfold F_X3_put
  refine ok_lt (fun c1 => ?_) (fun c1 => ?_)
  · exact ok_s trivial
  · refine ok_le (fun c2 => ?_) (fun c2 => ?_)
    · exact ok_s trivial
    · refine ok_c (ixo (by omega) (by omega)) ?_
      refine ok_bx (fun f_t_held_18 e_f_t_held_18 => ?_)
      exact ok_s trivial
set_option maxHeartbeats 1000000 in
theorem sp_X3_at (c_t_size : Int32) (f_t_held : Nat → Int64) (p0 : Int32) (hp0 : 0 ≤ c_t_size.toInt) (hp1 : c_t_size.toInt ≤ 12) : ok (F_X3_at c_t_size f_t_held p0) (fun r => True) := by
  have l032 : (0 : Int32).toInt = 0 := by decide
  have l064 : (0 : Int64).toInt = 0 := by decide
  unfold F_X3_at
  refine ok_lt (fun c1 => ?_) (fun c1 => ?_)
  · exact ok_s trivial
  · refine ok_lt (fun c2 => ?_) (fun c2 => ?_)
    · refine ok_c (ixo (by omega) (by omega)) ?_
      exact ok_s trivial
    · exact ok_s trivial
set_option maxHeartbeats 1000000 in
theorem sp_X0_trace (p0 : Int32) (p1 : Int32) (p2 : Int64) (hp0 : p1.toInt ≤ 100) (hp1 : -100 ≤ p1.toInt) : ok (F_X0_trace p0 p1 p2) (fun r => True) := by
  have l132 : (1 : Int32).toInt = 1 := by decide
  have l164 : (1 : Int64).toInt = 1 := by decide
  unfold F_X0_trace
  refine ok_o (sp_X0_rest ((1 : Int64) <<< (p0.toInt64 &&& 63)) p2 ) (fun r4 h1 => ?_)
  refine ok_L3 (fun y4_16 y6_16 y8_16 => 0 ≤ y8_16.toInt) (fun y4_16 y6_16 y8_16 => (p1.toInt - y8_16.toInt + 1).toNat) (fun ih16 y4_16 y6_16 y8_16 hI2 hih2 => ?_) 20000 r4 r4 (1 : Int32) (show 0 ≤ (1 : Int32).toInt from by first | omega | assumption | trivial | (refine ⟨?_, ?_⟩ <;> first | omega | assumption | trivial | rfl) | (refine ⟨?_, ?_, ?_⟩ <;> first | omega | assumption | trivial | rfl) | (refine ⟨?_, ?_, ?_, ?_⟩ <;> first | omega | assumption | trivial | rfl) | (refine ⟨?_, ?_, ?_, ?_, ?_⟩ <;> first | omega | assumption | trivial | rfl) | (refine ⟨?_, ?_, ?_, ?_, ?_, ?_⟩ <;> first | omega | assumption | trivial | rfl) | (refine ⟨?_, ?_, ?_, ?_, ?_, ?_, ?_⟩ <;> first | omega | assumption | trivial | rfl) | (refine ⟨?_, ?_, ?_, ?_, ?_, ?_, ?_, ?_⟩ <;> first | omega | assumption | trivial | rfl)) (show (p1.toInt - (1 : Int32).toInt + 1).toNat < 20000 from by omega)
  have hI2 : 0 ≤ y8_16.toInt := hI2
  unfold S_X0_trace_16
  refine ok_le (fun c3 => ?_) (fun c3 => ?_)
  · exact ok_s trivial
  · refine ok_o (sp_X0_squared y4_16 ) (fun r24 h4 => ?_)
    refine ok_o (sp_X0_rest r24 p2 ) (fun r28 h5 => ?_)
    refine ok_bx (fun x6_38 e_x6_38 => ?_)
    refine ok_bx (fun x8_40 e_x8_40 => ?_)
    try have t_x8_40 : x8_40.toInt = y8_16.toInt + 1 := by rw [e_x8_40]; exact addT1 (show (1 : Int32).toInt = 1 from by decide) (by omega) (by omega)
    exact hih2 r28 x6_38 x8_40 (show 0 ≤ x8_40.toInt from by first | omega | assumption | trivial | (refine ⟨?_, ?_⟩ <;> first | omega | assumption | trivial | rfl) | (refine ⟨?_, ?_, ?_⟩ <;> first | omega | assumption | trivial | rfl) | (refine ⟨?_, ?_, ?_, ?_⟩ <;> first | omega | assumption | trivial | rfl) | (refine ⟨?_, ?_, ?_, ?_, ?_⟩ <;> first | omega | assumption | trivial | rfl) | (refine ⟨?_, ?_, ?_, ?_, ?_, ?_⟩ <;> first | omega | assumption | trivial | rfl) | (refine ⟨?_, ?_, ?_, ?_, ?_, ?_, ?_⟩ <;> first | omega | assumption | trivial | rfl) | (refine ⟨?_, ?_, ?_, ?_, ?_, ?_, ?_, ?_⟩ <;> first | omega | assumption | trivial | rfl)) (show (p1.toInt - x8_40.toInt + 1).toNat < (p1.toInt - y8_16.toInt + 1).toNat from by omega)
