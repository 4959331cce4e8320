set_option maxHeartbeats 1000000 in
theorem sp_X2_isPrimeNumber (p0 : Int32) (hp0 : 2 ≤ p0.toInt) (hp1 : p0.toInt ≤ 100) : ok (F_X2_isPrimeNumber p0) (fun r => r.toInt = 0 ∨ r.toInt = 1) := by
  have l032 : (0 : Int32).toInt = 0 := by decide
  have l132 : (1 : Int32).toInt = 1 := by decide
  have l232 : (2 : Int32).toInt = 2 := by decide
  unfold F_X2_isPrimeNumber
  refine ok_L1 (fun y1_2 => 2 ≤ y1_2.toInt) (fun y1_2 => (p0.toInt - y1_2.toInt + 1).toNat) (fun ih2 y1_2 hI1 hih1 => ?_) 20000 (2 : Int32) (show 2 ≤ (2 : Int32).toInt from by first | omega | assumption | trivial | (refine ⟨?_, ?_⟩ <;> first | omega | assumption | trivial | rfl) | (refine ⟨?_, ?_, ?_⟩ <;> first | omega | assumption | trivial | rfl) | (refine ⟨?_, ?_, ?_, ?_⟩ <;> first | omega | assumption | trivial | rfl) | (refine ⟨?_, ?_, ?_, ?_, ?_⟩ <;> first | omega | assumption | trivial | rfl) | (refine ⟨?_, ?_, ?_, ?_, ?_, ?_⟩ <;> first | omega | assumption | trivial | rfl) | (refine ⟨?_, ?_, ?_, ?_, ?_, ?_, ?_⟩ <;> first | omega | assumption | trivial | rfl) | (refine ⟨?_, ?_, ?_, ?_, ?_, ?_, ?_, ?_⟩ <;> first | omega | assumption | trivial | rfl)) (show (p0.toInt - (2 : Int32).toInt + 1).toNat < 20000 from by omega)
  have hI1 : 2 ≤ y1_2.toInt := hI1
  unfold S_X2_isPrimeNumber_2
  refine ok_le (fun c2 => ?_) (fun c2 => ?_)
  · refine ok_lt (fun c3 => ?_) (fun c3 => ?_)
    · exact ok_s (show (0 : Int32).toInt = 0 ∨ (0 : Int32).toInt = 1 from by first | omega | assumption | trivial | (refine ⟨?_, ?_⟩ <;> first | omega | assumption | trivial | rfl) | (refine ⟨?_, ?_, ?_⟩ <;> first | omega | assumption | trivial | rfl) | (refine ⟨?_, ?_, ?_, ?_⟩ <;> first | omega | assumption | trivial | rfl) | (refine ⟨?_, ?_, ?_, ?_, ?_⟩ <;> first | omega | assumption | trivial | rfl) | (refine ⟨?_, ?_, ?_, ?_, ?_, ?_⟩ <;> first | omega | assumption | trivial | rfl) | (refine ⟨?_, ?_, ?_, ?_, ?_, ?_, ?_⟩ <;> first | omega | assumption | trivial | rfl) | (refine ⟨?_, ?_, ?_, ?_, ?_, ?_, ?_, ?_⟩ <;> first | omega | assumption | trivial | rfl))
    · exact ok_s (show (1 : Int32).toInt = 0 ∨ (1 : Int32).toInt = 1 from by first | omega | assumption | trivial | (refine ⟨?_, ?_⟩ <;> first | omega | assumption | trivial | rfl) | (refine ⟨?_, ?_, ?_⟩ <;> first | omega | assumption | trivial | rfl) | (refine ⟨?_, ?_, ?_, ?_⟩ <;> first | omega | assumption | trivial | rfl) | (refine ⟨?_, ?_, ?_, ?_, ?_⟩ <;> first | omega | assumption | trivial | rfl) | (refine ⟨?_, ?_, ?_, ?_, ?_, ?_⟩ <;> first | omega | assumption | trivial | rfl) | (refine ⟨?_, ?_, ?_, ?_, ?_, ?_, ?_⟩ <;> first | omega | assumption | trivial | rfl) | (refine ⟨?_, ?_, ?_, ?_, ?_, ?_, ?_, ?_⟩ <;> first | omega | assumption | trivial | rfl))
  · refine ok_c (nz_of (by omega)) ?_
    refine ok_i (fun c4 => ?_) (fun c4 => ?_)
    · exact ok_s (show (0 : Int32).toInt = 0 ∨ (0 : Int32).toInt = 1 from by first | omega | assumption | trivial | (refine ⟨?_, ?_⟩ <;> first | omega | assumption | trivial | rfl) | (refine ⟨?_, ?_, ?_⟩ <;> first | omega | assumption | trivial | rfl) | (refine ⟨?_, ?_, ?_, ?_⟩ <;> first | omega | assumption | trivial | rfl) | (refine ⟨?_, ?_, ?_, ?_, ?_⟩ <;> first | omega | assumption | trivial | rfl) | (refine ⟨?_, ?_, ?_, ?_, ?_, ?_⟩ <;> first | omega | assumption | trivial | rfl) | (refine ⟨?_, ?_, ?_, ?_, ?_, ?_, ?_⟩ <;> first | omega | assumption | trivial | rfl) | (refine ⟨?_, ?_, ?_, ?_, ?_, ?_, ?_, ?_⟩ <;> first | omega | assumption | trivial | rfl))
    · refine ok_bx (fun x1_15 e_x1_15 => ?_)
      try have t_x1_15 : x1_15.toInt = y1_2.toInt + 1 := by rw [e_x1_15]; exact addT1 (show (1 : Int32).toInt = 1 from by decide) (by omega) (by omega)
      exact hih1 x1_15 (show 2 ≤ x1_15.toInt from by first | omega | assumption | trivial | (refine ⟨?_, ?_⟩ <;> first | omega | assumption | trivial | rfl) | (refine ⟨?_, ?_, ?_⟩ <;> first | omega | assumption | trivial | rfl) | (refine ⟨?_, ?_, ?_, ?_⟩ <;> first | omega | assumption | trivial | rfl) | (refine ⟨?_, ?_, ?_, ?_, ?_⟩ <;> first | omega | assumption | trivial | rfl) | (refine ⟨?_, ?_, ?_, ?_, ?_, ?_⟩ <;> first | omega | assumption | trivial | rfl) | (refine ⟨?_, ?_, ?_, ?_, ?_, ?_, ?_⟩ <;> first | omega | assumption | trivial | rfl) | (refine ⟨?_, ?_, ?_, ?_, ?_, ?_, ?_, ?_⟩ <;> first | omega | assumption | trivial | rfl)) (show (p0.toInt - x1_15.toInt + 1).toNat < (p0.toInt - y1_2.toInt + 1).toNat from by omega)
set_option maxHeartbeats 1000000 in
theorem sp_X6_periodByMultiplying (p0 : Int64)  : ok (F_X6_periodByMultiplying p0) (fun r => True) := by
  have lm132 : (-1 : Int32).toInt = -1 := by decide
  have l132 : (1 : Int32).toInt = 1 := by decide
  have l164 : (1 : Int64).toInt = 1 := by decide
  have l100032 : (1000 : Int32).toInt = 1000 := by decide
  unfold F_X6_periodByMultiplying
  refine ok_L2 (fun y2_5 y4_5 => 0 ≤ y4_5.toInt) (fun y2_5 y4_5 => (1000 - y4_5.toInt + 1).toNat) (fun ih5 y2_5 y4_5 hI1 hih1 => ?_) 20000 (1 : Int64) (1 : Int32) (show 0 ≤ (1 : Int32).toInt from by first | omega | assumption | trivial | (refine ⟨?_, ?_⟩ <;> first | omega | assumption | trivial | rfl) | (refine ⟨?_, ?_, ?_⟩ <;> first | omega | assumption | trivial | rfl) | (refine ⟨?_, ?_, ?_, ?_⟩ <;> first | omega | assumption | trivial | rfl) | (refine ⟨?_, ?_, ?_, ?_, ?_⟩ <;> first | omega | assumption | trivial | rfl) | (refine ⟨?_, ?_, ?_, ?_, ?_, ?_⟩ <;> first | omega | assumption | trivial | rfl) | (refine ⟨?_, ?_, ?_, ?_, ?_, ?_, ?_⟩ <;> first | omega | assumption | trivial | rfl) | (refine ⟨?_, ?_, ?_, ?_, ?_, ?_, ?_, ?_⟩ <;> first | omega | assumption | trivial | rfl)) (show (1000 - (1 : Int32).toInt + 1).toNat < 20000 from by omega)
  have hI1 : 0 ≤ y4_5.toInt := hI1
  unfold S_X6_periodByMultiplying_5
  refine ok_le (fun c2 => ?_) (fun c2 => ?_)
  · exact ok_s trivial
  · refine ok_o (sp_X0_rest (y2_5 <<< ((1 : Int32).toInt64 &&& 63)) p0 ) (fun r17 h3 => ?_)
    refine ok_eqL (fun c4 => ?_) (fun c4 => ?_)
    · exact ok_s trivial
    · refine ok_bx (fun x4_30 e_x4_30 => ?_)
      try have t_x4_30 : x4_30.toInt = y4_5.toInt + 1 := by rw [e_x4_30]; exact addT1 (show (1 : Int32).toInt = 1 from by decide) (by omega) (by omega)
      exact hih1 r17 x4_30 (show 0 ≤ x4_30.toInt from by first | omega | assumption | trivial | (refine ⟨?_, ?_⟩ <;> first | omega | assumption | trivial | rfl) | (refine ⟨?_, ?_, ?_⟩ <;> first | omega | assumption | trivial | rfl) | (refine ⟨?_, ?_, ?_, ?_⟩ <;> first | omega | assumption | trivial | rfl) | (refine ⟨?_, ?_, ?_, ?_, ?_⟩ <;> first | omega | assumption | trivial | rfl) | (refine ⟨?_, ?_, ?_, ?_, ?_, ?_⟩ <;> first | omega | assumption | trivial | rfl) | (refine ⟨?_, ?_, ?_, ?_, ?_, ?_, ?_⟩ <;> first | omega | assumption | trivial | rfl) | (refine ⟨?_, ?_, ?_, ?_, ?_, ?_, ?_, ?_⟩ <;> first | omega | assumption | trivial | rfl)) (show (1000 - x4_30.toInt + 1).toNat < (1000 - y4_5.toInt + 1).toNat from by omega)
set_option maxHeartbeats 1000000 in
theorem sp_X6_leastPowerOfTwo (p0 : Int32)  : ok (F_X6_leastPowerOfTwo p0) (fun r => True) := by
  have l032 : (0 : Int32).toInt = 0 := by decide
  have l132 : (1 : Int32).toInt = 1 := by decide
  have l232 : (2 : Int32).toInt = 2 := by decide
  have l1032 : (10 : Int32).toInt = 10 := by decide
  unfold F_X6_leastPowerOfTwo
  refine ok_L2 (fun y1_4 y2_4 => 0 ≤ y2_4.toInt) (fun y1_4 y2_4 => (10 - y2_4.toInt + 1).toNat) (fun ih4 y1_4 y2_4 hI1 hih1 => ?_) 20000 (1 : Int32) (0 : Int32) (show 0 ≤ (0 : Int32).toInt from by first | omega | assumption | trivial | (refine ⟨?_, ?_⟩ <;> first | omega | assumption | trivial | rfl) | (refine ⟨?_, ?_, ?_⟩ <;> first | omega | assumption | trivial | rfl) | (refine ⟨?_, ?_, ?_, ?_⟩ <;> first | omega | assumption | trivial | rfl) | (refine ⟨?_, ?_, ?_, ?_, ?_⟩ <;> first | omega | assumption | trivial | rfl) | (refine ⟨?_, ?_, ?_, ?_, ?_, ?_⟩ <;> first | omega | assumption | trivial | rfl) | (refine ⟨?_, ?_, ?_, ?_, ?_, ?_, ?_⟩ <;> first | omega | assumption | trivial | rfl) | (refine ⟨?_, ?_, ?_, ?_, ?_, ?_, ?_, ?_⟩ <;> first | omega | assumption | trivial | rfl)) (show (10 - (0 : Int32).toInt + 1).toNat < 20000 from by omega)
  have hI1 : 0 ≤ y2_4.toInt := hI1
  unfold S_X6_leastPowerOfTwo_4
  refine ok_le (fun c2 => ?_) (fun c2 => ?_)
  · exact ok_s trivial
  · refine ok_le (fun c3 => ?_) (fun c3 => ?_)
    · exact ok_s trivial
    · refine ok_bx (fun x1_18 e_x1_18 => ?_)
      refine ok_bx (fun x2_19 e_x2_19 => ?_)
      try have t_x2_19 : x2_19.toInt = y2_4.toInt + 1 := by rw [e_x2_19]; exact addT1 (show (1 : Int32).toInt = 1 from by decide) (by omega) (by omega)
      exact hih1 x1_18 x2_19 (show 0 ≤ x2_19.toInt from by first | omega | assumption | trivial | (refine ⟨?_, ?_⟩ <;> first | omega | assumption | trivial | rfl) | (refine ⟨?_, ?_, ?_⟩ <;> first | omega | assumption | trivial | rfl) | (refine ⟨?_, ?_, ?_, ?_⟩ <;> first | omega | assumption | trivial | rfl) | (refine ⟨?_, ?_, ?_, ?_, ?_⟩ <;> first | omega | assumption | trivial | rfl) | (refine ⟨?_, ?_, ?_, ?_, ?_, ?_⟩ <;> first | omega | assumption | trivial | rfl) | (refine ⟨?_, ?_, ?_, ?_, ?_, ?_, ?_⟩ <;> first | omega | assumption | trivial | rfl) | (refine ⟨?_, ?_, ?_, ?_, ?_, ?_, ?_, ?_⟩ <;> first | omega | assumption | trivial | rfl)) (show (10 - x2_19.toInt + 1).toNat < (10 - y2_4.toInt + 1).toNat from by omega)
set_option maxHeartbeats 1000000 in
theorem sp_X5_stepsTillSame (p0 : Int64) (p1 : Int64)  : ok (F_X5_stepsTillSame p0 p1) (fun r => True) := by
  have lm132 : (-1 : Int32).toInt = -1 := by decide
  have l132 : (1 : Int32).toInt = 1 := by decide
  have l100032 : (1000 : Int32).toInt = 1000 := by decide
  unfold F_X5_stepsTillSame
  refine ok_L2 (fun y4_6 y6_6 => 0 ≤ y6_6.toInt) (fun y4_6 y6_6 => (1000 - y6_6.toInt + 1).toNat) (fun ih6 y4_6 y6_6 hI1 hih1 => ?_) 20000 p0 (1 : Int32) (show 0 ≤ (1 : Int32).toInt from by first | omega | assumption | trivial | (refine ⟨?_, ?_⟩ <;> first | omega | assumption | trivial | rfl) | (refine ⟨?_, ?_, ?_⟩ <;> first | omega | assumption | trivial | rfl) | (refine ⟨?_, ?_, ?_, ?_⟩ <;> first | omega | assumption | trivial | rfl) | (refine ⟨?_, ?_, ?_, ?_, ?_⟩ <;> first | omega | assumption | trivial | rfl) | (refine ⟨?_, ?_, ?_, ?_, ?_, ?_⟩ <;> first | omega | assumption | trivial | rfl) | (refine ⟨?_, ?_, ?_, ?_, ?_, ?_, ?_⟩ <;> first | omega | assumption | trivial | rfl) | (refine ⟨?_, ?_, ?_, ?_, ?_, ?_, ?_, ?_⟩ <;> first | omega | assumption | trivial | rfl)) (show (1000 - (1 : Int32).toInt + 1).toNat < 20000 from by omega)
  have hI1 : 0 ≤ y6_6.toInt := hI1
  unfold S_X5_stepsTillSame_6
  refine ok_le (fun c2 => ?_) (fun c2 => ?_)
  · exact ok_s trivial
  · refine ok_o (sp_X5_stepped y4_6 p1 ) (fun r17 h3 => ?_)
    refine ok_eqL (fun c4 => ?_) (fun c4 => ?_)
    · exact ok_s trivial
    · refine ok_bx (fun x6_32 e_x6_32 => ?_)
      try have t_x6_32 : x6_32.toInt = y6_6.toInt + 1 := by rw [e_x6_32]; exact addT1 (show (1 : Int32).toInt = 1 from by decide) (by omega) (by omega)
      exact hih1 r17 x6_32 (show 0 ≤ x6_32.toInt from by first | omega | assumption | trivial | (refine ⟨?_, ?_⟩ <;> first | omega | assumption | trivial | rfl) | (refine ⟨?_, ?_, ?_⟩ <;> first | omega | assumption | trivial | rfl) | (refine ⟨?_, ?_, ?_, ?_⟩ <;> first | omega | assumption | trivial | rfl) | (refine ⟨?_, ?_, ?_, ?_, ?_⟩ <;> first | omega | assumption | trivial | rfl) | (refine ⟨?_, ?_, ?_, ?_, ?_, ?_⟩ <;> first | omega | assumption | trivial | rfl) | (refine ⟨?_, ?_, ?_, ?_, ?_, ?_, ?_⟩ <;> first | omega | assumption | trivial | rfl) | (refine ⟨?_, ?_, ?_, ?_, ?_, ?_, ?_, ?_⟩ <;> first | omega | assumption | trivial | rfl)) (show (1000 - x6_32.toInt + 1).toNat < (1000 - y6_6.toInt + 1).toNat from by omega)
set_option maxHeartbeats 1000000 in
theorem sp_X6_periodBySteps (p0 : Int64)  : ok (F_X6_periodBySteps p0) (fun r => True) := by
  unfold F_X6_periodBySteps
  refine ok_o (sp_X5_cellsBegun p0 ) (fun r1 h1 => ?_)
  refine ok_o (sp_X5_stepsTillSame r1 p0 ) (fun r5 h2 => ?_)
  exact ok_s trivial
set_option maxHeartbeats 1000000 in
theorem sp_X7_knock (c_t_knocks : Int32)  : ok (F_X7_knock c_t_knocks) (fun r => r.1 = c_t_knocks + (1 : Int32) ∧ r.2 = c_t_knocks + (1 : Int32)) := by
  have l132 : (1 : Int32).toInt = 1 := by decide
  unfold F_X7_knock
  refine ok_bx (fun c_t_knocks_7 e_c_t_knocks_7 => ?_)
  try have t_c_t_knocks_7 : c_t_knocks_7.toInt = c_t_knocks.toInt + 1 := by rw [e_c_t_knocks_7]; exact addT1 (show (1 : Int32).toInt = 1 from by decide) (by omega) (by omega)
  exact ok_s (show c_t_knocks_7 = c_t_knocks + (1 : Int32) ∧ c_t_knocks_7 = c_t_knocks + (1 : Int32) from by exact ⟨e_c_t_knocks_7, e_c_t_knocks_7⟩)
set_option maxHeartbeats 1000000 in
theorem sp_X7_again (c_t_row_taps : Int64) (c_t_row_cells : Int64)  : ok (F_X7_again c_t_row_taps c_t_row_cells) (fun r => True) := by
  unfold F_X7_again
  refine ok_o (sp_X5_stepsTillSame c_t_row_cells c_t_row_taps ) (fun r14 h1 => ?_)
  exact ok_s trivial
set_option maxHeartbeats 1000000 in
theorem sp_X7_onesOfAll (f_t_forms : Nat → Int64)  : ok (F_X7_onesOfAll f_t_forms) (fun r => True) := by
  have l032 : (0 : Int32).toInt = 0 := by decide
  have l132 : (1 : Int32).toInt = 1 := by decide
  have l632 : (6 : Int32).toInt = 6 := by decide
  unfold F_X7_onesOfAll
  refine ok_L2 (fun y1_4 y2_4 => 0 ≤ y2_4.toInt) (fun y1_4 y2_4 => (6 - y2_4.toInt + 1).toNat) (fun ih4 y1_4 y2_4 hI1 hih1 => ?_) 20000 (0 : Int32) (0 : Int32) (show 0 ≤ (0 : Int32).toInt from by first | omega | assumption | trivial | (refine ⟨?_, ?_⟩ <;> first | omega | assumption | trivial | rfl) | (refine ⟨?_, ?_, ?_⟩ <;> first | omega | assumption | trivial | rfl) | (refine ⟨?_, ?_, ?_, ?_⟩ <;> first | omega | assumption | trivial | rfl) | (refine ⟨?_, ?_, ?_, ?_, ?_⟩ <;> first | omega | assumption | trivial | rfl) | (refine ⟨?_, ?_, ?_, ?_, ?_, ?_⟩ <;> first | omega | assumption | trivial | rfl) | (refine ⟨?_, ?_, ?_, ?_, ?_, ?_, ?_⟩ <;> first | omega | assumption | trivial | rfl) | (refine ⟨?_, ?_, ?_, ?_, ?_, ?_, ?_, ?_⟩ <;> first | omega | assumption | trivial | rfl)) (show (6 - (0 : Int32).toInt + 1).toNat < 20000 from by omega)
  have hI1 : 0 ≤ y2_4.toInt := hI1
  unfold S_X7_onesOfAll_4
  refine ok_le (fun c2 => ?_) (fun c2 => ?_)
  · exact ok_s trivial
  · refine ok_c (ixo (by omega) (by omega)) ?_
    refine ok_o (sp_X0_onesOf (f_t_forms y2_4.toNatClampNeg) ) (fun r17 h3 => ?_)
    refine ok_bx (fun x1_21 e_x1_21 => ?_)
    try have t_x1_21 : x1_21.toInt = y1_4.toInt + r17.toInt := by rw [e_x1_21]; exact addT1 (Eq.refl _) (by omega) (by omega)
    refine ok_bx (fun x2_22 e_x2_22 => ?_)
    try have t_x2_22 : x2_22.toInt = y2_4.toInt + 1 := by rw [e_x2_22]; exact addT1 (show (1 : Int32).toInt = 1 from by decide) (by omega) (by omega)
    exact hih1 x1_21 x2_22 (show 0 ≤ x2_22.toInt from by first | omega | assumption | trivial | (refine ⟨?_, ?_⟩ <;> first | omega | assumption | trivial | rfl) | (refine ⟨?_, ?_, ?_⟩ <;> first | omega | assumption | trivial | rfl) | (refine ⟨?_, ?_, ?_, ?_⟩ <;> first | omega | assumption | trivial | rfl) | (refine ⟨?_, ?_, ?_, ?_, ?_⟩ <;> first | omega | assumption | trivial | rfl) | (refine ⟨?_, ?_, ?_, ?_, ?_, ?_⟩ <;> first | omega | assumption | trivial | rfl) | (refine ⟨?_, ?_, ?_, ?_, ?_, ?_, ?_⟩ <;> first | omega | assumption | trivial | rfl) | (refine ⟨?_, ?_, ?_, ?_, ?_, ?_, ?_, ?_⟩ <;> first | omega | assumption | trivial | rfl)) (show (6 - x2_22.toInt + 1).toNat < (6 - y2_4.toInt + 1).toNat from by omega)
set_option maxHeartbeats 1000000 in
theorem sp_X7_house (c_t_acts : Int32) (c_t_refusals : Int32) (c_t_knocks : Int32) (f_t_forms : Nat → Int64) (c_t_roll_size : Int32) (c_t_row_taps : Int64) (p0 : Int32)  : ok (F_X7_house c_t_acts c_t_refusals c_t_knocks f_t_forms c_t_roll_size c_t_row_taps p0) (fun r => (r.1 = 0 ∧ 0 ≤ p0.toInt ∧ p0.toInt ≤ 5) ∨ (r.1 = 2 ∧ (p0.toInt < 0 ∨ 5 < p0.toInt))) := by
  have l032 : (0 : Int32).toInt = 0 := by decide
  have l132 : (1 : Int32).toInt = 1 := by decide
  have l232 : (2 : Int32).toInt = 2 := by decide
  have l332 : (3 : Int32).toInt = 3 := by decide
  have l432 : (4 : Int32).toInt = 4 := by decide
  have l532 : (5 : Int32).toInt = 5 := by decide
  unfold F_X7_house
  refine ok_o (sp_X7_testRange p0 (0 : Int32) (5 : Int32) ) (fun xc3 h1 => ?_)
  have h1 : (xc3 = 0 ∧ (0 : Int32).toInt ≤ p0.toInt ∧ p0.toInt ≤ (5 : Int32).toInt) ∨ (xc3 = 2 ∧ (p0.toInt < (0 : Int32).toInt ∨ (5 : Int32).toInt < p0.toInt)) := h1
  refine ok_i (fun c2 => ?_) (fun c2 => ?_)
  · refine ok_eq (fun c3 => ?_) (fun c3 => ?_)
    · exact ok_s (show (0 = 0 ∧ 0 ≤ p0.toInt ∧ p0.toInt ≤ 5) ∨ (0 = 2 ∧ (p0.toInt < 0 ∨ 5 < p0.toInt)) from by first | omega | assumption | trivial | (refine ⟨?_, ?_⟩ <;> first | omega | assumption | trivial | rfl) | (refine ⟨?_, ?_, ?_⟩ <;> first | omega | assumption | trivial | rfl) | (refine ⟨?_, ?_, ?_, ?_⟩ <;> first | omega | assumption | trivial | rfl) | (refine ⟨?_, ?_, ?_, ?_, ?_⟩ <;> first | omega | assumption | trivial | rfl) | (refine ⟨?_, ?_, ?_, ?_, ?_, ?_⟩ <;> first | omega | assumption | trivial | rfl) | (refine ⟨?_, ?_, ?_, ?_, ?_, ?_, ?_⟩ <;> first | omega | assumption | trivial | rfl) | (refine ⟨?_, ?_, ?_, ?_, ?_, ?_, ?_, ?_⟩ <;> first | omega | assumption | trivial | rfl))
    · refine ok_eq (fun c4 => ?_) (fun c4 => ?_)
      · exact ok_s (show (0 = 0 ∧ 0 ≤ p0.toInt ∧ p0.toInt ≤ 5) ∨ (0 = 2 ∧ (p0.toInt < 0 ∨ 5 < p0.toInt)) from by first | omega | assumption | trivial | (refine ⟨?_, ?_⟩ <;> first | omega | assumption | trivial | rfl) | (refine ⟨?_, ?_, ?_⟩ <;> first | omega | assumption | trivial | rfl) | (refine ⟨?_, ?_, ?_, ?_⟩ <;> first | omega | assumption | trivial | rfl) | (refine ⟨?_, ?_, ?_, ?_, ?_⟩ <;> first | omega | assumption | trivial | rfl) | (refine ⟨?_, ?_, ?_, ?_, ?_, ?_⟩ <;> first | omega | assumption | trivial | rfl) | (refine ⟨?_, ?_, ?_, ?_, ?_, ?_, ?_⟩ <;> first | omega | assumption | trivial | rfl) | (refine ⟨?_, ?_, ?_, ?_, ?_, ?_, ?_, ?_⟩ <;> first | omega | assumption | trivial | rfl))
      · refine ok_eq (fun c5 => ?_) (fun c5 => ?_)
        · exact ok_s (show (0 = 0 ∧ 0 ≤ p0.toInt ∧ p0.toInt ≤ 5) ∨ (0 = 2 ∧ (p0.toInt < 0 ∨ 5 < p0.toInt)) from by first | omega | assumption | trivial | (refine ⟨?_, ?_⟩ <;> first | omega | assumption | trivial | rfl) | (refine ⟨?_, ?_, ?_⟩ <;> first | omega | assumption | trivial | rfl) | (refine ⟨?_, ?_, ?_, ?_⟩ <;> first | omega | assumption | trivial | rfl) | (refine ⟨?_, ?_, ?_, ?_, ?_⟩ <;> first | omega | assumption | trivial | rfl) | (refine ⟨?_, ?_, ?_, ?_, ?_, ?_⟩ <;> first | omega | assumption | trivial | rfl) | (refine ⟨?_, ?_, ?_, ?_, ?_, ?_, ?_⟩ <;> first | omega | assumption | trivial | rfl) | (refine ⟨?_, ?_, ?_, ?_, ?_, ?_, ?_, ?_⟩ <;> first | omega | assumption | trivial | rfl))
        · refine ok_eq (fun c6 => ?_) (fun c6 => ?_)
          · exact ok_s (show (0 = 0 ∧ 0 ≤ p0.toInt ∧ p0.toInt ≤ 5) ∨ (0 = 2 ∧ (p0.toInt < 0 ∨ 5 < p0.toInt)) from by first | omega | assumption | trivial | (refine ⟨?_, ?_⟩ <;> first | omega | assumption | trivial | rfl) | (refine ⟨?_, ?_, ?_⟩ <;> first | omega | assumption | trivial | rfl) | (refine ⟨?_, ?_, ?_, ?_⟩ <;> first | omega | assumption | trivial | rfl) | (refine ⟨?_, ?_, ?_, ?_, ?_⟩ <;> first | omega | assumption | trivial | rfl) | (refine ⟨?_, ?_, ?_, ?_, ?_, ?_⟩ <;> first | omega | assumption | trivial | rfl) | (refine ⟨?_, ?_, ?_, ?_, ?_, ?_, ?_⟩ <;> first | omega | assumption | trivial | rfl) | (refine ⟨?_, ?_, ?_, ?_, ?_, ?_, ?_, ?_⟩ <;> first | omega | assumption | trivial | rfl))
          · refine ok_eq (fun c7 => ?_) (fun c7 => ?_)
            · exact ok_s (show (0 = 0 ∧ 0 ≤ p0.toInt ∧ p0.toInt ≤ 5) ∨ (0 = 2 ∧ (p0.toInt < 0 ∨ 5 < p0.toInt)) from by first | omega | assumption | trivial | (refine ⟨?_, ?_⟩ <;> first | omega | assumption | trivial | rfl) | (refine ⟨?_, ?_, ?_⟩ <;> first | omega | assumption | trivial | rfl) | (refine ⟨?_, ?_, ?_, ?_⟩ <;> first | omega | assumption | trivial | rfl) | (refine ⟨?_, ?_, ?_, ?_, ?_⟩ <;> first | omega | assumption | trivial | rfl) | (refine ⟨?_, ?_, ?_, ?_, ?_, ?_⟩ <;> first | omega | assumption | trivial | rfl) | (refine ⟨?_, ?_, ?_, ?_, ?_, ?_, ?_⟩ <;> first | omega | assumption | trivial | rfl) | (refine ⟨?_, ?_, ?_, ?_, ?_, ?_, ?_, ?_⟩ <;> first | omega | assumption | trivial | rfl))
            · refine ok_o (sp_X7_onesOfAll f_t_forms ) (fun r73 h8 => ?_)
              exact ok_s (show (0 = 0 ∧ 0 ≤ p0.toInt ∧ p0.toInt ≤ 5) ∨ (0 = 2 ∧ (p0.toInt < 0 ∨ 5 < p0.toInt)) from by first | omega | assumption | trivial | (refine ⟨?_, ?_⟩ <;> first | omega | assumption | trivial | rfl) | (refine ⟨?_, ?_, ?_⟩ <;> first | omega | assumption | trivial | rfl) | (refine ⟨?_, ?_, ?_, ?_⟩ <;> first | omega | assumption | trivial | rfl) | (refine ⟨?_, ?_, ?_, ?_, ?_⟩ <;> first | omega | assumption | trivial | rfl) | (refine ⟨?_, ?_, ?_, ?_, ?_, ?_⟩ <;> first | omega | assumption | trivial | rfl) | (refine ⟨?_, ?_, ?_, ?_, ?_, ?_, ?_⟩ <;> first | omega | assumption | trivial | rfl) | (refine ⟨?_, ?_, ?_, ?_, ?_, ?_, ?_, ?_⟩ <;> first | omega | assumption | trivial | rfl))
  · exact ok_s (show (xc3 = 0 ∧ 0 ≤ p0.toInt ∧ p0.toInt ≤ 5) ∨ (xc3 = 2 ∧ (p0.toInt < 0 ∨ 5 < p0.toInt)) from by first | omega | assumption | trivial | (refine ⟨?_, ?_⟩ <;> first | omega | assumption | trivial | rfl) | (refine ⟨?_, ?_, ?_⟩ <;> first | omega | assumption | trivial | rfl) | (refine ⟨?_, ?_, ?_, ?_⟩ <;> first | omega | assumption | trivial | rfl) | (refine ⟨?_, ?_, ?_, ?_, ?_⟩ <;> first | omega | assumption | trivial | rfl) | (refine ⟨?_, ?_, ?_, ?_, ?_, ?_⟩ <;> first | omega | assumption | trivial | rfl) | (refine ⟨?_, ?_, ?_, ?_, ?_, ?_, ?_⟩ <;> first | omega | assumption | trivial | rfl) | (refine ⟨?_, ?_, ?_, ?_, ?_, ?_, ?_, ?_⟩ <;> first | omega | assumption | trivial | rfl))
set_option maxHeartbeats 1000000 in
theorem sp_X7_isProductSound (p0 : Int64) (p1 : Int64)  : ok (F_X7_isProductSound p0 p1) (fun r => r.toInt = 0 ∨ r.toInt = 1) := by
  have l032 : (0 : Int32).toInt = 0 := by decide
  have l064 : (0 : Int64).toInt = 0 := by decide
  have l132 : (1 : Int32).toInt = 1 := by decide
  unfold F_X7_isProductSound
  refine ok_o (sp_X0_multiplied p0 p1 ) (fun r2 h1 => ?_)
  refine ok_o (sp_X0_multiplied p1 p0 ) (fun r11 h2 => ?_)
  refine ok_eqL (fun c3 => ?_) (fun c3 => ?_)
  · refine ok_o (sp_X0_multiplied p0 p0 ) (fun r20 h4 => ?_)
    refine ok_o (sp_X0_squared p0 ) (fun r24 h5 => ?_)
    refine ok_eqL (fun c6 => ?_) (fun c6 => ?_)
    · refine ok_eqL (fun c7 => ?_) (fun c7 => ?_)
      · exact ok_s (show (1 : Int32).toInt = 0 ∨ (1 : Int32).toInt = 1 from by first | omega | assumption | trivial | (refine ⟨?_, ?_⟩ <;> first | omega | assumption | trivial | rfl) | (refine ⟨?_, ?_, ?_⟩ <;> first | omega | assumption | trivial | rfl) | (refine ⟨?_, ?_, ?_, ?_⟩ <;> first | omega | assumption | trivial | rfl) | (refine ⟨?_, ?_, ?_, ?_, ?_⟩ <;> first | omega | assumption | trivial | rfl) | (refine ⟨?_, ?_, ?_, ?_, ?_, ?_⟩ <;> first | omega | assumption | trivial | rfl) | (refine ⟨?_, ?_, ?_, ?_, ?_, ?_, ?_⟩ <;> first | omega | assumption | trivial | rfl) | (refine ⟨?_, ?_, ?_, ?_, ?_, ?_, ?_, ?_⟩ <;> first | omega | assumption | trivial | rfl))
      · refine ok_o (sp_X0_quotient r2 p1 ) (fun r42 h8 => ?_)
        refine ok_eqL (fun c9 => ?_) (fun c9 => ?_)
        · refine ok_o (sp_X0_rest r2 p1 ) (fun r53 h10 => ?_)
          refine ok_eqL (fun c11 => ?_) (fun c11 => ?_)
          · exact ok_s (show (1 : Int32).toInt = 0 ∨ (1 : Int32).toInt = 1 from by first | omega | assumption | trivial | (refine ⟨?_, ?_⟩ <;> first | omega | assumption | trivial | rfl) | (refine ⟨?_, ?_, ?_⟩ <;> first | omega | assumption | trivial | rfl) | (refine ⟨?_, ?_, ?_, ?_⟩ <;> first | omega | assumption | trivial | rfl) | (refine ⟨?_, ?_, ?_, ?_, ?_⟩ <;> first | omega | assumption | trivial | rfl) | (refine ⟨?_, ?_, ?_, ?_, ?_, ?_⟩ <;> first | omega | assumption | trivial | rfl) | (refine ⟨?_, ?_, ?_, ?_, ?_, ?_, ?_⟩ <;> first | omega | assumption | trivial | rfl) | (refine ⟨?_, ?_, ?_, ?_, ?_, ?_, ?_, ?_⟩ <;> first | omega | assumption | trivial | rfl))
          · exact ok_s (show (0 : Int32).toInt = 0 ∨ (0 : Int32).toInt = 1 from by first | omega | assumption | trivial | (refine ⟨?_, ?_⟩ <;> first | omega | assumption | trivial | rfl) | (refine ⟨?_, ?_, ?_⟩ <;> first | omega | assumption | trivial | rfl) | (refine ⟨?_, ?_, ?_, ?_⟩ <;> first | omega | assumption | trivial | rfl) | (refine ⟨?_, ?_, ?_, ?_, ?_⟩ <;> first | omega | assumption | trivial | rfl) | (refine ⟨?_, ?_, ?_, ?_, ?_, ?_⟩ <;> first | omega | assumption | trivial | rfl) | (refine ⟨?_, ?_, ?_, ?_, ?_, ?_, ?_⟩ <;> first | omega | assumption | trivial | rfl) | (refine ⟨?_, ?_, ?_, ?_, ?_, ?_, ?_, ?_⟩ <;> first | omega | assumption | trivial | rfl))
        · exact ok_s (show (0 : Int32).toInt = 0 ∨ (0 : Int32).toInt = 1 from by first | omega | assumption | trivial | (refine ⟨?_, ?_⟩ <;> first | omega | assumption | trivial | rfl) | (refine ⟨?_, ?_, ?_⟩ <;> first | omega | assumption | trivial | rfl) | (refine ⟨?_, ?_, ?_, ?_⟩ <;> first | omega | assumption | trivial | rfl) | (refine ⟨?_, ?_, ?_, ?_, ?_⟩ <;> first | omega | assumption | trivial | rfl) | (refine ⟨?_, ?_, ?_, ?_, ?_, ?_⟩ <;> first | omega | assumption | trivial | rfl) | (refine ⟨?_, ?_, ?_, ?_, ?_, ?_, ?_⟩ <;> first | omega | assumption | trivial | rfl) | (refine ⟨?_, ?_, ?_, ?_, ?_, ?_, ?_, ?_⟩ <;> first | omega | assumption | trivial | rfl))
    · exact ok_s (show (0 : Int32).toInt = 0 ∨ (0 : Int32).toInt = 1 from by first | omega | assumption | trivial | (refine ⟨?_, ?_⟩ <;> first | omega | assumption | trivial | rfl) | (refine ⟨?_, ?_, ?_⟩ <;> first | omega | assumption | trivial | rfl) | (refine ⟨?_, ?_, ?_, ?_⟩ <;> first | omega | assumption | trivial | rfl) | (refine ⟨?_, ?_, ?_, ?_, ?_⟩ <;> first | omega | assumption | trivial | rfl) | (refine ⟨?_, ?_, ?_, ?_, ?_, ?_⟩ <;> first | omega | assumption | trivial | rfl) | (refine ⟨?_, ?_, ?_, ?_, ?_, ?_, ?_⟩ <;> first | omega | assumption | trivial | rfl) | (refine ⟨?_, ?_, ?_, ?_, ?_, ?_, ?_, ?_⟩ <;> first | omega | assumption | trivial | rfl))
  · exact ok_s (show (0 : Int32).toInt = 0 ∨ (0 : Int32).toInt = 1 from by first | omega | assumption | trivial | (refine ⟨?_, ?_⟩ <;> first | omega | assumption | trivial | rfl) | (refine ⟨?_, ?_, ?_⟩ <;> first | omega | assumption | trivial | rfl) | (refine ⟨?_, ?_, ?_, ?_⟩ <;> first | omega | assumption | trivial | rfl) | (refine ⟨?_, ?_, ?_, ?_, ?_⟩ <;> first | omega | assumption | trivial | rfl) | (refine ⟨?_, ?_, ?_, ?_, ?_, ?_⟩ <;> first | omega | assumption | trivial | rfl) | (refine ⟨?_, ?_, ?_, ?_, ?_, ?_, ?_⟩ <;> first | omega | assumption | trivial | rfl) | (refine ⟨?_, ?_, ?_, ?_, ?_, ?_, ?_, ?_⟩ <;> first | omega | assumption | trivial | rfl))
set_option maxHeartbeats 1000000 in
theorem sp_X7_isCommonSound (p0 : Int64) (p1 : Int64)  : ok (F_X7_isCommonSound p0 p1) (fun r => r.1.toInt = 0 ∨ r.1.toInt = 1) := by
  have l032 : (0 : Int32).toInt = 0 := by decide
  have l132 : (1 : Int32).toInt = 1 := by decide
  unfold F_X7_isCommonSound
  refine ok_o (sp_X0_greatestBoth p0 p1 ) (fun r2 h1 => ?_)
  refine ok_o6 (sp_X4_workOut p0 p1 ) (fun c_t_rows_first_13 c_t_rows_ofOne_13 c_t_rows_ofOther_13 c_t_rows_second_13 c_t_rows_secondOfOne_13 c_t_rows_secondOfOther_13 h2 => ?_)
  refine ok_o (sp_X0_multiplied p0 c_t_rows_ofOne_13 ) (fun r24 h3 => ?_)
  refine ok_o (sp_X0_multiplied p1 c_t_rows_ofOther_13 ) (fun r35 h4 => ?_)
  refine ok_bx (fun x7_39 e_x7_39 => ?_)
  refine ok_o (sp_X0_goesInto r2 p0 ) (fun r44 h5 => ?_)
  have h5 : r44.toInt = 0 ∨ r44.toInt = 1 := h5
  refine ok_eq (fun c6 => ?_) (fun c6 => ?_)
  · exact ok_s (show (0 : Int32).toInt = 0 ∨ (0 : Int32).toInt = 1 from by first | omega | assumption | trivial | (refine ⟨?_, ?_⟩ <;> first | omega | assumption | trivial | rfl) | (refine ⟨?_, ?_, ?_⟩ <;> first | omega | assumption | trivial | rfl) | (refine ⟨?_, ?_, ?_, ?_⟩ <;> first | omega | assumption | trivial | rfl) | (refine ⟨?_, ?_, ?_, ?_, ?_⟩ <;> first | omega | assumption | trivial | rfl) | (refine ⟨?_, ?_, ?_, ?_, ?_, ?_⟩ <;> first | omega | assumption | trivial | rfl) | (refine ⟨?_, ?_, ?_, ?_, ?_, ?_, ?_⟩ <;> first | omega | assumption | trivial | rfl) | (refine ⟨?_, ?_, ?_, ?_, ?_, ?_, ?_, ?_⟩ <;> first | omega | assumption | trivial | rfl))
  · refine ok_o (sp_X0_goesInto r2 p1 ) (fun r53 h7 => ?_)
    have h7 : r53.toInt = 0 ∨ r53.toInt = 1 := h7
    refine ok_eq (fun c8 => ?_) (fun c8 => ?_)
    · exact ok_s (show (0 : Int32).toInt = 0 ∨ (0 : Int32).toInt = 1 from by first | omega | assumption | trivial | (refine ⟨?_, ?_⟩ <;> first | omega | assumption | trivial | rfl) | (refine ⟨?_, ?_, ?_⟩ <;> first | omega | assumption | trivial | rfl) | (refine ⟨?_, ?_, ?_, ?_⟩ <;> first | omega | assumption | trivial | rfl) | (refine ⟨?_, ?_, ?_, ?_, ?_⟩ <;> first | omega | assumption | trivial | rfl) | (refine ⟨?_, ?_, ?_, ?_, ?_, ?_⟩ <;> first | omega | assumption | trivial | rfl) | (refine ⟨?_, ?_, ?_, ?_, ?_, ?_, ?_⟩ <;> first | omega | assumption | trivial | rfl) | (refine ⟨?_, ?_, ?_, ?_, ?_, ?_, ?_, ?_⟩ <;> first | omega | assumption | trivial | rfl))
    · refine ok_eqL (fun c9 => ?_) (fun c9 => ?_)
      · exact ok_s (show (1 : Int32).toInt = 0 ∨ (1 : Int32).toInt = 1 from by first | omega | assumption | trivial | (refine ⟨?_, ?_⟩ <;> first | omega | assumption | trivial | rfl) | (refine ⟨?_, ?_, ?_⟩ <;> first | omega | assumption | trivial | rfl) | (refine ⟨?_, ?_, ?_, ?_⟩ <;> first | omega | assumption | trivial | rfl) | (refine ⟨?_, ?_, ?_, ?_, ?_⟩ <;> first | omega | assumption | trivial | rfl) | (refine ⟨?_, ?_, ?_, ?_, ?_, ?_⟩ <;> first | omega | assumption | trivial | rfl) | (refine ⟨?_, ?_, ?_, ?_, ?_, ?_, ?_⟩ <;> first | omega | assumption | trivial | rfl) | (refine ⟨?_, ?_, ?_, ?_, ?_, ?_, ?_, ?_⟩ <;> first | omega | assumption | trivial | rfl))
      · exact ok_s (show (0 : Int32).toInt = 0 ∨ (0 : Int32).toInt = 1 from by first | omega | assumption | trivial | (refine ⟨?_, ?_⟩ <;> first | omega | assumption | trivial | rfl) | (refine ⟨?_, ?_, ?_⟩ <;> first | omega | assumption | trivial | rfl) | (refine ⟨?_, ?_, ?_, ?_⟩ <;> first | omega | assumption | trivial | rfl) | (refine ⟨?_, ?_, ?_, ?_, ?_⟩ <;> first | omega | assumption | trivial | rfl) | (refine ⟨?_, ?_, ?_, ?_, ?_, ?_⟩ <;> first | omega | assumption | trivial | rfl) | (refine ⟨?_, ?_, ?_, ?_, ?_, ?_, ?_⟩ <;> first | omega | assumption | trivial | rfl) | (refine ⟨?_, ?_, ?_, ?_, ?_, ?_, ?_, ?_⟩ <;> first | omega | assumption | trivial | rfl))
set_option maxHeartbeats 1000000 in
theorem sp_X3_isSameAs (c_t_size : Int32) (f_t_held : Nat → Int64) (c_q0_size : Int32) (f_q0_held : Nat → Int64) (hp0 : 0 ≤ c_t_size.toInt) (hp1 : c_t_size.toInt ≤ 12) (hp2 : 0 ≤ c_q0_size.toInt) (hp3 : c_q0_size.toInt ≤ 12) : ok (F_X3_isSameAs c_t_size f_t_held c_q0_size f_q0_held) (fun r => r.toInt = 0 ∨ r.toInt = 1) := by
  have l032 : (0 : Int32).toInt = 0 := by decide
  have l132 : (1 : Int32).toInt = 1 := by decide
  unfold F_X3_isSameAs
  refine ok_eq (fun c1 => ?_) (fun c1 => ?_)
  · refine ok_L1 (fun y2_15 => 0 ≤ y2_15.toInt) (fun y2_15 => (c_t_size.toInt - y2_15.toInt + 1).toNat) (fun ih15 y2_15 hI2 hih2 => ?_) 20000 (0 : Int32) (show 0 ≤ (0 : Int32).toInt from by first | omega | assumption | trivial | (refine ⟨?_, ?_⟩ <;> first | omega | assumption | trivial | rfl) | (refine ⟨?_, ?_, ?_⟩ <;> first | omega | assumption | trivial | rfl) | (refine ⟨?_, ?_, ?_, ?_⟩ <;> first | omega | assumption | trivial | rfl) | (refine ⟨?_, ?_, ?_, ?_, ?_⟩ <;> first | omega | assumption | trivial | rfl) | (refine ⟨?_, ?_, ?_, ?_, ?_, ?_⟩ <;> first | omega | assumption | trivial | rfl) | (refine ⟨?_, ?_, ?_, ?_, ?_, ?_, ?_⟩ <;> first | omega | assumption | trivial | rfl) | (refine ⟨?_, ?_, ?_, ?_, ?_, ?_, ?_, ?_⟩ <;> first | omega | assumption | trivial | rfl)) (show (c_t_size.toInt - (0 : Int32).toInt + 1).toNat < 20000 from by omega)
    have hI2 : 0 ≤ y2_15.toInt := hI2
    unfold S_X3_isSameAs_15
    refine ok_le (fun c3 => ?_) (fun c3 => ?_)
    · exact ok_s (show (1 : Int32).toInt = 0 ∨ (1 : Int32).toInt = 1 from by first | omega | assumption | trivial | (refine ⟨?_, ?_⟩ <;> first | omega | assumption | trivial | rfl) | (refine ⟨?_, ?_, ?_⟩ <;> first | omega | assumption | trivial | rfl) | (refine ⟨?_, ?_, ?_, ?_⟩ <;> first | omega | assumption | trivial | rfl) | (refine ⟨?_, ?_, ?_, ?_, ?_⟩ <;> first | omega | assumption | trivial | rfl) | (refine ⟨?_, ?_, ?_, ?_, ?_, ?_⟩ <;> first | omega | assumption | trivial | rfl) | (refine ⟨?_, ?_, ?_, ?_, ?_, ?_, ?_⟩ <;> first | omega | assumption | trivial | rfl) | (refine ⟨?_, ?_, ?_, ?_, ?_, ?_, ?_, ?_⟩ <;> first | omega | assumption | trivial | rfl))
    · refine ok_c (ixo (by omega) (by omega)) ?_
      refine ok_c (ixo (by omega) (by omega)) ?_
      refine ok_eqL (fun c4 => ?_) (fun c4 => ?_)
      · refine ok_bx (fun x2_41 e_x2_41 => ?_)
        try have t_x2_41 : x2_41.toInt = y2_15.toInt + 1 := by rw [e_x2_41]; exact addT1 (show (1 : Int32).toInt = 1 from by decide) (by omega) (by omega)
        exact hih2 x2_41 (show 0 ≤ x2_41.toInt from by first | omega | assumption | trivial | (refine ⟨?_, ?_⟩ <;> first | omega | assumption | trivial | rfl) | (refine ⟨?_, ?_, ?_⟩ <;> first | omega | assumption | trivial | rfl) | (refine ⟨?_, ?_, ?_, ?_⟩ <;> first | omega | assumption | trivial | rfl) | (refine ⟨?_, ?_, ?_, ?_, ?_⟩ <;> first | omega | assumption | trivial | rfl) | (refine ⟨?_, ?_, ?_, ?_, ?_, ?_⟩ <;> first | omega | assumption | trivial | rfl) | (refine ⟨?_, ?_, ?_, ?_, ?_, ?_, ?_⟩ <;> first | omega | assumption | trivial | rfl) | (refine ⟨?_, ?_, ?_, ?_, ?_, ?_, ?_, ?_⟩ <;> first | omega | assumption | trivial | rfl)) (show (c_t_size.toInt - x2_41.toInt + 1).toNat < (c_t_size.toInt - y2_15.toInt + 1).toNat from by omega)
      · exact ok_s (show (0 : Int32).toInt = 0 ∨ (0 : Int32).toInt = 1 from by first | omega | assumption | trivial | (refine ⟨?_, ?_⟩ <;> first | omega | assumption | trivial | rfl) | (refine ⟨?_, ?_, ?_⟩ <;> first | omega | assumption | trivial | rfl) | (refine ⟨?_, ?_, ?_, ?_⟩ <;> first | omega | assumption | trivial | rfl) | (refine ⟨?_, ?_, ?_, ?_, ?_⟩ <;> first | omega | assumption | trivial | rfl) | (refine ⟨?_, ?_, ?_, ?_, ?_, ?_⟩ <;> first | omega | assumption | trivial | rfl) | (refine ⟨?_, ?_, ?_, ?_, ?_, ?_, ?_⟩ <;> first | omega | assumption | trivial | rfl) | (refine ⟨?_, ?_, ?_, ?_, ?_, ?_, ?_, ?_⟩ <;> first | omega | assumption | trivial | rfl))
  · exact ok_s (show (0 : Int32).toInt = 0 ∨ (0 : Int32).toInt = 1 from by first | omega | assumption | trivial | (refine ⟨?_, ?_⟩ <;> first | omega | assumption | trivial | rfl) | (refine ⟨?_, ?_, ?_⟩ <;> first | omega | assumption | trivial | rfl) | (refine ⟨?_, ?_, ?_, ?_⟩ <;> first | omega | assumption | trivial | rfl) | (refine ⟨?_, ?_, ?_, ?_, ?_⟩ <;> first | omega | assumption | trivial | rfl) | (refine ⟨?_, ?_, ?_, ?_, ?_, ?_⟩ <;> first | omega | assumption | trivial | rfl) | (refine ⟨?_, ?_, ?_, ?_, ?_, ?_, ?_⟩ <;> first | omega | assumption | trivial | rfl) | (refine ⟨?_, ?_, ?_, ?_, ?_, ?_, ?_, ?_⟩ <;> first | omega | assumption | trivial | rfl))
set_option maxHeartbeats 1000000 in
theorem sp_X7_mixed (p0 : Int64) (p1 : Int64)  : ok (F_X7_mixed p0 p1) (fun r => True) := by
  have l3164 : (31 : Int64).toInt = 31 := by decide
  unfold F_X7_mixed
  exact ok_s trivial
set_option maxHeartbeats 1000000 in
theorem sp_X7_digestOfForm (p0 : Int64) (p1 : Int64)  : ok (F_X7_digestOfForm p0 p1) (fun r => True) := by
  have lm132 : (-1 : Int32).toInt = -1 := by decide
  have l032 : (0 : Int32).toInt = 0 := by decide
  unfold F_X7_digestOfForm
  refine ok_o (sp_X0_degreeOf p1 ) (fun r2 h1 => ?_)
  have h1 : r2.toInt = DG p1 ∧ -1 ≤ r2.toInt ∧ r2.toInt ≤ 63 := h1
  refine ok_o (sp_X7_mixed p0 r2.toInt64 ) (fun r6 h2 => ?_)
  refine ok_o (sp_X0_lowestOf p1 ) (fun r10 h3 => ?_)
  refine ok_o (sp_X7_mixed r6 r10.toInt64 ) (fun r14 h4 => ?_)
  refine ok_o (sp_X0_degreeOf p1 ) (fun r20 h5 => ?_)
  have h5 : r20.toInt = DG p1 ∧ -1 ≤ r20.toInt ∧ r20.toInt ≤ 63 := h5
  refine ok_L2 (fun y4_25 y6_25 => y6_25.toInt ≤ 64) (fun y4_25 y6_25 => (y6_25.toInt + 1).toNat) (fun ih25 y4_25 y6_25 hI6 hih6 => ?_) 20000 r14 r20 (show r20.toInt ≤ 64 from by first | omega | assumption | trivial | (refine ⟨?_, ?_⟩ <;> first | omega | assumption | trivial | rfl) | (refine ⟨?_, ?_, ?_⟩ <;> first | omega | assumption | trivial | rfl) | (refine ⟨?_, ?_, ?_, ?_⟩ <;> first | omega | assumption | trivial | rfl) | (refine ⟨?_, ?_, ?_, ?_, ?_⟩ <;> first | omega | assumption | trivial | rfl) | (refine ⟨?_, ?_, ?_, ?_, ?_, ?_⟩ <;> first | omega | assumption | trivial | rfl) | (refine ⟨?_, ?_, ?_, ?_, ?_, ?_, ?_⟩ <;> first | omega | assumption | trivial | rfl) | (refine ⟨?_, ?_, ?_, ?_, ?_, ?_, ?_, ?_⟩ <;> first | omega | assumption | trivial | rfl)) (show (r20.toInt + 1).toNat < 20000 from by omega)
  have hI6 : y6_25.toInt ≤ 64 := hI6
  unfold S_X7_digestOfForm_25
  refine ok_lt (fun c7 => ?_) (fun c7 => ?_)
  · exact ok_s trivial
  · refine ok_o (sp_X0_hasOne p1 y6_25 ) (fun r33 h8 => ?_)
    have h8 : r33.toInt = 0 ∨ r33.toInt = 1 := h8
    refine ok_eq (fun c9 => ?_) (fun c9 => ?_)
    · refine ok_bx (fun x6_49 e_x6_49 => ?_)
      try have t_x6_49 : x6_49.toInt = y6_25.toInt + (-1) := by rw [e_x6_49]; exact addT1 (show (-1 : Int32).toInt = -1 from by decide) (by omega) (by omega)
      exact hih6 y4_25 x6_49 (show x6_49.toInt ≤ 64 from by first | omega | assumption | trivial | (refine ⟨?_, ?_⟩ <;> first | omega | assumption | trivial | rfl) | (refine ⟨?_, ?_, ?_⟩ <;> first | omega | assumption | trivial | rfl) | (refine ⟨?_, ?_, ?_, ?_⟩ <;> first | omega | assumption | trivial | rfl) | (refine ⟨?_, ?_, ?_, ?_, ?_⟩ <;> first | omega | assumption | trivial | rfl) | (refine ⟨?_, ?_, ?_, ?_, ?_, ?_⟩ <;> first | omega | assumption | trivial | rfl) | (refine ⟨?_, ?_, ?_, ?_, ?_, ?_, ?_⟩ <;> first | omega | assumption | trivial | rfl) | (refine ⟨?_, ?_, ?_, ?_, ?_, ?_, ?_, ?_⟩ <;> first | omega | assumption | trivial | rfl)) (show (x6_49.toInt + 1).toNat < (y6_25.toInt + 1).toNat from by omega)
    · refine ok_o (sp_X7_mixed y4_25 y6_25.toInt64 ) (fun r44 h10 => ?_)
      refine ok_bx (fun x6_49_2 e_x6_49_2 => ?_)
      try have t_x6_49_2 : x6_49_2.toInt = y6_25.toInt + (-1) := by rw [e_x6_49_2]; exact addT1 (show (-1 : Int32).toInt = -1 from by decide) (by omega) (by omega)
      exact hih6 r44 x6_49_2 (show x6_49_2.toInt ≤ 64 from by first | omega | assumption | trivial | (refine ⟨?_, ?_⟩ <;> first | omega | assumption | trivial | rfl) | (refine ⟨?_, ?_, ?_⟩ <;> first | omega | assumption | trivial | rfl) | (refine ⟨?_, ?_, ?_, ?_⟩ <;> first | omega | assumption | trivial | rfl) | (refine ⟨?_, ?_, ?_, ?_, ?_⟩ <;> first | omega | assumption | trivial | rfl) | (refine ⟨?_, ?_, ?_, ?_, ?_, ?_⟩ <;> first | omega | assumption | trivial | rfl) | (refine ⟨?_, ?_, ?_, ?_, ?_, ?_, ?_⟩ <;> first | omega | assumption | trivial | rfl) | (refine ⟨?_, ?_, ?_, ?_, ?_, ?_, ?_, ?_⟩ <;> first | omega | assumption | trivial | rfl)) (show (x6_49_2.toInt + 1).toNat < (y6_25.toInt + 1).toNat from by omega)
set_option maxHeartbeats 1000000 in
theorem sp_X2_isByTrying (p0 : Int64) (hp0 : DG p0 ≤ 10) : ok (F_X2_isByTrying p0) (fun r => r.toInt = 0 ∨ r.toInt = 1) := by
  have l032 : (0 : Int32).toInt = 0 := by decide
  have l132 : (1 : Int32).toInt = 1 := by decide
  have l164 : (1 : Int64).toInt = 1 := by decide
  have l232 : (2 : Int32).toInt = 2 := by decide
  have l264 : (2 : Int64).toInt = 2 := by decide
  unfold F_X2_isByTrying
  refine ok_o (sp_X0_degreeOf p0 ) (fun r1 h1 => ?_)
  have h1 : r1.toInt = DG p0 ∧ -1 ≤ r1.toInt ∧ r1.toInt ≤ 63 := h1
  refine ok_le (fun c2 => ?_) (fun c2 => ?_)
  · refine ok_bx (fun x3_19 e_x3_19 => ?_)
    have t_x3_19 : x3_19.toInt ≤ 64 := by rw [e_x3_19]; exact half_sh (by omega) (by omega)
    refine ok_L1 (fun y5_25 => 2 ≤ y5_25.toInt) (fun y5_25 => (x3_19.toInt - y5_25.toInt + 1).toNat) (fun ih25 y5_25 hI3 hih3 => ?_) 20000 (2 : Int64) (show 2 ≤ (2 : Int64).toInt from by first | omega | assumption | trivial | (refine ⟨?_, ?_⟩ <;> first | omega | assumption | trivial | rfl) | (refine ⟨?_, ?_, ?_⟩ <;> first | omega | assumption | trivial | rfl) | (refine ⟨?_, ?_, ?_, ?_⟩ <;> first | omega | assumption | trivial | rfl) | (refine ⟨?_, ?_, ?_, ?_, ?_⟩ <;> first | omega | assumption | trivial | rfl) | (refine ⟨?_, ?_, ?_, ?_, ?_, ?_⟩ <;> first | omega | assumption | trivial | rfl) | (refine ⟨?_, ?_, ?_, ?_, ?_, ?_, ?_⟩ <;> first | omega | assumption | trivial | rfl) | (refine ⟨?_, ?_, ?_, ?_, ?_, ?_, ?_, ?_⟩ <;> first | omega | assumption | trivial | rfl)) (show (x3_19.toInt - (2 : Int64).toInt + 1).toNat < 20000 from by omega)
    have hI3 : 2 ≤ y5_25.toInt := hI3
    unfold S_X2_isByTrying_25
    refine ok_leL (fun c4 => ?_) (fun c4 => ?_)
    · exact ok_s (show (1 : Int32).toInt = 0 ∨ (1 : Int32).toInt = 1 from by first | omega | assumption | trivial | (refine ⟨?_, ?_⟩ <;> first | omega | assumption | trivial | rfl) | (refine ⟨?_, ?_, ?_⟩ <;> first | omega | assumption | trivial | rfl) | (refine ⟨?_, ?_, ?_, ?_⟩ <;> first | omega | assumption | trivial | rfl) | (refine ⟨?_, ?_, ?_, ?_, ?_⟩ <;> first | omega | assumption | trivial | rfl) | (refine ⟨?_, ?_, ?_, ?_, ?_, ?_⟩ <;> first | omega | assumption | trivial | rfl) | (refine ⟨?_, ?_, ?_, ?_, ?_, ?_, ?_⟩ <;> first | omega | assumption | trivial | rfl) | (refine ⟨?_, ?_, ?_, ?_, ?_, ?_, ?_, ?_⟩ <;> first | omega | assumption | trivial | rfl))
    · refine ok_o (sp_X0_goesInto y5_25 p0 ) (fun r35 h5 => ?_)
      have h5 : r35.toInt = 0 ∨ r35.toInt = 1 := h5
      refine ok_eq (fun c6 => ?_) (fun c6 => ?_)
      · refine ok_bx (fun x5_47 e_x5_47 => ?_)
        try have t_x5_47 : x5_47.toInt = y5_25.toInt + 1 := by rw [e_x5_47]; exact addL1 (show (1 : Int64).toInt = 1 from by decide) (by omega) (by omega)
        exact hih3 x5_47 (show 2 ≤ x5_47.toInt from by first | omega | assumption | trivial | (refine ⟨?_, ?_⟩ <;> first | omega | assumption | trivial | rfl) | (refine ⟨?_, ?_, ?_⟩ <;> first | omega | assumption | trivial | rfl) | (refine ⟨?_, ?_, ?_, ?_⟩ <;> first | omega | assumption | trivial | rfl) | (refine ⟨?_, ?_, ?_, ?_, ?_⟩ <;> first | omega | assumption | trivial | rfl) | (refine ⟨?_, ?_, ?_, ?_, ?_, ?_⟩ <;> first | omega | assumption | trivial | rfl) | (refine ⟨?_, ?_, ?_, ?_, ?_, ?_, ?_⟩ <;> first | omega | assumption | trivial | rfl) | (refine ⟨?_, ?_, ?_, ?_, ?_, ?_, ?_, ?_⟩ <;> first | omega | assumption | trivial | rfl)) (show (x3_19.toInt - x5_47.toInt + 1).toNat < (x3_19.toInt - y5_25.toInt + 1).toNat from by omega)
      · exact ok_s (show (0 : Int32).toInt = 0 ∨ (0 : Int32).toInt = 1 from by first | omega | assumption | trivial | (refine ⟨?_, ?_⟩ <;> first | omega | assumption | trivial | rfl) | (refine ⟨?_, ?_, ?_⟩ <;> first | omega | assumption | trivial | rfl) | (refine ⟨?_, ?_, ?_, ?_⟩ <;> first | omega | assumption | trivial | rfl) | (refine ⟨?_, ?_, ?_, ?_, ?_⟩ <;> first | omega | assumption | trivial | rfl) | (refine ⟨?_, ?_, ?_, ?_, ?_, ?_⟩ <;> first | omega | assumption | trivial | rfl) | (refine ⟨?_, ?_, ?_, ?_, ?_, ?_, ?_⟩ <;> first | omega | assumption | trivial | rfl) | (refine ⟨?_, ?_, ?_, ?_, ?_, ?_, ?_, ?_⟩ <;> first | omega | assumption | trivial | rfl))
  · exact ok_s (show (0 : Int32).toInt = 0 ∨ (0 : Int32).toInt = 1 from by first | omega | assumption | trivial | (refine ⟨?_, ?_⟩ <;> first | omega | assumption | trivial | rfl) | (refine ⟨?_, ?_, ?_⟩ <;> first | omega | assumption | trivial | rfl) | (refine ⟨?_, ?_, ?_, ?_⟩ <;> first | omega | assumption | trivial | rfl) | (refine ⟨?_, ?_, ?_, ?_, ?_⟩ <;> first | omega | assumption | trivial | rfl) | (refine ⟨?_, ?_, ?_, ?_, ?_, ?_⟩ <;> first | omega | assumption | trivial | rfl) | (refine ⟨?_, ?_, ?_, ?_, ?_, ?_, ?_⟩ <;> first | omega | assumption | trivial | rfl) | (refine ⟨?_, ?_, ?_, ?_, ?_, ?_, ?_, ?_⟩ <;> first | omega | assumption | trivial | rfl))
set_option maxHeartbeats 1000000 in
theorem sp_X2_productOfDegree (p0 : Int32) (hp0 : 1 ≤ p0.toInt) (hp1 : p0.toInt ≤ 6) : ok (F_X2_productOfDegree p0) (fun r => True) := by
  have l032 : (0 : Int32).toInt = 0 := by decide
  have l164 : (1 : Int64).toInt = 1 := by decide
  have l264 : (2 : Int64).toInt = 2 := by decide
  have hs := sh_b (x := p0) (by omega) (by omega)
  unfold F_X2_productOfDegree
  refine ok_bx (fun x3_5 e_x3_5 => ?_)
  have t_x3_5 : 1 ≤ x3_5.toInt ∧ x3_5.toInt ≤ 64 := by rw [e_x3_5]; exact ⟨hs.1, hs.2.1⟩
  refine ok_L2 (fun y1_6 y3_6 => 1 ≤ y3_6.toInt ∧ y3_6.toInt ≤ 128) (fun y1_6 y3_6 => (128 - y3_6.toInt + 1).toNat) (fun ih6 y1_6 y3_6 hI1 hih1 => ?_) 20000 (1 : Int64) x3_5 (show 1 ≤ x3_5.toInt ∧ x3_5.toInt ≤ 128 from by first | omega | assumption | trivial | (refine ⟨?_, ?_⟩ <;> first | omega | assumption | trivial | rfl) | (refine ⟨?_, ?_, ?_⟩ <;> first | omega | assumption | trivial | rfl) | (refine ⟨?_, ?_, ?_, ?_⟩ <;> first | omega | assumption | trivial | rfl) | (refine ⟨?_, ?_, ?_, ?_, ?_⟩ <;> first | omega | assumption | trivial | rfl) | (refine ⟨?_, ?_, ?_, ?_, ?_, ?_⟩ <;> first | omega | assumption | trivial | rfl) | (refine ⟨?_, ?_, ?_, ?_, ?_, ?_, ?_⟩ <;> first | omega | assumption | trivial | rfl) | (refine ⟨?_, ?_, ?_, ?_, ?_, ?_, ?_, ?_⟩ <;> first | omega | assumption | trivial | rfl)) (show (128 - x3_5.toInt + 1).toNat < 20000 from by omega)
  have hI1 : 1 ≤ y3_6.toInt ∧ y3_6.toInt ≤ 128 := hI1
  unfold S_X2_productOfDegree_6
  refine ok_leL (fun c2 => ?_) (fun c2 => ?_)
  · exact ok_s trivial
  · have hdr17 : DG y3_6 < ((8 : Nat) : Int) := DG_lt (by omega) (show y3_6.toInt < 2 ^ 8 from by omega)
    refine ok_o (sp_X2_isByTrying y3_6 (by first | omega | assumption | trivial)) (fun r17 h3 => ?_)
    have h3 : r17.toInt = 0 ∨ r17.toInt = 1 := h3
    refine ok_eq (fun c4 => ?_) (fun c4 => ?_)
    · refine ok_bx (fun x3_32 e_x3_32 => ?_)
      try have t_x3_32 : x3_32.toInt = y3_6.toInt + 1 := by rw [e_x3_32]; exact addL1 (show (1 : Int64).toInt = 1 from by decide) (by omega) (by omega)
      exact hih1 y1_6 x3_32 (show 1 ≤ x3_32.toInt ∧ x3_32.toInt ≤ 128 from by first | omega | assumption | trivial | (refine ⟨?_, ?_⟩ <;> first | omega | assumption | trivial | rfl) | (refine ⟨?_, ?_, ?_⟩ <;> first | omega | assumption | trivial | rfl) | (refine ⟨?_, ?_, ?_, ?_⟩ <;> first | omega | assumption | trivial | rfl) | (refine ⟨?_, ?_, ?_, ?_, ?_⟩ <;> first | omega | assumption | trivial | rfl) | (refine ⟨?_, ?_, ?_, ?_, ?_, ?_⟩ <;> first | omega | assumption | trivial | rfl) | (refine ⟨?_, ?_, ?_, ?_, ?_, ?_, ?_⟩ <;> first | omega | assumption | trivial | rfl) | (refine ⟨?_, ?_, ?_, ?_, ?_, ?_, ?_, ?_⟩ <;> first | omega | assumption | trivial | rfl)) (show (128 - x3_32.toInt + 1).toNat < (128 - y3_6.toInt + 1).toNat from by omega)
    · refine ok_o (sp_X0_multiplied y1_6 y3_6 ) (fun r25 h5 => ?_)
      refine ok_bx (fun x3_32_2 e_x3_32_2 => ?_)
      try have t_x3_32_2 : x3_32_2.toInt = y3_6.toInt + 1 := by rw [e_x3_32_2]; exact addL1 (show (1 : Int64).toInt = 1 from by decide) (by omega) (by omega)
      exact hih1 r25 x3_32_2 (show 1 ≤ x3_32_2.toInt ∧ x3_32_2.toInt ≤ 128 from by first | omega | assumption | trivial | (refine ⟨?_, ?_⟩ <;> first | omega | assumption | trivial | rfl) | (refine ⟨?_, ?_, ?_⟩ <;> first | omega | assumption | trivial | rfl) | (refine ⟨?_, ?_, ?_, ?_⟩ <;> first | omega | assumption | trivial | rfl) | (refine ⟨?_, ?_, ?_, ?_, ?_⟩ <;> first | omega | assumption | trivial | rfl) | (refine ⟨?_, ?_, ?_, ?_, ?_, ?_⟩ <;> first | omega | assumption | trivial | rfl) | (refine ⟨?_, ?_, ?_, ?_, ?_, ?_, ?_⟩ <;> first | omega | assumption | trivial | rfl) | (refine ⟨?_, ?_, ?_, ?_, ?_, ?_, ?_, ?_⟩ <;> first | omega | assumption | trivial | rfl)) (show (128 - x3_32_2.toInt + 1).toNat < (128 - y3_6.toInt + 1).toNat from by omega)
set_option maxHeartbeats 1000000 in
theorem sp_X2_howManyByCounting (p0 : Int32) (hp0 : 1 ≤ p0.toInt) (hp1 : p0.toInt ≤ 6) : ok (F_X2_howManyByCounting p0) (fun r => True) := by
  have l032 : (0 : Int32).toInt = 0 := by decide
  have l132 : (1 : Int32).toInt = 1 := by decide
  have l164 : (1 : Int64).toInt = 1 := by decide
  have l264 : (2 : Int64).toInt = 2 := by decide
  have hs := sh_b (x := p0) (by omega) (by omega)
  unfold F_X2_howManyByCounting
  refine ok_bx (fun x2_5 e_x2_5 => ?_)
  have t_x2_5 : 1 ≤ x2_5.toInt ∧ x2_5.toInt ≤ 64 := by rw [e_x2_5]; exact ⟨hs.1, hs.2.1⟩
  refine ok_L2 (fun y1_6 y2_6 => 1 ≤ y2_6.toInt ∧ y2_6.toInt ≤ 128) (fun y1_6 y2_6 => (128 - y2_6.toInt + 1).toNat) (fun ih6 y1_6 y2_6 hI1 hih1 => ?_) 20000 (0 : Int32) x2_5 (show 1 ≤ x2_5.toInt ∧ x2_5.toInt ≤ 128 from by first | omega | assumption | trivial | (refine ⟨?_, ?_⟩ <;> first | omega | assumption | trivial | rfl) | (refine ⟨?_, ?_, ?_⟩ <;> first | omega | assumption | trivial | rfl) | (refine ⟨?_, ?_, ?_, ?_⟩ <;> first | omega | assumption | trivial | rfl) | (refine ⟨?_, ?_, ?_, ?_, ?_⟩ <;> first | omega | assumption | trivial | rfl) | (refine ⟨?_, ?_, ?_, ?_, ?_, ?_⟩ <;> first | omega | assumption | trivial | rfl) | (refine ⟨?_, ?_, ?_, ?_, ?_, ?_, ?_⟩ <;> first | omega | assumption | trivial | rfl) | (refine ⟨?_, ?_, ?_, ?_, ?_, ?_, ?_, ?_⟩ <;> first | omega | assumption | trivial | rfl)) (show (128 - x2_5.toInt + 1).toNat < 20000 from by omega)
  have hI1 : 1 ≤ y2_6.toInt ∧ y2_6.toInt ≤ 128 := hI1
  unfold S_X2_howManyByCounting_6
  refine ok_leL (fun c2 => ?_) (fun c2 => ?_)
  · exact ok_s trivial
  · have hdr17 : DG y2_6 < ((8 : Nat) : Int) := DG_lt (by omega) (show y2_6.toInt < 2 ^ 8 from by omega)
    refine ok_o (sp_X2_isByTrying y2_6 (by first | omega | assumption | trivial)) (fun r17 h3 => ?_)
    have h3 : r17.toInt = 0 ∨ r17.toInt = 1 := h3
    refine ok_eq (fun c4 => ?_) (fun c4 => ?_)
    · refine ok_bx (fun x2_29 e_x2_29 => ?_)
      try have t_x2_29 : x2_29.toInt = y2_6.toInt + 1 := by rw [e_x2_29]; exact addL1 (show (1 : Int64).toInt = 1 from by decide) (by omega) (by omega)
      exact hih1 y1_6 x2_29 (show 1 ≤ x2_29.toInt ∧ x2_29.toInt ≤ 128 from by first | omega | assumption | trivial | (refine ⟨?_, ?_⟩ <;> first | omega | assumption | trivial | rfl) | (refine ⟨?_, ?_, ?_⟩ <;> first | omega | assumption | trivial | rfl) | (refine ⟨?_, ?_, ?_, ?_⟩ <;> first | omega | assumption | trivial | rfl) | (refine ⟨?_, ?_, ?_, ?_, ?_⟩ <;> first | omega | assumption | trivial | rfl) | (refine ⟨?_, ?_, ?_, ?_, ?_, ?_⟩ <;> first | omega | assumption | trivial | rfl) | (refine ⟨?_, ?_, ?_, ?_, ?_, ?_, ?_⟩ <;> first | omega | assumption | trivial | rfl) | (refine ⟨?_, ?_, ?_, ?_, ?_, ?_, ?_, ?_⟩ <;> first | omega | assumption | trivial | rfl)) (show (128 - x2_29.toInt + 1).toNat < (128 - y2_6.toInt + 1).toNat from by omega)
    · refine ok_bx (fun x1_23 e_x1_23 => ?_)
      try have t_x1_23 : x1_23.toInt = y1_6.toInt + 1 := by rw [e_x1_23]; exact addT1 (show (1 : Int32).toInt = 1 from by decide) (by omega) (by omega)
      refine ok_bx (fun x2_29_2 e_x2_29_2 => ?_)
      try have t_x2_29_2 : x2_29_2.toInt = y2_6.toInt + 1 := by rw [e_x2_29_2]; exact addL1 (show (1 : Int64).toInt = 1 from by decide) (by omega) (by omega)
      exact hih1 x1_23 x2_29_2 (show 1 ≤ x2_29_2.toInt ∧ x2_29_2.toInt ≤ 128 from by first | omega | assumption | trivial | (refine ⟨?_, ?_⟩ <;> first | omega | assumption | trivial | rfl) | (refine ⟨?_, ?_, ?_⟩ <;> first | omega | assumption | trivial | rfl) | (refine ⟨?_, ?_, ?_, ?_⟩ <;> first | omega | assumption | trivial | rfl) | (refine ⟨?_, ?_, ?_, ?_, ?_⟩ <;> first | omega | assumption | trivial | rfl) | (refine ⟨?_, ?_, ?_, ?_, ?_, ?_⟩ <;> first | omega | assumption | trivial | rfl) | (refine ⟨?_, ?_, ?_, ?_, ?_, ?_, ?_⟩ <;> first | omega | assumption | trivial | rfl) | (refine ⟨?_, ?_, ?_, ?_, ?_, ?_, ?_, ?_⟩ <;> first | omega | assumption | trivial | rfl)) (show (128 - x2_29_2.toInt + 1).toNat < (128 - y2_6.toInt + 1).toNat from by omega)
set_option maxHeartbeats 1000000 in
theorem sp_X2_productOfAll (p0 : Int32) (hp0 : 1 ≤ p0.toInt) (hp1 : p0.toInt ≤ 5) : ok (F_X2_productOfAll p0) (fun r => True) := by
  have l032 : (0 : Int32).toInt = 0 := by decide
  have l132 : (1 : Int32).toInt = 1 := by decide
  have l164 : (1 : Int64).toInt = 1 := by decide
  unfold F_X2_productOfAll
  refine ok_L2 (fun y1_4 y3_4 => 1 ≤ y3_4.toInt) (fun y1_4 y3_4 => (p0.toInt - y3_4.toInt + 1).toNat) (fun ih4 y1_4 y3_4 hI1 hih1 => ?_) 20000 (1 : Int64) (1 : Int32) (show 1 ≤ (1 : Int32).toInt from by first | omega | assumption | trivial | (refine ⟨?_, ?_⟩ <;> first | omega | assumption | trivial | rfl) | (refine ⟨?_, ?_, ?_⟩ <;> first | omega | assumption | trivial | rfl) | (refine ⟨?_, ?_, ?_, ?_⟩ <;> first | omega | assumption | trivial | rfl) | (refine ⟨?_, ?_, ?_, ?_, ?_⟩ <;> first | omega | assumption | trivial | rfl) | (refine ⟨?_, ?_, ?_, ?_, ?_, ?_⟩ <;> first | omega | assumption | trivial | rfl) | (refine ⟨?_, ?_, ?_, ?_, ?_, ?_, ?_⟩ <;> first | omega | assumption | trivial | rfl) | (refine ⟨?_, ?_, ?_, ?_, ?_, ?_, ?_, ?_⟩ <;> first | omega | assumption | trivial | rfl)) (show (p0.toInt - (1 : Int32).toInt + 1).toNat < 20000 from by omega)
  have hI1 : 1 ≤ y3_4.toInt := hI1
  unfold S_X2_productOfAll_4
  refine ok_lt (fun c2 => ?_) (fun c2 => ?_)
  · exact ok_s trivial
  · refine ok_c (nz_of (by omega)) ?_
    refine ok_i (fun c3 => ?_) (fun c3 => ?_)
    · refine ok_o (sp_X2_productOfDegree y3_4 (by first | omega | assumption | trivial) (by first | omega | assumption | trivial)) (fun r17 h4 => ?_)
      refine ok_o (sp_X0_multiplied y1_4 r17 ) (fun r20 h5 => ?_)
      refine ok_bx (fun x3_24 e_x3_24 => ?_)
      try have t_x3_24 : x3_24.toInt = y3_4.toInt + 1 := by rw [e_x3_24]; exact addT1 (show (1 : Int32).toInt = 1 from by decide) (by omega) (by omega)
      exact hih1 r20 x3_24 (show 1 ≤ x3_24.toInt from by first | omega | assumption | trivial | (refine ⟨?_, ?_⟩ <;> first | omega | assumption | trivial | rfl) | (refine ⟨?_, ?_, ?_⟩ <;> first | omega | assumption | trivial | rfl) | (refine ⟨?_, ?_, ?_, ?_⟩ <;> first | omega | assumption | trivial | rfl) | (refine ⟨?_, ?_, ?_, ?_, ?_⟩ <;> first | omega | assumption | trivial | rfl) | (refine ⟨?_, ?_, ?_, ?_, ?_, ?_⟩ <;> first | omega | assumption | trivial | rfl) | (refine ⟨?_, ?_, ?_, ?_, ?_, ?_, ?_⟩ <;> first | omega | assumption | trivial | rfl) | (refine ⟨?_, ?_, ?_, ?_, ?_, ?_, ?_, ?_⟩ <;> first | omega | assumption | trivial | rfl)) (show (p0.toInt - x3_24.toInt + 1).toNat < (p0.toInt - y3_4.toInt + 1).toNat from by omega)
    · refine ok_bx (fun x3_24_2 e_x3_24_2 => ?_)
      try have t_x3_24_2 : x3_24_2.toInt = y3_4.toInt + 1 := by rw [e_x3_24_2]; exact addT1 (show (1 : Int32).toInt = 1 from by decide) (by omega) (by omega)
      exact hih1 y1_4 x3_24_2 (show 1 ≤ x3_24_2.toInt from by first | omega | assumption | trivial | (refine ⟨?_, ?_⟩ <;> first | omega | assumption | trivial | rfl) | (refine ⟨?_, ?_, ?_⟩ <;> first | omega | assumption | trivial | rfl) | (refine ⟨?_, ?_, ?_, ?_⟩ <;> first | omega | assumption | trivial | rfl) | (refine ⟨?_, ?_, ?_, ?_, ?_⟩ <;> first | omega | assumption | trivial | rfl) | (refine ⟨?_, ?_, ?_, ?_, ?_, ?_⟩ <;> first | omega | assumption | trivial | rfl) | (refine ⟨?_, ?_, ?_, ?_, ?_, ?_, ?_⟩ <;> first | omega | assumption | trivial | rfl) | (refine ⟨?_, ?_, ?_, ?_, ?_, ?_, ?_, ?_⟩ <;> first | omega | assumption | trivial | rfl)) (show (p0.toInt - x3_24_2.toInt + 1).toNat < (p0.toInt - y3_4.toInt + 1).toNat from by omega)
set_option maxHeartbeats 1000000 in
theorem sp_X7_allPrimes (c_t_acts : Int32) (f_t_forms : Nat → Int64) (p0 : Int32) (p1 : Int32)  : ok (F_X7_allPrimes c_t_acts f_t_forms p0 p1) (fun r => r.1 = 0 ∨ r.1 = 1 ∨ r.1 = 2) := by
  have l032 : (0 : Int32).toInt = 0 := by decide
  have l132 : (1 : Int32).toInt = 1 := by decide
  have l532 : (5 : Int32).toInt = 5 := by decide
  unfold F_X7_allPrimes
  refine ok_o (sp_X7_testForm p1 ) (fun xc1 h1 => ?_)
  have h1 : (xc1 = 0 ∧ 0 ≤ p1.toInt ∧ p1.toInt ≤ 5) ∨ xc1 = 1 := h1
  refine ok_i (fun c2 => ?_) (fun c2 => ?_)
  · refine ok_o (sp_X7_testRange p0 (1 : Int32) (5 : Int32) ) (fun xc7 h3 => ?_)
    have h3 : (xc7 = 0 ∧ (1 : Int32).toInt ≤ p0.toInt ∧ p0.toInt ≤ (5 : Int32).toInt) ∨ (xc7 = 2 ∧ (p0.toInt < (1 : Int32).toInt ∨ (5 : Int32).toInt < p0.toInt)) := h3
    refine ok_i (fun c4 => ?_) (fun c4 => ?_)
    · refine ok_o (sp_X2_productOfAll p0 (by first | omega | assumption | trivial) (by first | omega | assumption | trivial)) (fun r13 h5 => ?_)
      refine ok_o3 (sp_X7_become c_t_acts f_t_forms p1 r13 (by first | omega | assumption | trivial) (by first | omega | assumption | trivial)) (fun r16 c_t_acts_16 f_t_forms_16 h6 => ?_)
      exact ok_s (show 0 = 0 ∨ 0 = 1 ∨ 0 = 2 from by first | omega | assumption | trivial | (refine ⟨?_, ?_⟩ <;> first | omega | assumption | trivial | rfl) | (refine ⟨?_, ?_, ?_⟩ <;> first | omega | assumption | trivial | rfl) | (refine ⟨?_, ?_, ?_, ?_⟩ <;> first | omega | assumption | trivial | rfl) | (refine ⟨?_, ?_, ?_, ?_, ?_⟩ <;> first | omega | assumption | trivial | rfl) | (refine ⟨?_, ?_, ?_, ?_, ?_, ?_⟩ <;> first | omega | assumption | trivial | rfl) | (refine ⟨?_, ?_, ?_, ?_, ?_, ?_, ?_⟩ <;> first | omega | assumption | trivial | rfl) | (refine ⟨?_, ?_, ?_, ?_, ?_, ?_, ?_, ?_⟩ <;> first | omega | assumption | trivial | rfl))
    · exact ok_s (show xc7 = 0 ∨ xc7 = 1 ∨ xc7 = 2 from by first | omega | assumption | trivial | (refine ⟨?_, ?_⟩ <;> first | omega | assumption | trivial | rfl) | (refine ⟨?_, ?_, ?_⟩ <;> first | omega | assumption | trivial | rfl) | (refine ⟨?_, ?_, ?_, ?_⟩ <;> first | omega | assumption | trivial | rfl) | (refine ⟨?_, ?_, ?_, ?_, ?_⟩ <;> first | omega | assumption | trivial | rfl) | (refine ⟨?_, ?_, ?_, ?_, ?_, ?_⟩ <;> first | omega | assumption | trivial | rfl) | (refine ⟨?_, ?_, ?_, ?_, ?_, ?_, ?_⟩ <;> first | omega | assumption | trivial | rfl) | (refine ⟨?_, ?_, ?_, ?_, ?_, ?_, ?_, ?_⟩ <;> first | omega | assumption | trivial | rfl))
  · exact ok_s (show xc1 = 0 ∨ xc1 = 1 ∨ xc1 = 2 from by first | omega | assumption | trivial | (refine ⟨?_, ?_⟩ <;> first | omega | assumption | trivial | rfl) | (refine ⟨?_, ?_, ?_⟩ <;> first | omega | assumption | trivial | rfl) | (refine ⟨?_, ?_, ?_, ?_⟩ <;> first | omega | assumption | trivial | rfl) | (refine ⟨?_, ?_, ?_, ?_, ?_⟩ <;> first | omega | assumption | trivial | rfl) | (refine ⟨?_, ?_, ?_, ?_, ?_, ?_⟩ <;> first | omega | assumption | trivial | rfl) | (refine ⟨?_, ?_, ?_, ?_, ?_, ?_, ?_⟩ <;> first | omega | assumption | trivial | rfl) | (refine ⟨?_, ?_, ?_, ?_, ?_, ?_, ?_, ?_⟩ <;> first | omega | assumption | trivial | rfl))
set_option maxHeartbeats 1000000 in
theorem sp_X6_leastMultiple (p0 : Int32) (p1 : Int32)  : ok (F_X6_leastMultiple p0 p1) (fun r => True) := by
  have l032 : (0 : Int32).toInt = 0 := by decide
  have l132 : (1 : Int32).toInt = 1 := by decide
  have l100032 : (1000 : Int32).toInt = 1000 := by decide
  unfold F_X6_leastMultiple
  refine ok_L3 (fun y2_7 y3_7 y4_7 => 0 ≤ y4_7.toInt) (fun y2_7 y3_7 y4_7 => (1000 - y4_7.toInt + 1).toNat) (fun ih7 y2_7 y3_7 y4_7 hI1 hih1 => ?_) 20000 p0 p1 (0 : Int32) (show 0 ≤ (0 : Int32).toInt from by first | omega | assumption | trivial | (refine ⟨?_, ?_⟩ <;> first | omega | assumption | trivial | rfl) | (refine ⟨?_, ?_, ?_⟩ <;> first | omega | assumption | trivial | rfl) | (refine ⟨?_, ?_, ?_, ?_⟩ <;> first | omega | assumption | trivial | rfl) | (refine ⟨?_, ?_, ?_, ?_, ?_⟩ <;> first | omega | assumption | trivial | rfl) | (refine ⟨?_, ?_, ?_, ?_, ?_, ?_⟩ <;> first | omega | assumption | trivial | rfl) | (refine ⟨?_, ?_, ?_, ?_, ?_, ?_, ?_⟩ <;> first | omega | assumption | trivial | rfl) | (refine ⟨?_, ?_, ?_, ?_, ?_, ?_, ?_, ?_⟩ <;> first | omega | assumption | trivial | rfl)) (show (1000 - (0 : Int32).toInt + 1).toNat < 20000 from by omega)
  have hI1 : 0 ≤ y4_7.toInt := hI1
  unfold S_X6_leastMultiple_7
  refine ok_le (fun c2 => ?_) (fun c2 => ?_)
  · refine ok_eq (fun c3 => ?_) (fun c3 => ?_)
    · exact ok_s trivial
    · refine ok_c (nz_of (by omega)) ?_
      exact ok_s trivial
  · refine ok_eq (fun c4 => ?_) (fun c4 => ?_)
    · refine ok_eq (fun c5 => ?_) (fun c5 => ?_)
      · exact ok_s trivial
      · refine ok_c (nz_of (by omega)) ?_
        exact ok_s trivial
    · refine ok_c (nz_of (by omega)) ?_
      refine ok_bx (fun x5_22 e_x5_22 => ?_)
      refine ok_bx (fun x4_29 e_x4_29 => ?_)
      try have t_x4_29 : x4_29.toInt = y4_7.toInt + 1 := by rw [e_x4_29]; exact addT1 (show (1 : Int32).toInt = 1 from by decide) (by omega) (by omega)
      exact hih1 y3_7 x5_22 x4_29 (show 0 ≤ x4_29.toInt from by first | omega | assumption | trivial | (refine ⟨?_, ?_⟩ <;> first | omega | assumption | trivial | rfl) | (refine ⟨?_, ?_, ?_⟩ <;> first | omega | assumption | trivial | rfl) | (refine ⟨?_, ?_, ?_, ?_⟩ <;> first | omega | assumption | trivial | rfl) | (refine ⟨?_, ?_, ?_, ?_, ?_⟩ <;> first | omega | assumption | trivial | rfl) | (refine ⟨?_, ?_, ?_, ?_, ?_, ?_⟩ <;> first | omega | assumption | trivial | rfl) | (refine ⟨?_, ?_, ?_, ?_, ?_, ?_, ?_⟩ <;> first | omega | assumption | trivial | rfl) | (refine ⟨?_, ?_, ?_, ?_, ?_, ?_, ?_, ?_⟩ <;> first | omega | assumption | trivial | rfl)) (show (1000 - x4_29.toInt + 1).toNat < (1000 - y4_7.toInt + 1).toNat from by omega)
set_option maxHeartbeats 1000000 in
theorem sp_X6_periodByFactors (c_q0_size : Int32) (f_q0_held : Nat → Int64) (hp0 : 0 ≤ c_q0_size.toInt) (hp1 : c_q0_size.toInt ≤ 12) : ok (F_X6_periodByFactors c_q0_size f_q0_held) (fun r => True) := by
  have l032 : (0 : Int32).toInt = 0 := by decide
  have l132 : (1 : Int32).toInt = 1 := by decide
  unfold F_X6_periodByFactors
  refine ok_L4 (fun y1_9 y2_9 y3_9 y4_9 => 0 ≤ y4_9.toInt) (fun y1_9 y2_9 y3_9 y4_9 => (c_q0_size.toInt - y4_9.toInt + 1).toNat) (fun ih9 y1_9 y2_9 y3_9 y4_9 hI1 hih1 => ?_) 20000 (1 : Int32) (0 : Int32) (0 : Int32) (0 : Int32) (show 0 ≤ (0 : Int32).toInt from by first | omega | assumption | trivial | (refine ⟨?_, ?_⟩ <;> first | omega | assumption | trivial | rfl) | (refine ⟨?_, ?_, ?_⟩ <;> first | omega | assumption | trivial | rfl) | (refine ⟨?_, ?_, ?_, ?_⟩ <;> first | omega | assumption | trivial | rfl) | (refine ⟨?_, ?_, ?_, ?_, ?_⟩ <;> first | omega | assumption | trivial | rfl) | (refine ⟨?_, ?_, ?_, ?_, ?_, ?_⟩ <;> first | omega | assumption | trivial | rfl) | (refine ⟨?_, ?_, ?_, ?_, ?_, ?_, ?_⟩ <;> first | omega | assumption | trivial | rfl) | (refine ⟨?_, ?_, ?_, ?_, ?_, ?_, ?_, ?_⟩ <;> first | omega | assumption | trivial | rfl)) (show (c_q0_size.toInt - (0 : Int32).toInt + 1).toNat < 20000 from by omega)
  have hI1 : 0 ≤ y4_9.toInt := hI1
  unfold S_X6_periodByFactors_9
  refine ok_le (fun c2 => ?_) (fun c2 => ?_)
  · refine ok_o (sp_X6_leastPowerOfTwo y2_9 ) (fun r94 h3 => ?_)
    exact ok_s trivial
  · refine ok_eq (fun c4 => ?_) (fun c4 => ?_)
    · refine ok_bx (fun x2_66 e_x2_66 => ?_)
      refine ok_o (sp_X3_at c_q0_size f_q0_held y4_9 (by first | omega | assumption | trivial) (by first | omega | assumption | trivial)) (fun r76 h5 => ?_)
      refine ok_o (sp_X6_periodByMultiplying r76 ) (fun r79 h6 => ?_)
      refine ok_o (sp_X6_leastMultiple y1_9 r79 ) (fun r82 h7 => ?_)
      refine ok_bx (fun x4_86 e_x4_86 => ?_)
      try have t_x4_86 : x4_86.toInt = y4_9.toInt + 1 := by rw [e_x4_86]; exact addT1 (show (1 : Int32).toInt = 1 from by decide) (by omega) (by omega)
      exact hih1 r82 x2_66 (1 : Int32) x4_86 (show 0 ≤ x4_86.toInt from by first | omega | assumption | trivial | (refine ⟨?_, ?_⟩ <;> first | omega | assumption | trivial | rfl) | (refine ⟨?_, ?_, ?_⟩ <;> first | omega | assumption | trivial | rfl) | (refine ⟨?_, ?_, ?_, ?_⟩ <;> first | omega | assumption | trivial | rfl) | (refine ⟨?_, ?_, ?_, ?_, ?_⟩ <;> first | omega | assumption | trivial | rfl) | (refine ⟨?_, ?_, ?_, ?_, ?_, ?_⟩ <;> first | omega | assumption | trivial | rfl) | (refine ⟨?_, ?_, ?_, ?_, ?_, ?_, ?_⟩ <;> first | omega | assumption | trivial | rfl) | (refine ⟨?_, ?_, ?_, ?_, ?_, ?_, ?_, ?_⟩ <;> first | omega | assumption | trivial | rfl)) (show (c_q0_size.toInt - x4_86.toInt + 1).toNat < (c_q0_size.toInt - y4_9.toInt + 1).toNat from by omega)
    · refine ok_o (sp_X3_at c_q0_size f_q0_held y4_9 (by first | omega | assumption | trivial) (by first | omega | assumption | trivial)) (fun r26 h8 => ?_)
      obtain ⟨w9, e_w9⟩ : ∃ w : Int32, w = y4_9 - (1 : Int32) := ⟨_, rfl⟩
      try have t_w9 : w9.toInt = y4_9.toInt - 1 := by rw [e_w9]; exact subT1 (show (1 : Int32).toInt = 1 from by decide) (by omega) (by omega)
      try rw [← e_w9]
      refine ok_o (sp_X3_at c_q0_size f_q0_held w9 (by first | omega | assumption | trivial) (by first | omega | assumption | trivial)) (fun r34 h10 => ?_)
      refine ok_eqL (fun c11 => ?_) (fun c11 => ?_)
      · refine ok_bx (fun x3_60 e_x3_60 => ?_)
        try have t_x3_60 : x3_60.toInt = y3_9.toInt + 1 := by rw [e_x3_60]; exact addT1 (show (1 : Int32).toInt = 1 from by decide) (by omega) (by omega)
        refine ok_bx (fun x2_66_2 e_x2_66_2 => ?_)
        refine ok_bx (fun x4_86_2 e_x4_86_2 => ?_)
        try have t_x4_86_2 : x4_86_2.toInt = y4_9.toInt + 1 := by rw [e_x4_86_2]; exact addT1 (show (1 : Int32).toInt = 1 from by decide) (by omega) (by omega)
        exact hih1 y1_9 x2_66_2 x3_60 x4_86_2 (show 0 ≤ x4_86_2.toInt from by first | omega | assumption | trivial | (refine ⟨?_, ?_⟩ <;> first | omega | assumption | trivial | rfl) | (refine ⟨?_, ?_, ?_⟩ <;> first | omega | assumption | trivial | rfl) | (refine ⟨?_, ?_, ?_, ?_⟩ <;> first | omega | assumption | trivial | rfl) | (refine ⟨?_, ?_, ?_, ?_, ?_⟩ <;> first | omega | assumption | trivial | rfl) | (refine ⟨?_, ?_, ?_, ?_, ?_, ?_⟩ <;> first | omega | assumption | trivial | rfl) | (refine ⟨?_, ?_, ?_, ?_, ?_, ?_, ?_⟩ <;> first | omega | assumption | trivial | rfl) | (refine ⟨?_, ?_, ?_, ?_, ?_, ?_, ?_, ?_⟩ <;> first | omega | assumption | trivial | rfl)) (show (c_q0_size.toInt - x4_86_2.toInt + 1).toNat < (c_q0_size.toInt - y4_9.toInt + 1).toNat from by omega)
      · refine ok_bx (fun x2_66_3 e_x2_66_3 => ?_)
        refine ok_o (sp_X3_at c_q0_size f_q0_held y4_9 (by first | omega | assumption | trivial) (by first | omega | assumption | trivial)) (fun r76_2 h12 => ?_)
        refine ok_o (sp_X6_periodByMultiplying r76_2 ) (fun r79_2 h13 => ?_)
        refine ok_o (sp_X6_leastMultiple y1_9 r79_2 ) (fun r82_2 h14 => ?_)
        refine ok_bx (fun x4_86_3 e_x4_86_3 => ?_)
        try have t_x4_86_3 : x4_86_3.toInt = y4_9.toInt + 1 := by rw [e_x4_86_3]; exact addT1 (show (1 : Int32).toInt = 1 from by decide) (by omega) (by omega)
        exact hih1 r82_2 x2_66_3 (1 : Int32) x4_86_3 (show 0 ≤ x4_86_3.toInt from by first | omega | assumption | trivial | (refine ⟨?_, ?_⟩ <;> first | omega | assumption | trivial | rfl) | (refine ⟨?_, ?_, ?_⟩ <;> first | omega | assumption | trivial | rfl) | (refine ⟨?_, ?_, ?_, ?_⟩ <;> first | omega | assumption | trivial | rfl) | (refine ⟨?_, ?_, ?_, ?_, ?_⟩ <;> first | omega | assumption | trivial | rfl) | (refine ⟨?_, ?_, ?_, ?_, ?_, ?_⟩ <;> first | omega | assumption | trivial | rfl) | (refine ⟨?_, ?_, ?_, ?_, ?_, ?_, ?_⟩ <;> first | omega | assumption | trivial | rfl) | (refine ⟨?_, ?_, ?_, ?_, ?_, ?_, ?_, ?_⟩ <;> first | omega | assumption | trivial | rfl)) (show (c_q0_size.toInt - x4_86_3.toInt + 1).toNat < (c_q0_size.toInt - y4_9.toInt + 1).toNat from by omega)
set_option maxHeartbeats 1000000 in
theorem sp_X7_periodByFactors (f_t_found_held : Nat → Int64) (p0 : Int64)  : ok (F_X7_periodByFactors f_t_found_held p0) (fun r => 0 ≤ r.2.1.toInt ∧ r.2.1.toInt ≤ 12) := by
  unfold F_X7_periodByFactors
  refine ok_o2 (sp_X1_findByTrying f_t_found_held p0 ) (fun c_t_found_size_9 f_t_found_held_9 h1 => ?_)
  have h1 : 0 ≤ c_t_found_size_9.toInt ∧ c_t_found_size_9.toInt ≤ 12 := h1
  refine ok_o (sp_X6_periodByFactors c_t_found_size_9 f_t_found_held_9 (by first | omega | assumption | trivial) (by first | omega | assumption | trivial)) (fun r16 h2 => ?_)
  exact ok_s (show 0 ≤ c_t_found_size_9.toInt ∧ c_t_found_size_9.toInt ≤ 12 from by first | omega | assumption | trivial | (refine ⟨?_, ?_⟩ <;> first | omega | assumption | trivial | rfl) | (refine ⟨?_, ?_, ?_⟩ <;> first | omega | assumption | trivial | rfl) | (refine ⟨?_, ?_, ?_, ?_⟩ <;> first | omega | assumption | trivial | rfl) | (refine ⟨?_, ?_, ?_, ?_, ?_⟩ <;> first | omega | assumption | trivial | rfl) | (refine ⟨?_, ?_, ?_, ?_, ?_, ?_⟩ <;> first | omega | assumption | trivial | rfl) | (refine ⟨?_, ?_, ?_, ?_, ?_, ?_, ?_⟩ <;> first | omega | assumption | trivial | rfl) | (refine ⟨?_, ?_, ?_, ?_, ?_, ?_, ?_, ?_⟩ <;> first | omega | assumption | trivial | rfl))
set_option maxHeartbeats 1000000 in
theorem sp_X7_period (f_t_forms : Nat → Int64) (c_t_found_size : Int32) (f_t_found_held : Nat → Int64) (p0 : Int32) (p1 : Int32) (hp0 : 0 ≤ c_t_found_size.toInt) (hp1 : c_t_found_size.toInt ≤ 12) : ok (F_X7_period f_t_forms c_t_found_size f_t_found_held p0 p1) (fun r => (r.1 = 0 ∨ r.1 = 1 ∨ r.1 = 2) ∧ 0 ≤ r.2.2.1.toInt ∧ r.2.2.1.toInt ≤ 12) := by
  have lm932 : (-9 : Int32).toInt = -9 := by decide
  have l032 : (0 : Int32).toInt = 0 := by decide
  have l132 : (1 : Int32).toInt = 1 := by decide
  have l232 : (2 : Int32).toInt = 2 := by decide
  unfold F_X7_period
  refine ok_o (sp_X7_testForm p0 ) (fun xc1 h1 => ?_)
  have h1 : (xc1 = 0 ∧ 0 ≤ p0.toInt ∧ p0.toInt ≤ 5) ∨ xc1 = 1 := h1
  refine ok_i (fun c2 => ?_) (fun c2 => ?_)
  · refine ok_o (sp_X7_testRange p1 (0 : Int32) (2 : Int32) ) (fun xc7 h3 => ?_)
    have h3 : (xc7 = 0 ∧ (0 : Int32).toInt ≤ p1.toInt ∧ p1.toInt ≤ (2 : Int32).toInt) ∨ (xc7 = 2 ∧ (p1.toInt < (0 : Int32).toInt ∨ (2 : Int32).toInt < p1.toInt)) := h3
    refine ok_i (fun c4 => ?_) (fun c4 => ?_)
    · refine ok_c (ixo (by omega) (by omega)) ?_
      refine ok_o (sp_X6_isWheel (f_t_forms p0.toNatClampNeg) ) (fun r16 h5 => ?_)
      have h5 : r16.toInt = 0 ∨ r16.toInt = 1 := h5
      refine ok_eq (fun c6 => ?_) (fun c6 => ?_)
      · exact ok_s (show (0 = 0 ∨ 0 = 1 ∨ 0 = 2) ∧ 0 ≤ c_t_found_size.toInt ∧ c_t_found_size.toInt ≤ 12 from by first | omega | assumption | trivial | (refine ⟨?_, ?_⟩ <;> first | omega | assumption | trivial | rfl) | (refine ⟨?_, ?_, ?_⟩ <;> first | omega | assumption | trivial | rfl) | (refine ⟨?_, ?_, ?_, ?_⟩ <;> first | omega | assumption | trivial | rfl) | (refine ⟨?_, ?_, ?_, ?_, ?_⟩ <;> first | omega | assumption | trivial | rfl) | (refine ⟨?_, ?_, ?_, ?_, ?_, ?_⟩ <;> first | omega | assumption | trivial | rfl) | (refine ⟨?_, ?_, ?_, ?_, ?_, ?_, ?_⟩ <;> first | omega | assumption | trivial | rfl) | (refine ⟨?_, ?_, ?_, ?_, ?_, ?_, ?_, ?_⟩ <;> first | omega | assumption | trivial | rfl))
      · refine ok_eq (fun c7 => ?_) (fun c7 => ?_)
        · refine ok_c (ixo (by omega) (by omega)) ?_
          refine ok_o (sp_X6_periodByMultiplying (f_t_forms p0.toNatClampNeg) ) (fun r35 h8 => ?_)
          exact ok_s (show (0 = 0 ∨ 0 = 1 ∨ 0 = 2) ∧ 0 ≤ c_t_found_size.toInt ∧ c_t_found_size.toInt ≤ 12 from by first | omega | assumption | trivial | (refine ⟨?_, ?_⟩ <;> first | omega | assumption | trivial | rfl) | (refine ⟨?_, ?_, ?_⟩ <;> first | omega | assumption | trivial | rfl) | (refine ⟨?_, ?_, ?_, ?_⟩ <;> first | omega | assumption | trivial | rfl) | (refine ⟨?_, ?_, ?_, ?_, ?_⟩ <;> first | omega | assumption | trivial | rfl) | (refine ⟨?_, ?_, ?_, ?_, ?_, ?_⟩ <;> first | omega | assumption | trivial | rfl) | (refine ⟨?_, ?_, ?_, ?_, ?_, ?_, ?_⟩ <;> first | omega | assumption | trivial | rfl) | (refine ⟨?_, ?_, ?_, ?_, ?_, ?_, ?_, ?_⟩ <;> first | omega | assumption | trivial | rfl))
        · refine ok_eq (fun c9 => ?_) (fun c9 => ?_)
          · refine ok_c (ixo (by omega) (by omega)) ?_
            refine ok_o (sp_X6_periodBySteps (f_t_forms p0.toNatClampNeg) ) (fun r50 h10 => ?_)
            exact ok_s (show (0 = 0 ∨ 0 = 1 ∨ 0 = 2) ∧ 0 ≤ c_t_found_size.toInt ∧ c_t_found_size.toInt ≤ 12 from by first | omega | assumption | trivial | (refine ⟨?_, ?_⟩ <;> first | omega | assumption | trivial | rfl) | (refine ⟨?_, ?_, ?_⟩ <;> first | omega | assumption | trivial | rfl) | (refine ⟨?_, ?_, ?_, ?_⟩ <;> first | omega | assumption | trivial | rfl) | (refine ⟨?_, ?_, ?_, ?_, ?_⟩ <;> first | omega | assumption | trivial | rfl) | (refine ⟨?_, ?_, ?_, ?_, ?_, ?_⟩ <;> first | omega | assumption | trivial | rfl) | (refine ⟨?_, ?_, ?_, ?_, ?_, ?_, ?_⟩ <;> first | omega | assumption | trivial | rfl) | (refine ⟨?_, ?_, ?_, ?_, ?_, ?_, ?_, ?_⟩ <;> first | omega | assumption | trivial | rfl))
          · refine ok_c (ixo (by omega) (by omega)) ?_
            refine ok_o3 (sp_X7_periodByFactors f_t_found_held (f_t_forms p0.toNatClampNeg) ) (fun r63 c_t_found_size_63 f_t_found_held_63 h11 => ?_)
            have h11 : 0 ≤ c_t_found_size_63.toInt ∧ c_t_found_size_63.toInt ≤ 12 := h11
            exact ok_s (show (0 = 0 ∨ 0 = 1 ∨ 0 = 2) ∧ 0 ≤ c_t_found_size_63.toInt ∧ c_t_found_size_63.toInt ≤ 12 from by first | omega | assumption | trivial | (refine ⟨?_, ?_⟩ <;> first | omega | assumption | trivial | rfl) | (refine ⟨?_, ?_, ?_⟩ <;> first | omega | assumption | trivial | rfl) | (refine ⟨?_, ?_, ?_, ?_⟩ <;> first | omega | assumption | trivial | rfl) | (refine ⟨?_, ?_, ?_, ?_, ?_⟩ <;> first | omega | assumption | trivial | rfl) | (refine ⟨?_, ?_, ?_, ?_, ?_, ?_⟩ <;> first | omega | assumption | trivial | rfl) | (refine ⟨?_, ?_, ?_, ?_, ?_, ?_, ?_⟩ <;> first | omega | assumption | trivial | rfl) | (refine ⟨?_, ?_, ?_, ?_, ?_, ?_, ?_, ?_⟩ <;> first | omega | assumption | trivial | rfl))
    · exact ok_s (show (xc7 = 0 ∨ xc7 = 1 ∨ xc7 = 2) ∧ 0 ≤ c_t_found_size.toInt ∧ c_t_found_size.toInt ≤ 12 from by first | omega | assumption | trivial | (refine ⟨?_, ?_⟩ <;> first | omega | assumption | trivial | rfl) | (refine ⟨?_, ?_, ?_⟩ <;> first | omega | assumption | trivial | rfl) | (refine ⟨?_, ?_, ?_, ?_⟩ <;> first | omega | assumption | trivial | rfl) | (refine ⟨?_, ?_, ?_, ?_, ?_⟩ <;> first | omega | assumption | trivial | rfl) | (refine ⟨?_, ?_, ?_, ?_, ?_, ?_⟩ <;> first | omega | assumption | trivial | rfl) | (refine ⟨?_, ?_, ?_, ?_, ?_, ?_, ?_⟩ <;> first | omega | assumption | trivial | rfl) | (refine ⟨?_, ?_, ?_, ?_, ?_, ?_, ?_, ?_⟩ <;> first | omega | assumption | trivial | rfl))
  · exact ok_s (show (xc1 = 0 ∨ xc1 = 1 ∨ xc1 = 2) ∧ 0 ≤ c_t_found_size.toInt ∧ c_t_found_size.toInt ≤ 12 from by first | omega | assumption | trivial | (refine ⟨?_, ?_⟩ <;> first | omega | assumption | trivial | rfl) | (refine ⟨?_, ?_, ?_⟩ <;> first | omega | assumption | trivial | rfl) | (refine ⟨?_, ?_, ?_, ?_⟩ <;> first | omega | assumption | trivial | rfl) | (refine ⟨?_, ?_, ?_, ?_, ?_⟩ <;> first | omega | assumption | trivial | rfl) | (refine ⟨?_, ?_, ?_, ?_, ?_, ?_⟩ <;> first | omega | assumption | trivial | rfl) | (refine ⟨?_, ?_, ?_, ?_, ?_, ?_, ?_⟩ <;> first | omega | assumption | trivial | rfl) | (refine ⟨?_, ?_, ?_, ?_, ?_, ?_, ?_, ?_⟩ <;> first | omega | assumption | trivial | rfl))
set_option maxHeartbeats 1000000 in
theorem sp_X2_isByRising (p0 : Int64) (hp0 : DG p0 ≤ 10) : ok (F_X2_isByRising p0) (fun r => r.toInt = 0 ∨ r.toInt = 1) := by
  have l032 : (0 : Int32).toInt = 0 := by decide
  have l132 : (1 : Int32).toInt = 1 := by decide
  have l164 : (1 : Int64).toInt = 1 := by decide
  have l232 : (2 : Int32).toInt = 2 := by decide
  have l264 : (2 : Int64).toInt = 2 := by decide
  unfold F_X2_isByRising
  refine ok_o (sp_X0_degreeOf p0 ) (fun r1 h1 => ?_)
  have h1 : r1.toInt = DG p0 ∧ -1 ≤ r1.toInt ∧ r1.toInt ≤ 63 := h1
  refine ok_lt (fun c2 => ?_) (fun c2 => ?_)
  · exact ok_s (show (0 : Int32).toInt = 0 ∨ (0 : Int32).toInt = 1 from by first | omega | assumption | trivial | (refine ⟨?_, ?_⟩ <;> first | omega | assumption | trivial | rfl) | (refine ⟨?_, ?_, ?_⟩ <;> first | omega | assumption | trivial | rfl) | (refine ⟨?_, ?_, ?_, ?_⟩ <;> first | omega | assumption | trivial | rfl) | (refine ⟨?_, ?_, ?_, ?_, ?_⟩ <;> first | omega | assumption | trivial | rfl) | (refine ⟨?_, ?_, ?_, ?_, ?_, ?_⟩ <;> first | omega | assumption | trivial | rfl) | (refine ⟨?_, ?_, ?_, ?_, ?_, ?_, ?_⟩ <;> first | omega | assumption | trivial | rfl) | (refine ⟨?_, ?_, ?_, ?_, ?_, ?_, ?_, ?_⟩ <;> first | omega | assumption | trivial | rfl))
  · refine ok_o (sp_X0_risenRest r1 p0 (by first | omega | assumption | trivial) (by first | omega | assumption | trivial)) (fun r13 h3 => ?_)
    refine ok_o (sp_X0_goesInto p0 (r13 ^^^ (2 : Int64)) ) (fun r20 h4 => ?_)
    have h4 : r20.toInt = 0 ∨ r20.toInt = 1 := h4
    refine ok_eq (fun c5 => ?_) (fun c5 => ?_)
    · exact ok_s (show (0 : Int32).toInt = 0 ∨ (0 : Int32).toInt = 1 from by first | omega | assumption | trivial | (refine ⟨?_, ?_⟩ <;> first | omega | assumption | trivial | rfl) | (refine ⟨?_, ?_, ?_⟩ <;> first | omega | assumption | trivial | rfl) | (refine ⟨?_, ?_, ?_, ?_⟩ <;> first | omega | assumption | trivial | rfl) | (refine ⟨?_, ?_, ?_, ?_, ?_⟩ <;> first | omega | assumption | trivial | rfl) | (refine ⟨?_, ?_, ?_, ?_, ?_, ?_⟩ <;> first | omega | assumption | trivial | rfl) | (refine ⟨?_, ?_, ?_, ?_, ?_, ?_, ?_⟩ <;> first | omega | assumption | trivial | rfl) | (refine ⟨?_, ?_, ?_, ?_, ?_, ?_, ?_, ?_⟩ <;> first | omega | assumption | trivial | rfl))
    · refine ok_L1 (fun y3_30 => 2 ≤ y3_30.toInt) (fun y3_30 => (r1.toInt - y3_30.toInt + 1).toNat) (fun ih30 y3_30 hI6 hih6 => ?_) 20000 (2 : Int32) (show 2 ≤ (2 : Int32).toInt from by first | omega | assumption | trivial | (refine ⟨?_, ?_⟩ <;> first | omega | assumption | trivial | rfl) | (refine ⟨?_, ?_, ?_⟩ <;> first | omega | assumption | trivial | rfl) | (refine ⟨?_, ?_, ?_, ?_⟩ <;> first | omega | assumption | trivial | rfl) | (refine ⟨?_, ?_, ?_, ?_, ?_⟩ <;> first | omega | assumption | trivial | rfl) | (refine ⟨?_, ?_, ?_, ?_, ?_, ?_⟩ <;> first | omega | assumption | trivial | rfl) | (refine ⟨?_, ?_, ?_, ?_, ?_, ?_, ?_⟩ <;> first | omega | assumption | trivial | rfl) | (refine ⟨?_, ?_, ?_, ?_, ?_, ?_, ?_, ?_⟩ <;> first | omega | assumption | trivial | rfl)) (show (r1.toInt - (2 : Int32).toInt + 1).toNat < 20000 from by omega)
      have hI6 : 2 ≤ y3_30.toInt := hI6
      unfold S_X2_isByRising_30
      refine ok_lt (fun c7 => ?_) (fun c7 => ?_)
      · exact ok_s (show (1 : Int32).toInt = 0 ∨ (1 : Int32).toInt = 1 from by first | omega | assumption | trivial | (refine ⟨?_, ?_⟩ <;> first | omega | assumption | trivial | rfl) | (refine ⟨?_, ?_, ?_⟩ <;> first | omega | assumption | trivial | rfl) | (refine ⟨?_, ?_, ?_, ?_⟩ <;> first | omega | assumption | trivial | rfl) | (refine ⟨?_, ?_, ?_, ?_, ?_⟩ <;> first | omega | assumption | trivial | rfl) | (refine ⟨?_, ?_, ?_, ?_, ?_, ?_⟩ <;> first | omega | assumption | trivial | rfl) | (refine ⟨?_, ?_, ?_, ?_, ?_, ?_, ?_⟩ <;> first | omega | assumption | trivial | rfl) | (refine ⟨?_, ?_, ?_, ?_, ?_, ?_, ?_, ?_⟩ <;> first | omega | assumption | trivial | rfl))
      · refine ok_c (nz_of (by omega)) ?_
        refine ok_i (fun c8 => ?_) (fun c8 => ?_)
        · refine ok_o (sp_X2_isPrimeNumber y3_30 (by first | omega | assumption | trivial) (by first | omega | assumption | trivial)) (fun r42 h9 => ?_)
          have h9 : r42.toInt = 0 ∨ r42.toInt = 1 := h9
          refine ok_eq (fun c10 => ?_) (fun c10 => ?_)
          · refine ok_bx (fun x3_70 e_x3_70 => ?_)
            try have t_x3_70 : x3_70.toInt = y3_30.toInt + 1 := by rw [e_x3_70]; exact addT1 (show (1 : Int32).toInt = 1 from by decide) (by omega) (by omega)
            exact hih6 x3_70 (show 2 ≤ x3_70.toInt from by first | omega | assumption | trivial | (refine ⟨?_, ?_⟩ <;> first | omega | assumption | trivial | rfl) | (refine ⟨?_, ?_, ?_⟩ <;> first | omega | assumption | trivial | rfl) | (refine ⟨?_, ?_, ?_, ?_⟩ <;> first | omega | assumption | trivial | rfl) | (refine ⟨?_, ?_, ?_, ?_, ?_⟩ <;> first | omega | assumption | trivial | rfl) | (refine ⟨?_, ?_, ?_, ?_, ?_, ?_⟩ <;> first | omega | assumption | trivial | rfl) | (refine ⟨?_, ?_, ?_, ?_, ?_, ?_, ?_⟩ <;> first | omega | assumption | trivial | rfl) | (refine ⟨?_, ?_, ?_, ?_, ?_, ?_, ?_, ?_⟩ <;> first | omega | assumption | trivial | rfl)) (show (r1.toInt - x3_70.toInt + 1).toNat < (r1.toInt - y3_30.toInt + 1).toNat from by omega)
          · refine ok_c (nz_of (by omega)) ?_
            obtain ⟨hb1, hb2⟩ := div_b (a := r1) (b := y3_30) (by omega) (by omega) (by omega) (by omega)
            refine ok_o (sp_X0_risenRest (r1 / y3_30) p0 (by first | omega | assumption | trivial) (by first | omega | assumption | trivial)) (fun r53 h11 => ?_)
            refine ok_o (sp_X0_greatestBoth p0 (r53 ^^^ (2 : Int64)) ) (fun r60 h12 => ?_)
            refine ok_eqL (fun c13 => ?_) (fun c13 => ?_)
            · refine ok_bx (fun x3_70_2 e_x3_70_2 => ?_)
              try have t_x3_70_2 : x3_70_2.toInt = y3_30.toInt + 1 := by rw [e_x3_70_2]; exact addT1 (show (1 : Int32).toInt = 1 from by decide) (by omega) (by omega)
              exact hih6 x3_70_2 (show 2 ≤ x3_70_2.toInt from by first | omega | assumption | trivial | (refine ⟨?_, ?_⟩ <;> first | omega | assumption | trivial | rfl) | (refine ⟨?_, ?_, ?_⟩ <;> first | omega | assumption | trivial | rfl) | (refine ⟨?_, ?_, ?_, ?_⟩ <;> first | omega | assumption | trivial | rfl) | (refine ⟨?_, ?_, ?_, ?_, ?_⟩ <;> first | omega | assumption | trivial | rfl) | (refine ⟨?_, ?_, ?_, ?_, ?_, ?_⟩ <;> first | omega | assumption | trivial | rfl) | (refine ⟨?_, ?_, ?_, ?_, ?_, ?_, ?_⟩ <;> first | omega | assumption | trivial | rfl) | (refine ⟨?_, ?_, ?_, ?_, ?_, ?_, ?_, ?_⟩ <;> first | omega | assumption | trivial | rfl)) (show (r1.toInt - x3_70_2.toInt + 1).toNat < (r1.toInt - y3_30.toInt + 1).toNat from by omega)
            · exact ok_s (show (0 : Int32).toInt = 0 ∨ (0 : Int32).toInt = 1 from by first | omega | assumption | trivial | (refine ⟨?_, ?_⟩ <;> first | omega | assumption | trivial | rfl) | (refine ⟨?_, ?_, ?_⟩ <;> first | omega | assumption | trivial | rfl) | (refine ⟨?_, ?_, ?_, ?_⟩ <;> first | omega | assumption | trivial | rfl) | (refine ⟨?_, ?_, ?_, ?_, ?_⟩ <;> first | omega | assumption | trivial | rfl) | (refine ⟨?_, ?_, ?_, ?_, ?_, ?_⟩ <;> first | omega | assumption | trivial | rfl) | (refine ⟨?_, ?_, ?_, ?_, ?_, ?_, ?_⟩ <;> first | omega | assumption | trivial | rfl) | (refine ⟨?_, ?_, ?_, ?_, ?_, ?_, ?_, ?_⟩ <;> first | omega | assumption | trivial | rfl))
        · refine ok_bx (fun x3_70_3 e_x3_70_3 => ?_)
          try have t_x3_70_3 : x3_70_3.toInt = y3_30.toInt + 1 := by rw [e_x3_70_3]; exact addT1 (show (1 : Int32).toInt = 1 from by decide) (by omega) (by omega)
          exact hih6 x3_70_3 (show 2 ≤ x3_70_3.toInt from by first | omega | assumption | trivial | (refine ⟨?_, ?_⟩ <;> first | omega | assumption | trivial | rfl) | (refine ⟨?_, ?_, ?_⟩ <;> first | omega | assumption | trivial | rfl) | (refine ⟨?_, ?_, ?_, ?_⟩ <;> first | omega | assumption | trivial | rfl) | (refine ⟨?_, ?_, ?_, ?_, ?_⟩ <;> first | omega | assumption | trivial | rfl) | (refine ⟨?_, ?_, ?_, ?_, ?_, ?_⟩ <;> first | omega | assumption | trivial | rfl) | (refine ⟨?_, ?_, ?_, ?_, ?_, ?_, ?_⟩ <;> first | omega | assumption | trivial | rfl) | (refine ⟨?_, ?_, ?_, ?_, ?_, ?_, ?_, ?_⟩ <;> first | omega | assumption | trivial | rfl)) (show (r1.toInt - x3_70_3.toInt + 1).toNat < (r1.toInt - y3_30.toInt + 1).toNat from by omega)
set_option maxHeartbeats 1000000 in
theorem sp_X7_isPrime (f_t_forms : Nat → Int64) (p0 : Int32) (p1 : Int32)  : ok (F_X7_isPrime f_t_forms p0 p1) (fun r => r.1 = 0 ∨ r.1 = 1 ∨ r.1 = 2) := by
  have lm932 : (-9 : Int32).toInt = -9 := by decide
  have l032 : (0 : Int32).toInt = 0 := by decide
  have l132 : (1 : Int32).toInt = 1 := by decide
  have l1032 : (10 : Int32).toInt = 10 := by decide
  unfold F_X7_isPrime
  refine ok_o (sp_X7_testForm p0 ) (fun xc1 h1 => ?_)
  have h1 : (xc1 = 0 ∧ 0 ≤ p0.toInt ∧ p0.toInt ≤ 5) ∨ xc1 = 1 := h1
  refine ok_i (fun c2 => ?_) (fun c2 => ?_)
  · refine ok_o (sp_X7_testRange p1 (0 : Int32) (1 : Int32) ) (fun xc7 h3 => ?_)
    have h3 : (xc7 = 0 ∧ (0 : Int32).toInt ≤ p1.toInt ∧ p1.toInt ≤ (1 : Int32).toInt) ∨ (xc7 = 2 ∧ (p1.toInt < (0 : Int32).toInt ∨ (1 : Int32).toInt < p1.toInt)) := h3
    refine ok_i (fun c4 => ?_) (fun c4 => ?_)
    · refine ok_c (ixo (by omega) (by omega)) ?_
      refine ok_o (sp_X0_degreeOf (f_t_forms p0.toNatClampNeg) ) (fun r16 h5 => ?_)
      have h5 : r16.toInt = DG (f_t_forms p0.toNatClampNeg) ∧ -1 ≤ r16.toInt ∧ r16.toInt ≤ 63 := h5
      refine ok_le (fun c6 => ?_) (fun c6 => ?_)
      · refine ok_eq (fun c7 => ?_) (fun c7 => ?_)
        · refine ok_c (ixo (by omega) (by omega)) ?_
          refine ok_o (sp_X2_isByTrying (f_t_forms p0.toNatClampNeg) (by first | omega | assumption | trivial)) (fun r37 h8 => ?_)
          have h8 : r37.toInt = 0 ∨ r37.toInt = 1 := h8
          refine ok_eq (fun c9 => ?_) (fun c9 => ?_)
          · exact ok_s (show 0 = 0 ∨ 0 = 1 ∨ 0 = 2 from by first | omega | assumption | trivial | (refine ⟨?_, ?_⟩ <;> first | omega | assumption | trivial | rfl) | (refine ⟨?_, ?_, ?_⟩ <;> first | omega | assumption | trivial | rfl) | (refine ⟨?_, ?_, ?_, ?_⟩ <;> first | omega | assumption | trivial | rfl) | (refine ⟨?_, ?_, ?_, ?_, ?_⟩ <;> first | omega | assumption | trivial | rfl) | (refine ⟨?_, ?_, ?_, ?_, ?_, ?_⟩ <;> first | omega | assumption | trivial | rfl) | (refine ⟨?_, ?_, ?_, ?_, ?_, ?_, ?_⟩ <;> first | omega | assumption | trivial | rfl) | (refine ⟨?_, ?_, ?_, ?_, ?_, ?_, ?_, ?_⟩ <;> first | omega | assumption | trivial | rfl))
          · exact ok_s (show 0 = 0 ∨ 0 = 1 ∨ 0 = 2 from by first | omega | assumption | trivial | (refine ⟨?_, ?_⟩ <;> first | omega | assumption | trivial | rfl) | (refine ⟨?_, ?_, ?_⟩ <;> first | omega | assumption | trivial | rfl) | (refine ⟨?_, ?_, ?_, ?_⟩ <;> first | omega | assumption | trivial | rfl) | (refine ⟨?_, ?_, ?_, ?_, ?_⟩ <;> first | omega | assumption | trivial | rfl) | (refine ⟨?_, ?_, ?_, ?_, ?_, ?_⟩ <;> first | omega | assumption | trivial | rfl) | (refine ⟨?_, ?_, ?_, ?_, ?_, ?_, ?_⟩ <;> first | omega | assumption | trivial | rfl) | (refine ⟨?_, ?_, ?_, ?_, ?_, ?_, ?_, ?_⟩ <;> first | omega | assumption | trivial | rfl))
        · refine ok_c (ixo (by omega) (by omega)) ?_
          refine ok_o (sp_X2_isByRising (f_t_forms p0.toNatClampNeg) (by first | omega | assumption | trivial)) (fun r49 h10 => ?_)
          have h10 : r49.toInt = 0 ∨ r49.toInt = 1 := h10
          refine ok_eq (fun c11 => ?_) (fun c11 => ?_)
          · exact ok_s (show 0 = 0 ∨ 0 = 1 ∨ 0 = 2 from by first | omega | assumption | trivial | (refine ⟨?_, ?_⟩ <;> first | omega | assumption | trivial | rfl) | (refine ⟨?_, ?_, ?_⟩ <;> first | omega | assumption | trivial | rfl) | (refine ⟨?_, ?_, ?_, ?_⟩ <;> first | omega | assumption | trivial | rfl) | (refine ⟨?_, ?_, ?_, ?_, ?_⟩ <;> first | omega | assumption | trivial | rfl) | (refine ⟨?_, ?_, ?_, ?_, ?_, ?_⟩ <;> first | omega | assumption | trivial | rfl) | (refine ⟨?_, ?_, ?_, ?_, ?_, ?_, ?_⟩ <;> first | omega | assumption | trivial | rfl) | (refine ⟨?_, ?_, ?_, ?_, ?_, ?_, ?_, ?_⟩ <;> first | omega | assumption | trivial | rfl))
          · exact ok_s (show 0 = 0 ∨ 0 = 1 ∨ 0 = 2 from by first | omega | assumption | trivial | (refine ⟨?_, ?_⟩ <;> first | omega | assumption | trivial | rfl) | (refine ⟨?_, ?_, ?_⟩ <;> first | omega | assumption | trivial | rfl) | (refine ⟨?_, ?_, ?_, ?_⟩ <;> first | omega | assumption | trivial | rfl) | (refine ⟨?_, ?_, ?_, ?_, ?_⟩ <;> first | omega | assumption | trivial | rfl) | (refine ⟨?_, ?_, ?_, ?_, ?_, ?_⟩ <;> first | omega | assumption | trivial | rfl) | (refine ⟨?_, ?_, ?_, ?_, ?_, ?_, ?_⟩ <;> first | omega | assumption | trivial | rfl) | (refine ⟨?_, ?_, ?_, ?_, ?_, ?_, ?_, ?_⟩ <;> first | omega | assumption | trivial | rfl))
      · exact ok_s (show 0 = 0 ∨ 0 = 1 ∨ 0 = 2 from by first | omega | assumption | trivial | (refine ⟨?_, ?_⟩ <;> first | omega | assumption | trivial | rfl) | (refine ⟨?_, ?_, ?_⟩ <;> first | omega | assumption | trivial | rfl) | (refine ⟨?_, ?_, ?_, ?_⟩ <;> first | omega | assumption | trivial | rfl) | (refine ⟨?_, ?_, ?_, ?_, ?_⟩ <;> first | omega | assumption | trivial | rfl) | (refine ⟨?_, ?_, ?_, ?_, ?_, ?_⟩ <;> first | omega | assumption | trivial | rfl) | (refine ⟨?_, ?_, ?_, ?_, ?_, ?_, ?_⟩ <;> first | omega | assumption | trivial | rfl) | (refine ⟨?_, ?_, ?_, ?_, ?_, ?_, ?_, ?_⟩ <;> first | omega | assumption | trivial | rfl))
    · exact ok_s (show xc7 = 0 ∨ xc7 = 1 ∨ xc7 = 2 from by first | omega | assumption | trivial | (refine ⟨?_, ?_⟩ <;> first | omega | assumption | trivial | rfl) | (refine ⟨?_, ?_, ?_⟩ <;> first | omega | assumption | trivial | rfl) | (refine ⟨?_, ?_, ?_, ?_⟩ <;> first | omega | assumption | trivial | rfl) | (refine ⟨?_, ?_, ?_, ?_, ?_⟩ <;> first | omega | assumption | trivial | rfl) | (refine ⟨?_, ?_, ?_, ?_, ?_, ?_⟩ <;> first | omega | assumption | trivial | rfl) | (refine ⟨?_, ?_, ?_, ?_, ?_, ?_, ?_⟩ <;> first | omega | assumption | trivial | rfl) | (refine ⟨?_, ?_, ?_, ?_, ?_, ?_, ?_, ?_⟩ <;> first | omega | assumption | trivial | rfl))
  · exact ok_s (show xc1 = 0 ∨ xc1 = 1 ∨ xc1 = 2 from by first | omega | assumption | trivial | (refine ⟨?_, ?_⟩ <;> first | omega | assumption | trivial | rfl) | (refine ⟨?_, ?_, ?_⟩ <;> first | omega | assumption | trivial | rfl) | (refine ⟨?_, ?_, ?_, ?_⟩ <;> first | omega | assumption | trivial | rfl) | (refine ⟨?_, ?_, ?_, ?_, ?_⟩ <;> first | omega | assumption | trivial | rfl) | (refine ⟨?_, ?_, ?_, ?_, ?_, ?_⟩ <;> first | omega | assumption | trivial | rfl) | (refine ⟨?_, ?_, ?_, ?_, ?_, ?_, ?_⟩ <;> first | omega | assumption | trivial | rfl) | (refine ⟨?_, ?_, ?_, ?_, ?_, ?_, ?_, ?_⟩ <;> first | omega | assumption | trivial | rfl))
set_option maxHeartbeats 1000000 in
theorem sp_X2_codeOf (p0 : Int32) (p1 : Int32) (hp0 : 1 ≤ p0.toInt) (hp1 : p0.toInt ≤ 6) : ok (F_X2_codeOf p0 p1) (fun r => True) := by
  have lm132 : (-1 : Int32).toInt = -1 := by decide
  have l032 : (0 : Int32).toInt = 0 := by decide
  have l132 : (1 : Int32).toInt = 1 := by decide
  have l232 : (2 : Int32).toInt = 2 := by decide
  have hs := sh32 (x := p0) (by omega) (by omega)
  unfold F_X2_codeOf
  refine ok_bx (fun x3_5 e_x3_5 => ?_)
  have t_x3_5 : 1 ≤ x3_5.toInt ∧ x3_5.toInt ≤ 64 := by rw [e_x3_5]; exact ⟨hs.1, hs.2.1⟩
  refine ok_L2 (fun y2_6 y3_6 => 1 ≤ y3_6.toInt ∧ y3_6.toInt ≤ 128) (fun y2_6 y3_6 => (128 - y3_6.toInt + 1).toNat) (fun ih6 y2_6 y3_6 hI1 hih1 => ?_) 20000 (0 : Int32) x3_5 (show 1 ≤ x3_5.toInt ∧ x3_5.toInt ≤ 128 from by first | omega | assumption | trivial | (refine ⟨?_, ?_⟩ <;> first | omega | assumption | trivial | rfl) | (refine ⟨?_, ?_, ?_⟩ <;> first | omega | assumption | trivial | rfl) | (refine ⟨?_, ?_, ?_, ?_⟩ <;> first | omega | assumption | trivial | rfl) | (refine ⟨?_, ?_, ?_, ?_, ?_⟩ <;> first | omega | assumption | trivial | rfl) | (refine ⟨?_, ?_, ?_, ?_, ?_, ?_⟩ <;> first | omega | assumption | trivial | rfl) | (refine ⟨?_, ?_, ?_, ?_, ?_, ?_, ?_⟩ <;> first | omega | assumption | trivial | rfl) | (refine ⟨?_, ?_, ?_, ?_, ?_, ?_, ?_, ?_⟩ <;> first | omega | assumption | trivial | rfl)) (show (128 - x3_5.toInt + 1).toNat < 20000 from by omega)
  have hI1 : 1 ≤ y3_6.toInt ∧ y3_6.toInt ≤ 128 := hI1
  unfold S_X2_codeOf_6
  refine ok_le (fun c2 => ?_) (fun c2 => ?_)
  · exact ok_s trivial
  · have hd := DG_i (x := y3_6) (by omega) (by omega)
    refine ok_o (sp_X2_isByTrying y3_6.toInt64 (by first | omega | assumption | trivial)) (fun r15 h3 => ?_)
    have h3 : r15.toInt = 0 ∨ r15.toInt = 1 := h3
    refine ok_eq (fun c4 => ?_) (fun c4 => ?_)
    · refine ok_bx (fun x3_31 e_x3_31 => ?_)
      try have t_x3_31 : x3_31.toInt = y3_6.toInt + 1 := by rw [e_x3_31]; exact addT1 (show (1 : Int32).toInt = 1 from by decide) (by omega) (by omega)
      exact hih1 y2_6 x3_31 (show 1 ≤ x3_31.toInt ∧ x3_31.toInt ≤ 128 from by first | omega | assumption | trivial | (refine ⟨?_, ?_⟩ <;> first | omega | assumption | trivial | rfl) | (refine ⟨?_, ?_, ?_⟩ <;> first | omega | assumption | trivial | rfl) | (refine ⟨?_, ?_, ?_, ?_⟩ <;> first | omega | assumption | trivial | rfl) | (refine ⟨?_, ?_, ?_, ?_, ?_⟩ <;> first | omega | assumption | trivial | rfl) | (refine ⟨?_, ?_, ?_, ?_, ?_, ?_⟩ <;> first | omega | assumption | trivial | rfl) | (refine ⟨?_, ?_, ?_, ?_, ?_, ?_, ?_⟩ <;> first | omega | assumption | trivial | rfl) | (refine ⟨?_, ?_, ?_, ?_, ?_, ?_, ?_, ?_⟩ <;> first | omega | assumption | trivial | rfl)) (show (128 - x3_31.toInt + 1).toNat < (128 - y3_6.toInt + 1).toNat from by omega)
    · refine ok_eq (fun c5 => ?_) (fun c5 => ?_)
      · exact ok_s trivial
      · refine ok_bx (fun x2_28 e_x2_28 => ?_)
        try have t_x2_28 : x2_28.toInt = y2_6.toInt + 1 := by rw [e_x2_28]; exact addT1 (show (1 : Int32).toInt = 1 from by decide) (by omega) (by omega)
        refine ok_bx (fun x3_31_2 e_x3_31_2 => ?_)
        try have t_x3_31_2 : x3_31_2.toInt = y3_6.toInt + 1 := by rw [e_x3_31_2]; exact addT1 (show (1 : Int32).toInt = 1 from by decide) (by omega) (by omega)
        exact hih1 x2_28 x3_31_2 (show 1 ≤ x3_31_2.toInt ∧ x3_31_2.toInt ≤ 128 from by first | omega | assumption | trivial | (refine ⟨?_, ?_⟩ <;> first | omega | assumption | trivial | rfl) | (refine ⟨?_, ?_, ?_⟩ <;> first | omega | assumption | trivial | rfl) | (refine ⟨?_, ?_, ?_, ?_⟩ <;> first | omega | assumption | trivial | rfl) | (refine ⟨?_, ?_, ?_, ?_, ?_⟩ <;> first | omega | assumption | trivial | rfl) | (refine ⟨?_, ?_, ?_, ?_, ?_, ?_⟩ <;> first | omega | assumption | trivial | rfl) | (refine ⟨?_, ?_, ?_, ?_, ?_, ?_, ?_⟩ <;> first | omega | assumption | trivial | rfl) | (refine ⟨?_, ?_, ?_, ?_, ?_, ?_, ?_, ?_⟩ <;> first | omega | assumption | trivial | rfl)) (show (128 - x3_31_2.toInt + 1).toNat < (128 - y3_6.toInt + 1).toNat from by omega)
set_option maxHeartbeats 1000000 in
theorem sp_X7_prime (p0 : Int32) (p1 : Int32)  : ok (F_X7_prime p0 p1) (fun r => r.1 = 0 ∨ r.1 = 2) := by
  have l032 : (0 : Int32).toInt = 0 := by decide
  have l132 : (1 : Int32).toInt = 1 := by decide
  have l632 : (6 : Int32).toInt = 6 := by decide
  have l932 : (9 : Int32).toInt = 9 := by decide
  unfold F_X7_prime
  refine ok_o (sp_X7_testRange p0 (1 : Int32) (6 : Int32) ) (fun xc4 h1 => ?_)
  have h1 : (xc4 = 0 ∧ (1 : Int32).toInt ≤ p0.toInt ∧ p0.toInt ≤ (6 : Int32).toInt) ∨ (xc4 = 2 ∧ (p0.toInt < (1 : Int32).toInt ∨ (6 : Int32).toInt < p0.toInt)) := h1
  refine ok_i (fun c2 => ?_) (fun c2 => ?_)
  · refine ok_o (sp_X7_testRange p1 (0 : Int32) (9 : Int32) ) (fun xc11 h3 => ?_)
    have h3 : (xc11 = 0 ∧ (0 : Int32).toInt ≤ p1.toInt ∧ p1.toInt ≤ (9 : Int32).toInt) ∨ (xc11 = 2 ∧ (p1.toInt < (0 : Int32).toInt ∨ (9 : Int32).toInt < p1.toInt)) := h3
    refine ok_i (fun c4 => ?_) (fun c4 => ?_)
    · refine ok_o (sp_X2_codeOf p0 p1 (by first | omega | assumption | trivial) (by first | omega | assumption | trivial)) (fun r16 h5 => ?_)
      exact ok_s (show 0 = 0 ∨ 0 = 2 from by first | omega | assumption | trivial | (refine ⟨?_, ?_⟩ <;> first | omega | assumption | trivial | rfl) | (refine ⟨?_, ?_, ?_⟩ <;> first | omega | assumption | trivial | rfl) | (refine ⟨?_, ?_, ?_, ?_⟩ <;> first | omega | assumption | trivial | rfl) | (refine ⟨?_, ?_, ?_, ?_, ?_⟩ <;> first | omega | assumption | trivial | rfl) | (refine ⟨?_, ?_, ?_, ?_, ?_, ?_⟩ <;> first | omega | assumption | trivial | rfl) | (refine ⟨?_, ?_, ?_, ?_, ?_, ?_, ?_⟩ <;> first | omega | assumption | trivial | rfl) | (refine ⟨?_, ?_, ?_, ?_, ?_, ?_, ?_, ?_⟩ <;> first | omega | assumption | trivial | rfl))
    · exact ok_s (show xc11 = 0 ∨ xc11 = 2 from by first | omega | assumption | trivial | (refine ⟨?_, ?_⟩ <;> first | omega | assumption | trivial | rfl) | (refine ⟨?_, ?_, ?_⟩ <;> first | omega | assumption | trivial | rfl) | (refine ⟨?_, ?_, ?_, ?_⟩ <;> first | omega | assumption | trivial | rfl) | (refine ⟨?_, ?_, ?_, ?_, ?_⟩ <;> first | omega | assumption | trivial | rfl) | (refine ⟨?_, ?_, ?_, ?_, ?_, ?_⟩ <;> first | omega | assumption | trivial | rfl) | (refine ⟨?_, ?_, ?_, ?_, ?_, ?_, ?_⟩ <;> first | omega | assumption | trivial | rfl) | (refine ⟨?_, ?_, ?_, ?_, ?_, ?_, ?_, ?_⟩ <;> first | omega | assumption | trivial | rfl))
  · exact ok_s (show xc4 = 0 ∨ xc4 = 2 from by first | omega | assumption | trivial | (refine ⟨?_, ?_⟩ <;> first | omega | assumption | trivial | rfl) | (refine ⟨?_, ?_, ?_⟩ <;> first | omega | assumption | trivial | rfl) | (refine ⟨?_, ?_, ?_, ?_⟩ <;> first | omega | assumption | trivial | rfl) | (refine ⟨?_, ?_, ?_, ?_, ?_⟩ <;> first | omega | assumption | trivial | rfl) | (refine ⟨?_, ?_, ?_, ?_, ?_, ?_⟩ <;> first | omega | assumption | trivial | rfl) | (refine ⟨?_, ?_, ?_, ?_, ?_, ?_, ?_⟩ <;> first | omega | assumption | trivial | rfl) | (refine ⟨?_, ?_, ?_, ?_, ?_, ?_, ?_, ?_⟩ <;> first | omega | assumption | trivial | rfl))
