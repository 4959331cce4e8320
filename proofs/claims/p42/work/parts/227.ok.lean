set_option maxHeartbeats 1000000 in
theorem sp_X0_textOf (p0 : Int64)  : ok (F_X0_textOf p0) (fun r => True) := by
  have lm132 : (-1 : Int32).toInt = -1 := by decide
  have l032 : (0 : Int32).toInt = 0 := by decide
  have l3232 : (32 : Int32).toInt = 32 := by decide
  unfold F_X0_textOf
  refine ok_o3 (sp_J4_init_da8c8  ) (fun c_n0_coder_4 n_n0_value_4 f_n0_value_4 h1 => ?_)
  have h1 : c_n0_coder_4 = 0 ∧ CAP n_n0_value_4 ∧ n_n0_value_4 = 16 ∧ BY f_n0_value_4 := h1
  obtain ⟨h1_0, h1_1, h1_2, h1_3⟩ := h1
  refine ok_o (sp_X0_degreeOf p0 ) (fun r9 h2 => ?_)
  have h2 : r9.toInt = DG p0 ∧ -1 ≤ r9.toInt ∧ r9.toInt ≤ 63 := h2
  refine ok_L4 (fun y3_13 c_n0_count_13 n_n0_value_13 f_n0_value_13 => CAP n_n0_value_13 ∧ BY f_n0_value_13 ∧ -1 ≤ y3_13.toInt ∧ y3_13.toInt ≤ 63 ∧ 0 ≤ c_n0_count_13.toInt ∧ c_n0_count_13.toInt ≤ (n_n0_value_13 : Int) ∧ c_n0_count_13.toInt ≤ 3 * (63 - y3_13.toInt)) (fun y3_13 c_n0_count_13 n_n0_value_13 f_n0_value_13 => (y3_13.toInt + 1).toNat) (fun ih13 y3_13 c_n0_count_13 n_n0_value_13 f_n0_value_13 hI3 hih3 => ?_) 66 r9 (0 : Int32) n_n0_value_4 f_n0_value_4 (show CAP n_n0_value_4 ∧ BY f_n0_value_4 ∧ -1 ≤ r9.toInt ∧ r9.toInt ≤ 63 ∧ 0 ≤ (0 : Int32).toInt ∧ (0 : Int32).toInt ≤ (n_n0_value_4 : Int) ∧ (0 : Int32).toInt ≤ 3 * (63 - r9.toInt) from by first | omega | assumption | trivial | (refine ⟨?_, ?_⟩ <;> first | omega | assumption | trivial | rfl) | (refine ⟨?_, ?_, ?_⟩ <;> first | omega | assumption | trivial | rfl) | (refine ⟨?_, ?_, ?_, ?_⟩ <;> first | omega | assumption | trivial | rfl) | (refine ⟨?_, ?_, ?_, ?_, ?_⟩ <;> first | omega | assumption | trivial | rfl) | (refine ⟨?_, ?_, ?_, ?_, ?_, ?_⟩ <;> first | omega | assumption | trivial | rfl) | (refine ⟨?_, ?_, ?_, ?_, ?_, ?_, ?_⟩ <;> first | omega | assumption | trivial | rfl) | (refine ⟨?_, ?_, ?_, ?_, ?_, ?_, ?_, ?_⟩ <;> first | omega | assumption | trivial | rfl)) (show (r9.toInt + 1).toNat < 66 from by omega)
  have hI3 : CAP n_n0_value_13 ∧ BY f_n0_value_13 ∧ -1 ≤ y3_13.toInt ∧ y3_13.toInt ≤ 63 ∧ 0 ≤ c_n0_count_13.toInt ∧ c_n0_count_13.toInt ≤ (n_n0_value_13 : Int) ∧ c_n0_count_13.toInt ≤ 3 * (63 - y3_13.toInt) := hI3
  obtain ⟨hI3_0, hI3_1, hI3_2, hI3_3, hI3_4, hI3_5, hI3_6⟩ := hI3
  unfold S_X0_textOf_13
  refine ok_lt (fun c4 => ?_) (fun c4 => ?_)
  · refine ok_o (sp_J4_toString_0e30d c_n0_coder_4 c_n0_count_13 n_n0_value_13 f_n0_value_13 (by first | omega | assumption | trivial | exact wt_of (by assumption) (by omega)) (by first | omega | assumption | trivial | exact wt_of (by assumption) (by omega)) (by first | omega | assumption | trivial | exact wt_of (by assumption) (by omega)) (by first | omega | assumption | trivial | exact wt_of (by assumption) (by omega)) (by first | omega | assumption | trivial | exact wt_of (by assumption) (by omega))) (fun u52 h5 => ?_)
    exact ok_s trivial
  · refine ok_o (sp_X0_hasOne p0 y3_13 ) (fun r19 h6 => ?_)
    have h6 : r19.toInt = 0 ∨ r19.toInt = 1 := h6
    refine ok_eq (fun c7 => ?_) (fun c7 => ?_)
    · refine ok_bx (fun x3_45 e_x3_45 => ?_)
      try have t_x3_45 : x3_45.toInt = y3_13.toInt + (-1) := by rw [e_x3_45]; exact addT1 (show (-1 : Int32).toInt = -1 from by decide) (by omega) (by omega)
      exact hih3 x3_45 c_n0_count_13 n_n0_value_13 f_n0_value_13 (show CAP n_n0_value_13 ∧ BY f_n0_value_13 ∧ -1 ≤ x3_45.toInt ∧ x3_45.toInt ≤ 63 ∧ 0 ≤ c_n0_count_13.toInt ∧ c_n0_count_13.toInt ≤ (n_n0_value_13 : Int) ∧ c_n0_count_13.toInt ≤ 3 * (63 - x3_45.toInt) from by first | omega | assumption | trivial | (refine ⟨?_, ?_⟩ <;> first | omega | assumption | trivial | rfl) | (refine ⟨?_, ?_, ?_⟩ <;> first | omega | assumption | trivial | rfl) | (refine ⟨?_, ?_, ?_, ?_⟩ <;> first | omega | assumption | trivial | rfl) | (refine ⟨?_, ?_, ?_, ?_, ?_⟩ <;> first | omega | assumption | trivial | rfl) | (refine ⟨?_, ?_, ?_, ?_, ?_, ?_⟩ <;> first | omega | assumption | trivial | rfl) | (refine ⟨?_, ?_, ?_, ?_, ?_, ?_, ?_⟩ <;> first | omega | assumption | trivial | rfl) | (refine ⟨?_, ?_, ?_, ?_, ?_, ?_, ?_, ?_⟩ <;> first | omega | assumption | trivial | rfl)) (show (x3_45.toInt + 1).toNat < (y3_13.toInt + 1).toNat from by omega)
    · refine ok_o (sp_J4_length_8abf5 c_n0_count_13 ) (fun r26 h8 => ?_)
      have h8 : r26 = c_n0_count_13 := h8
      refine ok_le (fun c9 => ?_) (fun c9 => ?_)
      · refine ok_o3 (sp_J4_append_bf812 c_n0_coder_4 c_n0_count_13 n_n0_value_13 f_n0_value_13 y3_13 (by first | omega | assumption | trivial | exact wt_of (by assumption) (by omega)) (by first | omega | assumption | trivial | exact wt_of (by assumption) (by omega)) (by first | omega | assumption | trivial | exact wt_of (by assumption) (by omega)) (by first | omega | assumption | trivial | exact wt_of (by assumption) (by omega)) (by first | omega | assumption | trivial | exact wt_of (by assumption) (by omega)) (by first | omega | assumption | trivial | exact wt_of (by assumption) (by omega)) (by first | omega | assumption | trivial | exact wt_of (by assumption) (by omega)) (by first | omega | assumption | trivial | exact wt_of (by assumption) (by omega))) (fun c_n0_count_41 n_n0_value_41 f_n0_value_41 h10 => ?_)
        have h10 : c_n0_count_13.toInt + 1 ≤ c_n0_count_41.toInt ∧ c_n0_count_41.toInt ≤ c_n0_count_13.toInt + 2 ∧ c_n0_count_41.toInt ≤ n_n0_value_41 ∧ CAP n_n0_value_41 ∧ BY f_n0_value_41 := h10
        obtain ⟨h10_0, h10_1, h10_2, h10_3, h10_4⟩ := h10
        refine ok_bx (fun x3_45_2 e_x3_45_2 => ?_)
        try have t_x3_45_2 : x3_45_2.toInt = y3_13.toInt + (-1) := by rw [e_x3_45_2]; exact addT1 (show (-1 : Int32).toInt = -1 from by decide) (by omega) (by omega)
        exact hih3 x3_45_2 c_n0_count_41 n_n0_value_41 f_n0_value_41 (show CAP n_n0_value_41 ∧ BY f_n0_value_41 ∧ -1 ≤ x3_45_2.toInt ∧ x3_45_2.toInt ≤ 63 ∧ 0 ≤ c_n0_count_41.toInt ∧ c_n0_count_41.toInt ≤ (n_n0_value_41 : Int) ∧ c_n0_count_41.toInt ≤ 3 * (63 - x3_45_2.toInt) from by first | omega | assumption | trivial | (refine ⟨?_, ?_⟩ <;> first | omega | assumption | trivial | rfl) | (refine ⟨?_, ?_, ?_⟩ <;> first | omega | assumption | trivial | rfl) | (refine ⟨?_, ?_, ?_, ?_⟩ <;> first | omega | assumption | trivial | rfl) | (refine ⟨?_, ?_, ?_, ?_, ?_⟩ <;> first | omega | assumption | trivial | rfl) | (refine ⟨?_, ?_, ?_, ?_, ?_, ?_⟩ <;> first | omega | assumption | trivial | rfl) | (refine ⟨?_, ?_, ?_, ?_, ?_, ?_, ?_⟩ <;> first | omega | assumption | trivial | rfl) | (refine ⟨?_, ?_, ?_, ?_, ?_, ?_, ?_, ?_⟩ <;> first | omega | assumption | trivial | rfl)) (show (x3_45_2.toInt + 1).toNat < (y3_13.toInt + 1).toNat from by omega)
      · refine ok_o3 (sp_J4_append_cf468 c_n0_coder_4 c_n0_count_13 n_n0_value_13 f_n0_value_13 (32 : Int32) (by first | omega | assumption | trivial | exact wt_of (by assumption) (by omega)) (by first | omega | assumption | trivial | exact wt_of (by assumption) (by omega)) (by first | omega | assumption | trivial | exact wt_of (by assumption) (by omega)) (by first | omega | assumption | trivial | exact wt_of (by assumption) (by omega)) (by first | omega | assumption | trivial | exact wt_of (by assumption) (by omega)) (by first | omega | assumption | trivial | exact wt_of (by assumption) (by omega)) (by first | omega | assumption | trivial | exact wt_of (by assumption) (by omega))) (fun c_n0_count_35 n_n0_value_35 f_n0_value_35 h11 => ?_)
        have h11 : c_n0_count_35.toInt = c_n0_count_13.toInt + 1 ∧ c_n0_count_35.toInt ≤ n_n0_value_35 ∧ CAP n_n0_value_35 ∧ BY f_n0_value_35 := h11
        obtain ⟨h11_0, h11_1, h11_2, h11_3⟩ := h11
        refine ok_o3 (sp_J4_append_bf812 c_n0_coder_4 c_n0_count_35 n_n0_value_35 f_n0_value_35 y3_13 (by first | omega | assumption | trivial | exact wt_of (by assumption) (by omega)) (by first | omega | assumption | trivial | exact wt_of (by assumption) (by omega)) (by first | omega | assumption | trivial | exact wt_of (by assumption) (by omega)) (by first | omega | assumption | trivial | exact wt_of (by assumption) (by omega)) (by first | omega | assumption | trivial | exact wt_of (by assumption) (by omega)) (by first | omega | assumption | trivial | exact wt_of (by assumption) (by omega)) (by first | omega | assumption | trivial | exact wt_of (by assumption) (by omega)) (by first | omega | assumption | trivial | exact wt_of (by assumption) (by omega))) (fun c_n0_count_41_2 n_n0_value_41_2 f_n0_value_41_2 h12 => ?_)
        have h12 : c_n0_count_35.toInt + 1 ≤ c_n0_count_41_2.toInt ∧ c_n0_count_41_2.toInt ≤ c_n0_count_35.toInt + 2 ∧ c_n0_count_41_2.toInt ≤ n_n0_value_41_2 ∧ CAP n_n0_value_41_2 ∧ BY f_n0_value_41_2 := h12
        obtain ⟨h12_0, h12_1, h12_2, h12_3, h12_4⟩ := h12
        refine ok_bx (fun x3_45_3 e_x3_45_3 => ?_)
        try have t_x3_45_3 : x3_45_3.toInt = y3_13.toInt + (-1) := by rw [e_x3_45_3]; exact addT1 (show (-1 : Int32).toInt = -1 from by decide) (by omega) (by omega)
        exact hih3 x3_45_3 c_n0_count_41_2 n_n0_value_41_2 f_n0_value_41_2 (show CAP n_n0_value_41_2 ∧ BY f_n0_value_41_2 ∧ -1 ≤ x3_45_3.toInt ∧ x3_45_3.toInt ≤ 63 ∧ 0 ≤ c_n0_count_41_2.toInt ∧ c_n0_count_41_2.toInt ≤ (n_n0_value_41_2 : Int) ∧ c_n0_count_41_2.toInt ≤ 3 * (63 - x3_45_3.toInt) from by first | omega | assumption | trivial | (refine ⟨?_, ?_⟩ <;> first | omega | assumption | trivial | rfl) | (refine ⟨?_, ?_, ?_⟩ <;> first | omega | assumption | trivial | rfl) | (refine ⟨?_, ?_, ?_, ?_⟩ <;> first | omega | assumption | trivial | rfl) | (refine ⟨?_, ?_, ?_, ?_, ?_⟩ <;> first | omega | assumption | trivial | rfl) | (refine ⟨?_, ?_, ?_, ?_, ?_, ?_⟩ <;> first | omega | assumption | trivial | rfl) | (refine ⟨?_, ?_, ?_, ?_, ?_, ?_, ?_⟩ <;> first | omega | assumption | trivial | rfl) | (refine ⟨?_, ?_, ?_, ?_, ?_, ?_, ?_, ?_⟩ <;> first | omega | assumption | trivial | rfl)) (show (x3_45_3.toInt + 1).toNat < (y3_13.toInt + 1).toNat from by omega)
set_option maxHeartbeats 1000000 in
theorem sp_X7_text (f_t_forms : Nat → Int64) (p0 : Int32)  : ok (F_X7_text f_t_forms p0) (fun r => r = 0 ∨ r = 1) := by
  have l032 : (0 : Int32).toInt = 0 := by decide
  unfold F_X7_text
  refine ok_o (sp_X7_testForm p0 ) (fun xc1 h1 => ?_)
  have h1 : (xc1 = 0 ∧ 0 ≤ p0.toInt ∧ p0.toInt ≤ 5) ∨ xc1 = 1 := h1
  refine ok_i (fun c2 => ?_) (fun c2 => ?_)
  · refine ok_c (ixo (by omega) (by omega)) ?_
    refine ok_o (sp_X0_textOf (f_t_forms p0.toNatClampNeg) ) (fun u10 h3 => ?_)
    exact ok_s (show 0 = 0 ∨ 0 = 1 from by first | omega | assumption | trivial | (refine ⟨?_, ?_⟩ <;> first | omega | assumption | trivial | rfl) | (refine ⟨?_, ?_, ?_⟩ <;> first | omega | assumption | trivial | rfl) | (refine ⟨?_, ?_, ?_, ?_⟩ <;> first | omega | assumption | trivial | rfl) | (refine ⟨?_, ?_, ?_, ?_, ?_⟩ <;> first | omega | assumption | trivial | rfl) | (refine ⟨?_, ?_, ?_, ?_, ?_, ?_⟩ <;> first | omega | assumption | trivial | rfl) | (refine ⟨?_, ?_, ?_, ?_, ?_, ?_, ?_⟩ <;> first | omega | assumption | trivial | rfl) | (refine ⟨?_, ?_, ?_, ?_, ?_, ?_, ?_, ?_⟩ <;> first | omega | assumption | trivial | rfl))
  · exact ok_s (show xc1 = 0 ∨ xc1 = 1 from by first | omega | assumption | trivial | (refine ⟨?_, ?_⟩ <;> first | omega | assumption | trivial | rfl) | (refine ⟨?_, ?_, ?_⟩ <;> first | omega | assumption | trivial | rfl) | (refine ⟨?_, ?_, ?_, ?_⟩ <;> first | omega | assumption | trivial | rfl) | (refine ⟨?_, ?_, ?_, ?_, ?_⟩ <;> first | omega | assumption | trivial | rfl) | (refine ⟨?_, ?_, ?_, ?_, ?_, ?_⟩ <;> first | omega | assumption | trivial | rfl) | (refine ⟨?_, ?_, ?_, ?_, ?_, ?_, ?_⟩ <;> first | omega | assumption | trivial | rfl) | (refine ⟨?_, ?_, ?_, ?_, ?_, ?_, ?_, ?_⟩ <;> first | omega | assumption | trivial | rfl))
set_option maxHeartbeats 1000000 in
theorem sp_X7_rollText (c_t_roll_size : Int32) (f_t_roll_held : Nat → Int64) (p0 : Int32) (hp0 : 0 ≤ c_t_roll_size.toInt) (hp1 : c_t_roll_size.toInt ≤ 12) : ok (F_X7_rollText c_t_roll_size f_t_roll_held p0) (fun r => r = 0 ∨ r = 1) := by
  have l032 : (0 : Int32).toInt = 0 := by decide
  unfold F_X7_rollText
  refine ok_o (sp_X7_testRolled c_t_roll_size p0 (by first | omega | assumption | trivial) (by first | omega | assumption | trivial)) (fun xc2 h1 => ?_)
  have h1 : (xc2 = 0 ∧ 0 ≤ p0.toInt ∧ p0.toInt ≤ c_t_roll_size.toInt - 1) ∨ xc2 = 1 := h1
  refine ok_i (fun c2 => ?_) (fun c2 => ?_)
  · refine ok_o (sp_X3_at c_t_roll_size f_t_roll_held p0 (by first | omega | assumption | trivial) (by first | omega | assumption | trivial)) (fun r10 h3 => ?_)
    refine ok_o (sp_X0_textOf r10 ) (fun u13 h4 => ?_)
    exact ok_s (show 0 = 0 ∨ 0 = 1 from by first | omega | assumption | trivial | (refine ⟨?_, ?_⟩ <;> first | omega | assumption | trivial | rfl) | (refine ⟨?_, ?_, ?_⟩ <;> first | omega | assumption | trivial | rfl) | (refine ⟨?_, ?_, ?_, ?_⟩ <;> first | omega | assumption | trivial | rfl) | (refine ⟨?_, ?_, ?_, ?_, ?_⟩ <;> first | omega | assumption | trivial | rfl) | (refine ⟨?_, ?_, ?_, ?_, ?_, ?_⟩ <;> first | omega | assumption | trivial | rfl) | (refine ⟨?_, ?_, ?_, ?_, ?_, ?_, ?_⟩ <;> first | omega | assumption | trivial | rfl) | (refine ⟨?_, ?_, ?_, ?_, ?_, ?_, ?_, ?_⟩ <;> first | omega | assumption | trivial | rfl))
  · exact ok_s (show xc2 = 0 ∨ xc2 = 1 from by first | omega | assumption | trivial | (refine ⟨?_, ?_⟩ <;> first | omega | assumption | trivial | rfl) | (refine ⟨?_, ?_, ?_⟩ <;> first | omega | assumption | trivial | rfl) | (refine ⟨?_, ?_, ?_, ?_⟩ <;> first | omega | assumption | trivial | rfl) | (refine ⟨?_, ?_, ?_, ?_, ?_⟩ <;> first | omega | assumption | trivial | rfl) | (refine ⟨?_, ?_, ?_, ?_, ?_, ?_⟩ <;> first | omega | assumption | trivial | rfl) | (refine ⟨?_, ?_, ?_, ?_, ?_, ?_, ?_⟩ <;> first | omega | assumption | trivial | rfl) | (refine ⟨?_, ?_, ?_, ?_, ?_, ?_, ?_, ?_⟩ <;> first | omega | assumption | trivial | rfl))
set_option maxHeartbeats 1000000 in
theorem sp_X5_cellDigits (c_t_taps : Int64) (c_t_cells : Int64)  : ok (F_X5_cellDigits c_t_taps c_t_cells) (fun r => True) := by
  have l032 : (0 : Int32).toInt = 0 := by decide
  have l132 : (1 : Int32).toInt = 1 := by decide
  have l4832 : (48 : Int32).toInt = 48 := by decide
  have l4932 : (49 : Int32).toInt = 49 := by decide
  unfold F_X5_cellDigits
  refine ok_o3 (sp_J4_init_da8c8  ) (fun c_n0_coder_4 n_n0_value_4 f_n0_value_4 h1 => ?_)
  have h1 : c_n0_coder_4 = 0 ∧ CAP n_n0_value_4 ∧ n_n0_value_4 = 16 ∧ BY f_n0_value_4 := h1
  obtain ⟨h1_0, h1_1, h1_2, h1_3⟩ := h1
  refine ok_o (sp_X0_degreeOf c_t_taps ) (fun r12 h2 => ?_)
  have h2 : r12.toInt = DG c_t_taps ∧ -1 ≤ r12.toInt ∧ r12.toInt ≤ 63 := h2
  refine ok_L4 (fun y3_18 c_n0_count_18 n_n0_value_18 f_n0_value_18 => CAP n_n0_value_18 ∧ BY f_n0_value_18 ∧ 0 ≤ y3_18.toInt ∧ y3_18.toInt ≤ 64 ∧ 0 ≤ c_n0_count_18.toInt ∧ c_n0_count_18.toInt ≤ (n_n0_value_18 : Int) ∧ c_n0_count_18.toInt ≤ 3 * (y3_18.toInt)) (fun y3_18 c_n0_count_18 n_n0_value_18 f_n0_value_18 => (65 - y3_18.toInt).toNat) (fun ih18 y3_18 c_n0_count_18 n_n0_value_18 f_n0_value_18 hI3 hih3 => ?_) 66 (0 : Int32) (0 : Int32) n_n0_value_4 f_n0_value_4 (show CAP n_n0_value_4 ∧ BY f_n0_value_4 ∧ 0 ≤ (0 : Int32).toInt ∧ (0 : Int32).toInt ≤ 64 ∧ 0 ≤ (0 : Int32).toInt ∧ (0 : Int32).toInt ≤ (n_n0_value_4 : Int) ∧ (0 : Int32).toInt ≤ 3 * ((0 : Int32).toInt) from by first | omega | assumption | trivial | (refine ⟨?_, ?_⟩ <;> first | omega | assumption | trivial | rfl) | (refine ⟨?_, ?_, ?_⟩ <;> first | omega | assumption | trivial | rfl) | (refine ⟨?_, ?_, ?_, ?_⟩ <;> first | omega | assumption | trivial | rfl) | (refine ⟨?_, ?_, ?_, ?_, ?_⟩ <;> first | omega | assumption | trivial | rfl) | (refine ⟨?_, ?_, ?_, ?_, ?_, ?_⟩ <;> first | omega | assumption | trivial | rfl) | (refine ⟨?_, ?_, ?_, ?_, ?_, ?_, ?_⟩ <;> first | omega | assumption | trivial | rfl) | (refine ⟨?_, ?_, ?_, ?_, ?_, ?_, ?_, ?_⟩ <;> first | omega | assumption | trivial | rfl)) (show (65 - (0 : Int32).toInt).toNat < 66 from by omega)
  have hI3 : CAP n_n0_value_18 ∧ BY f_n0_value_18 ∧ 0 ≤ y3_18.toInt ∧ y3_18.toInt ≤ 64 ∧ 0 ≤ c_n0_count_18.toInt ∧ c_n0_count_18.toInt ≤ (n_n0_value_18 : Int) ∧ c_n0_count_18.toInt ≤ 3 * (y3_18.toInt) := hI3
  obtain ⟨hI3_0, hI3_1, hI3_2, hI3_3, hI3_4, hI3_5, hI3_6⟩ := hI3
  unfold S_X5_cellDigits_18
  refine ok_le (fun c4 => ?_) (fun c4 => ?_)
  · refine ok_o (sp_J4_toString_0e30d c_n0_coder_4 c_n0_count_18 n_n0_value_18 f_n0_value_18 (by first | omega | assumption | trivial | exact wt_of (by assumption) (by omega)) (by first | omega | assumption | trivial | exact wt_of (by assumption) (by omega)) (by first | omega | assumption | trivial | exact wt_of (by assumption) (by omega)) (by first | omega | assumption | trivial | exact wt_of (by assumption) (by omega)) (by first | omega | assumption | trivial | exact wt_of (by assumption) (by omega))) (fun u53 h5 => ?_)
    exact ok_s trivial
  · refine ok_o (sp_X0_hasOne c_t_cells y3_18 ) (fun r29 h6 => ?_)
    have h6 : r29.toInt = 0 ∨ r29.toInt = 1 := h6
    refine ok_eq (fun c7 => ?_) (fun c7 => ?_)
    · refine ok_o3 (sp_J4_append_cf468 c_n0_coder_4 c_n0_count_18 n_n0_value_18 f_n0_value_18 (48 : Int32) (by first | omega | assumption | trivial | exact wt_of (by assumption) (by omega)) (by first | omega | assumption | trivial | exact wt_of (by assumption) (by omega)) (by first | omega | assumption | trivial | exact wt_of (by assumption) (by omega)) (by first | omega | assumption | trivial | exact wt_of (by assumption) (by omega)) (by first | omega | assumption | trivial | exact wt_of (by assumption) (by omega)) (by first | omega | assumption | trivial | exact wt_of (by assumption) (by omega)) (by first | omega | assumption | trivial | exact wt_of (by assumption) (by omega))) (fun c_n0_count_42 n_n0_value_42 f_n0_value_42 h8 => ?_)
      have h8 : c_n0_count_42.toInt = c_n0_count_18.toInt + 1 ∧ c_n0_count_42.toInt ≤ n_n0_value_42 ∧ CAP n_n0_value_42 ∧ BY f_n0_value_42 := h8
      obtain ⟨h8_0, h8_1, h8_2, h8_3⟩ := h8
      refine ok_bx (fun x3_46 e_x3_46 => ?_)
      try have t_x3_46 : x3_46.toInt = y3_18.toInt + 1 := by rw [e_x3_46]; exact addT1 (show (1 : Int32).toInt = 1 from by decide) (by omega) (by omega)
      exact hih3 x3_46 c_n0_count_42 n_n0_value_42 f_n0_value_42 (show CAP n_n0_value_42 ∧ BY f_n0_value_42 ∧ 0 ≤ x3_46.toInt ∧ x3_46.toInt ≤ 64 ∧ 0 ≤ c_n0_count_42.toInt ∧ c_n0_count_42.toInt ≤ (n_n0_value_42 : Int) ∧ c_n0_count_42.toInt ≤ 3 * (x3_46.toInt) from by first | omega | assumption | trivial | (refine ⟨?_, ?_⟩ <;> first | omega | assumption | trivial | rfl) | (refine ⟨?_, ?_, ?_⟩ <;> first | omega | assumption | trivial | rfl) | (refine ⟨?_, ?_, ?_, ?_⟩ <;> first | omega | assumption | trivial | rfl) | (refine ⟨?_, ?_, ?_, ?_, ?_⟩ <;> first | omega | assumption | trivial | rfl) | (refine ⟨?_, ?_, ?_, ?_, ?_, ?_⟩ <;> first | omega | assumption | trivial | rfl) | (refine ⟨?_, ?_, ?_, ?_, ?_, ?_, ?_⟩ <;> first | omega | assumption | trivial | rfl) | (refine ⟨?_, ?_, ?_, ?_, ?_, ?_, ?_, ?_⟩ <;> first | omega | assumption | trivial | rfl)) (show (65 - x3_46.toInt).toNat < (65 - y3_18.toInt).toNat from by omega)
    · refine ok_o3 (sp_J4_append_cf468 c_n0_coder_4 c_n0_count_18 n_n0_value_18 f_n0_value_18 (49 : Int32) (by first | omega | assumption | trivial | exact wt_of (by assumption) (by omega)) (by first | omega | assumption | trivial | exact wt_of (by assumption) (by omega)) (by first | omega | assumption | trivial | exact wt_of (by assumption) (by omega)) (by first | omega | assumption | trivial | exact wt_of (by assumption) (by omega)) (by first | omega | assumption | trivial | exact wt_of (by assumption) (by omega)) (by first | omega | assumption | trivial | exact wt_of (by assumption) (by omega)) (by first | omega | assumption | trivial | exact wt_of (by assumption) (by omega))) (fun c_n0_count_42_2 n_n0_value_42_2 f_n0_value_42_2 h9 => ?_)
      have h9 : c_n0_count_42_2.toInt = c_n0_count_18.toInt + 1 ∧ c_n0_count_42_2.toInt ≤ n_n0_value_42_2 ∧ CAP n_n0_value_42_2 ∧ BY f_n0_value_42_2 := h9
      obtain ⟨h9_0, h9_1, h9_2, h9_3⟩ := h9
      refine ok_bx (fun x3_46_2 e_x3_46_2 => ?_)
      try have t_x3_46_2 : x3_46_2.toInt = y3_18.toInt + 1 := by rw [e_x3_46_2]; exact addT1 (show (1 : Int32).toInt = 1 from by decide) (by omega) (by omega)
      exact hih3 x3_46_2 c_n0_count_42_2 n_n0_value_42_2 f_n0_value_42_2 (show CAP n_n0_value_42_2 ∧ BY f_n0_value_42_2 ∧ 0 ≤ x3_46_2.toInt ∧ x3_46_2.toInt ≤ 64 ∧ 0 ≤ c_n0_count_42_2.toInt ∧ c_n0_count_42_2.toInt ≤ (n_n0_value_42_2 : Int) ∧ c_n0_count_42_2.toInt ≤ 3 * (x3_46_2.toInt) from by first | omega | assumption | trivial | (refine ⟨?_, ?_⟩ <;> first | omega | assumption | trivial | rfl) | (refine ⟨?_, ?_, ?_⟩ <;> first | omega | assumption | trivial | rfl) | (refine ⟨?_, ?_, ?_, ?_⟩ <;> first | omega | assumption | trivial | rfl) | (refine ⟨?_, ?_, ?_, ?_, ?_⟩ <;> first | omega | assumption | trivial | rfl) | (refine ⟨?_, ?_, ?_, ?_, ?_, ?_⟩ <;> first | omega | assumption | trivial | rfl) | (refine ⟨?_, ?_, ?_, ?_, ?_, ?_, ?_⟩ <;> first | omega | assumption | trivial | rfl) | (refine ⟨?_, ?_, ?_, ?_, ?_, ?_, ?_, ?_⟩ <;> first | omega | assumption | trivial | rfl)) (show (65 - x3_46_2.toInt).toNat < (65 - y3_18.toInt).toNat from by omega)
set_option maxHeartbeats 1000000 in
theorem sp_X7_rowText (c_t_row_taps : Int64) (c_t_row_cells : Int64)  : ok (F_X7_rowText c_t_row_taps c_t_row_cells) (fun r => True) := by
  unfold F_X7_rowText
  refine ok_o (sp_X5_cellDigits c_t_row_taps c_t_row_cells ) (fun u4 h1 => ?_)
  exact ok_s trivial
set_option maxHeartbeats 1000000 in
theorem sp_X7_primes (p0 : Int32) (p1 : Int32)  : ok (F_X7_primes p0 p1) (fun r => r.1 = 0 ∨ r.1 = 2) := by
  have l032 : (0 : Int32).toInt = 0 := by decide
  have l132 : (1 : Int32).toInt = 1 := by decide
  have l632 : (6 : Int32).toInt = 6 := by decide
  have l1032 : (10 : Int32).toInt = 10 := by decide
  unfold F_X7_primes
  refine ok_o (sp_X7_testRange p1 (0 : Int32) (1 : Int32) ) (fun xc3 h1 => ?_)
  have h1 : (xc3 = 0 ∧ (0 : Int32).toInt ≤ p1.toInt ∧ p1.toInt ≤ (1 : Int32).toInt) ∨ (xc3 = 2 ∧ (p1.toInt < (0 : Int32).toInt ∨ (1 : Int32).toInt < p1.toInt)) := h1
  refine ok_i (fun c2 => ?_) (fun c2 => ?_)
  · refine ok_eq (fun c3 => ?_) (fun c3 => ?_)
    · refine ok_o (sp_X7_testRange p0 (1 : Int32) (10 : Int32) ) (fun xc19 h4 => ?_)
      have h4 : (xc19 = 0 ∧ (1 : Int32).toInt ≤ p0.toInt ∧ p0.toInt ≤ (10 : Int32).toInt) ∨ (xc19 = 2 ∧ (p0.toInt < (1 : Int32).toInt ∨ (10 : Int32).toInt < p0.toInt)) := h4
      refine ok_i (fun c5 => ?_) (fun c5 => ?_)
      · refine ok_eq (fun c6 => ?_) (fun c6 => ?_)
        · refine ok_o (sp_X2_howManyBySum p0 (by first | omega | assumption | trivial) (by first | omega | assumption | trivial)) (fun r27 h7 => ?_)
          exact ok_s (show 0 = 0 ∨ 0 = 2 from by first | omega | assumption | trivial | (refine ⟨?_, ?_⟩ <;> first | omega | assumption | trivial | rfl) | (refine ⟨?_, ?_, ?_⟩ <;> first | omega | assumption | trivial | rfl) | (refine ⟨?_, ?_, ?_, ?_⟩ <;> first | omega | assumption | trivial | rfl) | (refine ⟨?_, ?_, ?_, ?_, ?_⟩ <;> first | omega | assumption | trivial | rfl) | (refine ⟨?_, ?_, ?_, ?_, ?_, ?_⟩ <;> first | omega | assumption | trivial | rfl) | (refine ⟨?_, ?_, ?_, ?_, ?_, ?_, ?_⟩ <;> first | omega | assumption | trivial | rfl) | (refine ⟨?_, ?_, ?_, ?_, ?_, ?_, ?_, ?_⟩ <;> first | omega | assumption | trivial | rfl))
        · refine ok_o (sp_X2_howManyByCounting p0 (by first | omega | assumption | trivial) (by first | omega | assumption | trivial)) (fun r34 h8 => ?_)
          exact ok_s (show 0 = 0 ∨ 0 = 2 from by first | omega | assumption | trivial | (refine ⟨?_, ?_⟩ <;> first | omega | assumption | trivial | rfl) | (refine ⟨?_, ?_, ?_⟩ <;> first | omega | assumption | trivial | rfl) | (refine ⟨?_, ?_, ?_, ?_⟩ <;> first | omega | assumption | trivial | rfl) | (refine ⟨?_, ?_, ?_, ?_, ?_⟩ <;> first | omega | assumption | trivial | rfl) | (refine ⟨?_, ?_, ?_, ?_, ?_, ?_⟩ <;> first | omega | assumption | trivial | rfl) | (refine ⟨?_, ?_, ?_, ?_, ?_, ?_, ?_⟩ <;> first | omega | assumption | trivial | rfl) | (refine ⟨?_, ?_, ?_, ?_, ?_, ?_, ?_, ?_⟩ <;> first | omega | assumption | trivial | rfl))
      · exact ok_s (show xc19 = 0 ∨ xc19 = 2 from by first | omega | assumption | trivial | (refine ⟨?_, ?_⟩ <;> first | omega | assumption | trivial | rfl) | (refine ⟨?_, ?_, ?_⟩ <;> first | omega | assumption | trivial | rfl) | (refine ⟨?_, ?_, ?_, ?_⟩ <;> first | omega | assumption | trivial | rfl) | (refine ⟨?_, ?_, ?_, ?_, ?_⟩ <;> first | omega | assumption | trivial | rfl) | (refine ⟨?_, ?_, ?_, ?_, ?_, ?_⟩ <;> first | omega | assumption | trivial | rfl) | (refine ⟨?_, ?_, ?_, ?_, ?_, ?_, ?_⟩ <;> first | omega | assumption | trivial | rfl) | (refine ⟨?_, ?_, ?_, ?_, ?_, ?_, ?_, ?_⟩ <;> first | omega | assumption | trivial | rfl))
    · refine ok_o (sp_X7_testRange p0 (1 : Int32) (6 : Int32) ) (fun xc19_2 h9 => ?_)
      have h9 : (xc19_2 = 0 ∧ (1 : Int32).toInt ≤ p0.toInt ∧ p0.toInt ≤ (6 : Int32).toInt) ∨ (xc19_2 = 2 ∧ (p0.toInt < (1 : Int32).toInt ∨ (6 : Int32).toInt < p0.toInt)) := h9
      refine ok_i (fun c10 => ?_) (fun c10 => ?_)
      · refine ok_eq (fun c11 => ?_) (fun c11 => ?_)
        · refine ok_o (sp_X2_howManyBySum p0 (by first | omega | assumption | trivial) (by first | omega | assumption | trivial)) (fun r27_2 h12 => ?_)
          exact ok_s (show 0 = 0 ∨ 0 = 2 from by first | omega | assumption | trivial | (refine ⟨?_, ?_⟩ <;> first | omega | assumption | trivial | rfl) | (refine ⟨?_, ?_, ?_⟩ <;> first | omega | assumption | trivial | rfl) | (refine ⟨?_, ?_, ?_, ?_⟩ <;> first | omega | assumption | trivial | rfl) | (refine ⟨?_, ?_, ?_, ?_, ?_⟩ <;> first | omega | assumption | trivial | rfl) | (refine ⟨?_, ?_, ?_, ?_, ?_, ?_⟩ <;> first | omega | assumption | trivial | rfl) | (refine ⟨?_, ?_, ?_, ?_, ?_, ?_, ?_⟩ <;> first | omega | assumption | trivial | rfl) | (refine ⟨?_, ?_, ?_, ?_, ?_, ?_, ?_, ?_⟩ <;> first | omega | assumption | trivial | rfl))
        · refine ok_o (sp_X2_howManyByCounting p0 (by first | omega | assumption | trivial) (by first | omega | assumption | trivial)) (fun r34_2 h13 => ?_)
          exact ok_s (show 0 = 0 ∨ 0 = 2 from by first | omega | assumption | trivial | (refine ⟨?_, ?_⟩ <;> first | omega | assumption | trivial | rfl) | (refine ⟨?_, ?_, ?_⟩ <;> first | omega | assumption | trivial | rfl) | (refine ⟨?_, ?_, ?_, ?_⟩ <;> first | omega | assumption | trivial | rfl) | (refine ⟨?_, ?_, ?_, ?_, ?_⟩ <;> first | omega | assumption | trivial | rfl) | (refine ⟨?_, ?_, ?_, ?_, ?_, ?_⟩ <;> first | omega | assumption | trivial | rfl) | (refine ⟨?_, ?_, ?_, ?_, ?_, ?_, ?_⟩ <;> first | omega | assumption | trivial | rfl) | (refine ⟨?_, ?_, ?_, ?_, ?_, ?_, ?_, ?_⟩ <;> first | omega | assumption | trivial | rfl))
      · exact ok_s (show xc19_2 = 0 ∨ xc19_2 = 2 from by first | omega | assumption | trivial | (refine ⟨?_, ?_⟩ <;> first | omega | assumption | trivial | rfl) | (refine ⟨?_, ?_, ?_⟩ <;> first | omega | assumption | trivial | rfl) | (refine ⟨?_, ?_, ?_, ?_⟩ <;> first | omega | assumption | trivial | rfl) | (refine ⟨?_, ?_, ?_, ?_, ?_⟩ <;> first | omega | assumption | trivial | rfl) | (refine ⟨?_, ?_, ?_, ?_, ?_, ?_⟩ <;> first | omega | assumption | trivial | rfl) | (refine ⟨?_, ?_, ?_, ?_, ?_, ?_, ?_⟩ <;> first | omega | assumption | trivial | rfl) | (refine ⟨?_, ?_, ?_, ?_, ?_, ?_, ?_, ?_⟩ <;> first | omega | assumption | trivial | rfl))
  · exact ok_s (show xc3 = 0 ∨ xc3 = 2 from by first | omega | assumption | trivial | (refine ⟨?_, ?_⟩ <;> first | omega | assumption | trivial | rfl) | (refine ⟨?_, ?_, ?_⟩ <;> first | omega | assumption | trivial | rfl) | (refine ⟨?_, ?_, ?_, ?_⟩ <;> first | omega | assumption | trivial | rfl) | (refine ⟨?_, ?_, ?_, ?_, ?_⟩ <;> first | omega | assumption | trivial | rfl) | (refine ⟨?_, ?_, ?_, ?_, ?_, ?_⟩ <;> first | omega | assumption | trivial | rfl) | (refine ⟨?_, ?_, ?_, ?_, ?_, ?_, ?_⟩ <;> first | omega | assumption | trivial | rfl) | (refine ⟨?_, ?_, ?_, ?_, ?_, ?_, ?_, ?_⟩ <;> first | omega | assumption | trivial | rfl))
set_option maxHeartbeats 1000000 in
theorem sp_X7_isSound (f_t_forms : Nat → Int64) (c_t_row_taps : Int64) (c_t_rows_first : Int64) (c_t_rows_ofOne : Int64) (c_t_rows_ofOther : Int64) (c_t_rows_second : Int64) (c_t_rows_secondOfOne : Int64) (c_t_rows_secondOfOther : Int64) (c_t_factors_parts_size : Int32) (f_t_factors_parts_held : Nat → Int64) (c_t_found_size : Int32) (f_t_found_held : Nat → Int64) (c_t_foundOtherwise_size : Int32) (f_t_foundOtherwise_held : Nat → Int64) (f_t_foundOtherwise_before : Nat → Int64) (hp0 : 0 ≤ c_t_factors_parts_size.toInt) (hp1 : c_t_factors_parts_size.toInt ≤ 12) (hp2 : 0 ≤ c_t_found_size.toInt) (hp3 : c_t_found_size.toInt ≤ 12) (hp4 : 0 ≤ c_t_foundOtherwise_size.toInt) (hp5 : c_t_foundOtherwise_size.toInt ≤ 12) : ok (F_X7_isSound f_t_forms c_t_row_taps c_t_rows_first c_t_rows_ofOne c_t_rows_ofOther c_t_rows_second c_t_rows_secondOfOne c_t_rows_secondOfOther c_t_factors_parts_size f_t_factors_parts_held c_t_found_size f_t_found_held c_t_foundOtherwise_size f_t_foundOtherwise_held f_t_foundOtherwise_before) (fun r => (r.1.toInt = 0 ∨ r.1.toInt = 1) ∧ 0 ≤ r.2.2.2.2.2.2.2.1.toInt ∧ r.2.2.2.2.2.2.2.1.toInt ≤ 12 ∧ 0 ≤ r.2.2.2.2.2.2.2.2.2.1.toInt ∧ r.2.2.2.2.2.2.2.2.2.1.toInt ≤ 12 ∧ 0 ≤ r.2.2.2.2.2.2.2.2.2.2.2.1.toInt ∧ r.2.2.2.2.2.2.2.2.2.2.2.1.toInt ≤ 12) := by
  have l032 : (0 : Int32).toInt = 0 := by decide
  have l132 : (1 : Int32).toInt = 1 := by decide
  have l51164 : (511 : Int64).toInt = 511 := by decide
  unfold F_X7_isSound
  refine ok_bx (fun x1_10 e_x1_10 => ?_)
  refine ok_bx (fun x3_21 e_x3_21 => ?_)
  refine ok_o (sp_X7_isProductSound x1_10 x3_21 ) (fun r25 h1 => ?_)
  have h1 : r25.toInt = 0 ∨ r25.toInt = 1 := h1
  refine ok_eq (fun c2 => ?_) (fun c2 => ?_)
  · exact ok_s (show ((0 : Int32).toInt = 0 ∨ (0 : Int32).toInt = 1) ∧ 0 ≤ c_t_factors_parts_size.toInt ∧ c_t_factors_parts_size.toInt ≤ 12 ∧ 0 ≤ c_t_found_size.toInt ∧ c_t_found_size.toInt ≤ 12 ∧ 0 ≤ c_t_foundOtherwise_size.toInt ∧ c_t_foundOtherwise_size.toInt ≤ 12 from by first | omega | assumption | trivial | (refine ⟨?_, ?_⟩ <;> first | omega | assumption | trivial | rfl) | (refine ⟨?_, ?_, ?_⟩ <;> first | omega | assumption | trivial | rfl) | (refine ⟨?_, ?_, ?_, ?_⟩ <;> first | omega | assumption | trivial | rfl) | (refine ⟨?_, ?_, ?_, ?_, ?_⟩ <;> first | omega | assumption | trivial | rfl) | (refine ⟨?_, ?_, ?_, ?_, ?_, ?_⟩ <;> first | omega | assumption | trivial | rfl) | (refine ⟨?_, ?_, ?_, ?_, ?_, ?_, ?_⟩ <;> first | omega | assumption | trivial | rfl) | (refine ⟨?_, ?_, ?_, ?_, ?_, ?_, ?_, ?_⟩ <;> first | omega | assumption | trivial | rfl))
  · refine ok_o7 (sp_X7_isCommonSound x1_10 x3_21 ) (fun r34 c_t_rows_first_34 c_t_rows_ofOne_34 c_t_rows_ofOther_34 c_t_rows_second_34 c_t_rows_secondOfOne_34 c_t_rows_secondOfOther_34 h3 => ?_)
    have h3 : r34.toInt = 0 ∨ r34.toInt = 1 := h3
    refine ok_eq (fun c4 => ?_) (fun c4 => ?_)
    · exact ok_s (show ((0 : Int32).toInt = 0 ∨ (0 : Int32).toInt = 1) ∧ 0 ≤ c_t_factors_parts_size.toInt ∧ c_t_factors_parts_size.toInt ≤ 12 ∧ 0 ≤ c_t_found_size.toInt ∧ c_t_found_size.toInt ≤ 12 ∧ 0 ≤ c_t_foundOtherwise_size.toInt ∧ c_t_foundOtherwise_size.toInt ≤ 12 from by first | omega | assumption | trivial | (refine ⟨?_, ?_⟩ <;> first | omega | assumption | trivial | rfl) | (refine ⟨?_, ?_, ?_⟩ <;> first | omega | assumption | trivial | rfl) | (refine ⟨?_, ?_, ?_, ?_⟩ <;> first | omega | assumption | trivial | rfl) | (refine ⟨?_, ?_, ?_, ?_, ?_⟩ <;> first | omega | assumption | trivial | rfl) | (refine ⟨?_, ?_, ?_, ?_, ?_, ?_⟩ <;> first | omega | assumption | trivial | rfl) | (refine ⟨?_, ?_, ?_, ?_, ?_, ?_, ?_⟩ <;> first | omega | assumption | trivial | rfl) | (refine ⟨?_, ?_, ?_, ?_, ?_, ?_, ?_, ?_⟩ <;> first | omega | assumption | trivial | rfl))
    · refine ok_o (sp_X6_isWheel c_t_row_taps ) (fun r47 h5 => ?_)
      have h5 : r47.toInt = 0 ∨ r47.toInt = 1 := h5
      refine ok_eq (fun c6 => ?_) (fun c6 => ?_)
      · exact ok_s (show ((0 : Int32).toInt = 0 ∨ (0 : Int32).toInt = 1) ∧ 0 ≤ c_t_factors_parts_size.toInt ∧ c_t_factors_parts_size.toInt ≤ 12 ∧ 0 ≤ c_t_found_size.toInt ∧ c_t_found_size.toInt ≤ 12 ∧ 0 ≤ c_t_foundOtherwise_size.toInt ∧ c_t_foundOtherwise_size.toInt ≤ 12 from by first | omega | assumption | trivial | (refine ⟨?_, ?_⟩ <;> first | omega | assumption | trivial | rfl) | (refine ⟨?_, ?_, ?_⟩ <;> first | omega | assumption | trivial | rfl) | (refine ⟨?_, ?_, ?_, ?_⟩ <;> first | omega | assumption | trivial | rfl) | (refine ⟨?_, ?_, ?_, ?_, ?_⟩ <;> first | omega | assumption | trivial | rfl) | (refine ⟨?_, ?_, ?_, ?_, ?_, ?_⟩ <;> first | omega | assumption | trivial | rfl) | (refine ⟨?_, ?_, ?_, ?_, ?_, ?_, ?_⟩ <;> first | omega | assumption | trivial | rfl) | (refine ⟨?_, ?_, ?_, ?_, ?_, ?_, ?_, ?_⟩ <;> first | omega | assumption | trivial | rfl))
      · refine ok_o (sp_X0_degreeOf x1_10 ) (fun r56 h7 => ?_)
        have h7 : r56.toInt = DG x1_10 ∧ -1 ≤ r56.toInt ∧ r56.toInt ≤ 63 := h7
        refine ok_le (fun c8 => ?_) (fun c8 => ?_)
        · refine ok_o2 (sp_X1_findByTrying f_t_found_held x1_10 ) (fun c_t_found_size_74 f_t_found_held_74 h9 => ?_)
          have h9 : 0 ≤ c_t_found_size_74.toInt ∧ c_t_found_size_74.toInt ≤ 12 := h9
          refine ok_o4 (sp_X1_findByDegrees c_t_factors_parts_size f_t_factors_parts_held f_t_foundOtherwise_held x1_10 (by first | omega | assumption | trivial) (by first | omega | assumption | trivial)) (fun c_t_factors_parts_size_86 f_t_factors_parts_held_86 c_t_foundOtherwise_size_86 f_t_foundOtherwise_held_86 h10 => ?_)
          have h10 : 0 ≤ c_t_factors_parts_size_86.toInt ∧ c_t_factors_parts_size_86.toInt ≤ 12 ∧ 0 ≤ c_t_foundOtherwise_size_86.toInt ∧ c_t_foundOtherwise_size_86.toInt ≤ 12 := h10
          refine ok_o3 (sp_X3_arrange c_t_foundOtherwise_size_86 f_t_foundOtherwise_held_86 f_t_foundOtherwise_before (0 : Int32) (by first | omega | assumption | trivial) (by first | omega | assumption | trivial)) (fun r94 f_t_foundOtherwise_held_94 f_t_foundOtherwise_before_94 h11 => ?_)
          refine ok_o (sp_X3_isSameAs c_t_found_size_74 f_t_found_held_74 c_t_foundOtherwise_size_86 f_t_foundOtherwise_held_94 (by first | omega | assumption | trivial) (by first | omega | assumption | trivial) (by first | omega | assumption | trivial) (by first | omega | assumption | trivial)) (fun r106 h12 => ?_)
          have h12 : r106.toInt = 0 ∨ r106.toInt = 1 := h12
          refine ok_eq (fun c13 => ?_) (fun c13 => ?_)
          · exact ok_s (show ((0 : Int32).toInt = 0 ∨ (0 : Int32).toInt = 1) ∧ 0 ≤ c_t_factors_parts_size_86.toInt ∧ c_t_factors_parts_size_86.toInt ≤ 12 ∧ 0 ≤ c_t_found_size_74.toInt ∧ c_t_found_size_74.toInt ≤ 12 ∧ 0 ≤ c_t_foundOtherwise_size_86.toInt ∧ c_t_foundOtherwise_size_86.toInt ≤ 12 from by first | omega | assumption | trivial | (refine ⟨?_, ?_⟩ <;> first | omega | assumption | trivial | rfl) | (refine ⟨?_, ?_, ?_⟩ <;> first | omega | assumption | trivial | rfl) | (refine ⟨?_, ?_, ?_, ?_⟩ <;> first | omega | assumption | trivial | rfl) | (refine ⟨?_, ?_, ?_, ?_, ?_⟩ <;> first | omega | assumption | trivial | rfl) | (refine ⟨?_, ?_, ?_, ?_, ?_, ?_⟩ <;> first | omega | assumption | trivial | rfl) | (refine ⟨?_, ?_, ?_, ?_, ?_, ?_, ?_⟩ <;> first | omega | assumption | trivial | rfl) | (refine ⟨?_, ?_, ?_, ?_, ?_, ?_, ?_, ?_⟩ <;> first | omega | assumption | trivial | rfl))
          · refine ok_o (sp_X3_multipliedAll c_t_found_size_74 f_t_found_held_74 (by first | omega | assumption | trivial) (by first | omega | assumption | trivial)) (fun r116 h14 => ?_)
            refine ok_eqL (fun c15 => ?_) (fun c15 => ?_)
            · refine ok_o (sp_X6_isWheel x1_10 ) (fun r127 h16 => ?_)
              have h16 : r127.toInt = 0 ∨ r127.toInt = 1 := h16
              refine ok_eq (fun c17 => ?_) (fun c17 => ?_)
              · exact ok_s (show ((1 : Int32).toInt = 0 ∨ (1 : Int32).toInt = 1) ∧ 0 ≤ c_t_factors_parts_size_86.toInt ∧ c_t_factors_parts_size_86.toInt ≤ 12 ∧ 0 ≤ c_t_found_size_74.toInt ∧ c_t_found_size_74.toInt ≤ 12 ∧ 0 ≤ c_t_foundOtherwise_size_86.toInt ∧ c_t_foundOtherwise_size_86.toInt ≤ 12 from by first | omega | assumption | trivial | (refine ⟨?_, ?_⟩ <;> first | omega | assumption | trivial | rfl) | (refine ⟨?_, ?_, ?_⟩ <;> first | omega | assumption | trivial | rfl) | (refine ⟨?_, ?_, ?_, ?_⟩ <;> first | omega | assumption | trivial | rfl) | (refine ⟨?_, ?_, ?_, ?_, ?_⟩ <;> first | omega | assumption | trivial | rfl) | (refine ⟨?_, ?_, ?_, ?_, ?_, ?_⟩ <;> first | omega | assumption | trivial | rfl) | (refine ⟨?_, ?_, ?_, ?_, ?_, ?_, ?_⟩ <;> first | omega | assumption | trivial | rfl) | (refine ⟨?_, ?_, ?_, ?_, ?_, ?_, ?_, ?_⟩ <;> first | omega | assumption | trivial | rfl))
              · refine ok_o (sp_X6_periodByMultiplying x1_10 ) (fun r134 h18 => ?_)
                refine ok_o3 (sp_X7_periodByFactors f_t_found_held_74 x1_10 ) (fun r139 c_t_found_size_139 f_t_found_held_139 h19 => ?_)
                have h19 : 0 ≤ c_t_found_size_139.toInt ∧ c_t_found_size_139.toInt ≤ 12 := h19
                refine ok_eq (fun c20 => ?_) (fun c20 => ?_)
                · exact ok_s (show ((1 : Int32).toInt = 0 ∨ (1 : Int32).toInt = 1) ∧ 0 ≤ c_t_factors_parts_size_86.toInt ∧ c_t_factors_parts_size_86.toInt ≤ 12 ∧ 0 ≤ c_t_found_size_139.toInt ∧ c_t_found_size_139.toInt ≤ 12 ∧ 0 ≤ c_t_foundOtherwise_size_86.toInt ∧ c_t_foundOtherwise_size_86.toInt ≤ 12 from by first | omega | assumption | trivial | (refine ⟨?_, ?_⟩ <;> first | omega | assumption | trivial | rfl) | (refine ⟨?_, ?_, ?_⟩ <;> first | omega | assumption | trivial | rfl) | (refine ⟨?_, ?_, ?_, ?_⟩ <;> first | omega | assumption | trivial | rfl) | (refine ⟨?_, ?_, ?_, ?_, ?_⟩ <;> first | omega | assumption | trivial | rfl) | (refine ⟨?_, ?_, ?_, ?_, ?_, ?_⟩ <;> first | omega | assumption | trivial | rfl) | (refine ⟨?_, ?_, ?_, ?_, ?_, ?_, ?_⟩ <;> first | omega | assumption | trivial | rfl) | (refine ⟨?_, ?_, ?_, ?_, ?_, ?_, ?_, ?_⟩ <;> first | omega | assumption | trivial | rfl))
                · exact ok_s (show ((0 : Int32).toInt = 0 ∨ (0 : Int32).toInt = 1) ∧ 0 ≤ c_t_factors_parts_size_86.toInt ∧ c_t_factors_parts_size_86.toInt ≤ 12 ∧ 0 ≤ c_t_found_size_139.toInt ∧ c_t_found_size_139.toInt ≤ 12 ∧ 0 ≤ c_t_foundOtherwise_size_86.toInt ∧ c_t_foundOtherwise_size_86.toInt ≤ 12 from by first | omega | assumption | trivial | (refine ⟨?_, ?_⟩ <;> first | omega | assumption | trivial | rfl) | (refine ⟨?_, ?_, ?_⟩ <;> first | omega | assumption | trivial | rfl) | (refine ⟨?_, ?_, ?_, ?_⟩ <;> first | omega | assumption | trivial | rfl) | (refine ⟨?_, ?_, ?_, ?_, ?_⟩ <;> first | omega | assumption | trivial | rfl) | (refine ⟨?_, ?_, ?_, ?_, ?_, ?_⟩ <;> first | omega | assumption | trivial | rfl) | (refine ⟨?_, ?_, ?_, ?_, ?_, ?_, ?_⟩ <;> first | omega | assumption | trivial | rfl) | (refine ⟨?_, ?_, ?_, ?_, ?_, ?_, ?_, ?_⟩ <;> first | omega | assumption | trivial | rfl))
            · exact ok_s (show ((0 : Int32).toInt = 0 ∨ (0 : Int32).toInt = 1) ∧ 0 ≤ c_t_factors_parts_size_86.toInt ∧ c_t_factors_parts_size_86.toInt ≤ 12 ∧ 0 ≤ c_t_found_size_74.toInt ∧ c_t_found_size_74.toInt ≤ 12 ∧ 0 ≤ c_t_foundOtherwise_size_86.toInt ∧ c_t_foundOtherwise_size_86.toInt ≤ 12 from by first | omega | assumption | trivial | (refine ⟨?_, ?_⟩ <;> first | omega | assumption | trivial | rfl) | (refine ⟨?_, ?_, ?_⟩ <;> first | omega | assumption | trivial | rfl) | (refine ⟨?_, ?_, ?_, ?_⟩ <;> first | omega | assumption | trivial | rfl) | (refine ⟨?_, ?_, ?_, ?_, ?_⟩ <;> first | omega | assumption | trivial | rfl) | (refine ⟨?_, ?_, ?_, ?_, ?_, ?_⟩ <;> first | omega | assumption | trivial | rfl) | (refine ⟨?_, ?_, ?_, ?_, ?_, ?_, ?_⟩ <;> first | omega | assumption | trivial | rfl) | (refine ⟨?_, ?_, ?_, ?_, ?_, ?_, ?_, ?_⟩ <;> first | omega | assumption | trivial | rfl))
        · exact ok_s (show ((1 : Int32).toInt = 0 ∨ (1 : Int32).toInt = 1) ∧ 0 ≤ c_t_factors_parts_size.toInt ∧ c_t_factors_parts_size.toInt ≤ 12 ∧ 0 ≤ c_t_found_size.toInt ∧ c_t_found_size.toInt ≤ 12 ∧ 0 ≤ c_t_foundOtherwise_size.toInt ∧ c_t_foundOtherwise_size.toInt ≤ 12 from by first | omega | assumption | trivial | (refine ⟨?_, ?_⟩ <;> first | omega | assumption | trivial | rfl) | (refine ⟨?_, ?_, ?_⟩ <;> first | omega | assumption | trivial | rfl) | (refine ⟨?_, ?_, ?_, ?_⟩ <;> first | omega | assumption | trivial | rfl) | (refine ⟨?_, ?_, ?_, ?_, ?_⟩ <;> first | omega | assumption | trivial | rfl) | (refine ⟨?_, ?_, ?_, ?_, ?_, ?_⟩ <;> first | omega | assumption | trivial | rfl) | (refine ⟨?_, ?_, ?_, ?_, ?_, ?_, ?_⟩ <;> first | omega | assumption | trivial | rfl) | (refine ⟨?_, ?_, ?_, ?_, ?_, ?_, ?_, ?_⟩ <;> first | omega | assumption | trivial | rfl))
set_option maxHeartbeats 1000000 in
theorem sp_X7_digest (c_t_acts : Int32) (c_t_refusals : Int32) (c_t_knocks : Int32) (f_t_forms : Nat → Int64) (c_t_roll_size : Int32) (f_t_roll_held : Nat → Int64) (c_t_row_taps : Int64) (c_t_row_cells : Int64) (c_t_rows_first : Int64) (c_t_rows_ofOne : Int64) (c_t_rows_ofOther : Int64) (c_t_rows_second : Int64) (c_t_rows_secondOfOne : Int64) (c_t_rows_secondOfOther : Int64) (c_t_factors_parts_size : Int32) (f_t_factors_parts_held : Nat → Int64) (c_t_found_size : Int32) (f_t_found_held : Nat → Int64) (c_t_foundOtherwise_size : Int32) (f_t_foundOtherwise_held : Nat → Int64) (f_t_foundOtherwise_before : Nat → Int64) (hp0 : 0 ≤ c_t_roll_size.toInt) (hp1 : c_t_roll_size.toInt ≤ 12) (hp2 : 0 ≤ c_t_factors_parts_size.toInt) (hp3 : c_t_factors_parts_size.toInt ≤ 12) (hp4 : 0 ≤ c_t_found_size.toInt) (hp5 : c_t_found_size.toInt ≤ 12) (hp6 : 0 ≤ c_t_foundOtherwise_size.toInt) (hp7 : c_t_foundOtherwise_size.toInt ≤ 12) : ok (F_X7_digest c_t_acts c_t_refusals c_t_knocks f_t_forms c_t_roll_size f_t_roll_held c_t_row_taps c_t_row_cells c_t_rows_first c_t_rows_ofOne c_t_rows_ofOther c_t_rows_second c_t_rows_secondOfOne c_t_rows_secondOfOther c_t_factors_parts_size f_t_factors_parts_held c_t_found_size f_t_found_held c_t_foundOtherwise_size f_t_foundOtherwise_held f_t_foundOtherwise_before) (fun r => r.1 = 0 ∧ 0 ≤ r.2.2.2.2.2.2.2.2.1.toInt ∧ r.2.2.2.2.2.2.2.2.1.toInt ≤ 12 ∧ 0 ≤ r.2.2.2.2.2.2.2.2.2.2.1.toInt ∧ r.2.2.2.2.2.2.2.2.2.2.1.toInt ≤ 12 ∧ 0 ≤ r.2.2.2.2.2.2.2.2.2.2.2.2.1.toInt ∧ r.2.2.2.2.2.2.2.2.2.2.2.2.1.toInt ≤ 12) := by
  have l032 : (0 : Int32).toInt = 0 := by decide
  have l064 : (0 : Int64).toInt = 0 := by decide
  have l132 : (1 : Int32).toInt = 1 := by decide
  have l164 : (1 : Int64).toInt = 1 := by decide
  have l532 : (5 : Int32).toInt = 5 := by decide
  have l632 : (6 : Int32).toInt = 6 := by decide
  have l802964 : (8029 : Int64).toInt = 8029 := by decide
  unfold F_X7_digest
  refine ok_L2 (fun y1_6 y3_6 => 0 ≤ y3_6.toInt) (fun y1_6 y3_6 => (6 - y3_6.toInt + 1).toNat) (fun ih6 y1_6 y3_6 hI1 hih1 => ?_) 20000 (8029 : Int64) (0 : Int32) (show 0 ≤ (0 : Int32).toInt from by first | omega | assumption | trivial | (refine ⟨?_, ?_⟩ <;> first | omega | assumption | trivial | rfl) | (refine ⟨?_, ?_, ?_⟩ <;> first | omega | assumption | trivial | rfl) | (refine ⟨?_, ?_, ?_, ?_⟩ <;> first | omega | assumption | trivial | rfl) | (refine ⟨?_, ?_, ?_, ?_, ?_⟩ <;> first | omega | assumption | trivial | rfl) | (refine ⟨?_, ?_, ?_, ?_, ?_, ?_⟩ <;> first | omega | assumption | trivial | rfl) | (refine ⟨?_, ?_, ?_, ?_, ?_, ?_, ?_⟩ <;> first | omega | assumption | trivial | rfl) | (refine ⟨?_, ?_, ?_, ?_, ?_, ?_, ?_, ?_⟩ <;> first | omega | assumption | trivial | rfl)) (show (6 - (0 : Int32).toInt + 1).toNat < 20000 from by omega)
  have hI1 : 0 ≤ y3_6.toInt := hI1
  unfold S_X7_digest_6
  refine ok_le (fun c2 => ?_) (fun c2 => ?_)
  · refine ok_o (sp_X7_mixed y1_6 c_t_roll_size.toInt64 ) (fun r38 h3 => ?_)
    refine ok_L2 (fun y1_44 y3_44 => 0 ≤ y3_44.toInt) (fun y1_44 y3_44 => (c_t_roll_size.toInt - y3_44.toInt + 1).toNat) (fun ih44 y1_44 y3_44 hI4 hih4 => ?_) 20000 r38 (0 : Int32) (show 0 ≤ (0 : Int32).toInt from by first | omega | assumption | trivial | (refine ⟨?_, ?_⟩ <;> first | omega | assumption | trivial | rfl) | (refine ⟨?_, ?_, ?_⟩ <;> first | omega | assumption | trivial | rfl) | (refine ⟨?_, ?_, ?_, ?_⟩ <;> first | omega | assumption | trivial | rfl) | (refine ⟨?_, ?_, ?_, ?_, ?_⟩ <;> first | omega | assumption | trivial | rfl) | (refine ⟨?_, ?_, ?_, ?_, ?_, ?_⟩ <;> first | omega | assumption | trivial | rfl) | (refine ⟨?_, ?_, ?_, ?_, ?_, ?_, ?_⟩ <;> first | omega | assumption | trivial | rfl) | (refine ⟨?_, ?_, ?_, ?_, ?_, ?_, ?_, ?_⟩ <;> first | omega | assumption | trivial | rfl)) (show (c_t_roll_size.toInt - (0 : Int32).toInt + 1).toNat < 20000 from by omega)
    have hI4 : 0 ≤ y3_44.toInt := hI4
    unfold S_X7_digest_44
    refine ok_le (fun c5 => ?_) (fun c5 => ?_)
    · refine ok_o (sp_X7_mixed y1_44 c_t_row_taps ) (fun r103 h6 => ?_)
      refine ok_o (sp_X0_degreeOf c_t_row_taps ) (fun r114 h7 => ?_)
      have h7 : r114.toInt = DG c_t_row_taps ∧ -1 ≤ r114.toInt ∧ r114.toInt ≤ 63 := h7
      refine ok_L2 (fun y1_121 y4_121 => 0 ≤ y4_121.toInt) (fun y1_121 y4_121 => (r114.toInt - y4_121.toInt + 1).toNat) (fun ih121 y1_121 y4_121 hI8 hih8 => ?_) 20000 r103 (0 : Int32) (show 0 ≤ (0 : Int32).toInt from by first | omega | assumption | trivial | (refine ⟨?_, ?_⟩ <;> first | omega | assumption | trivial | rfl) | (refine ⟨?_, ?_, ?_⟩ <;> first | omega | assumption | trivial | rfl) | (refine ⟨?_, ?_, ?_, ?_⟩ <;> first | omega | assumption | trivial | rfl) | (refine ⟨?_, ?_, ?_, ?_, ?_⟩ <;> first | omega | assumption | trivial | rfl) | (refine ⟨?_, ?_, ?_, ?_, ?_, ?_⟩ <;> first | omega | assumption | trivial | rfl) | (refine ⟨?_, ?_, ?_, ?_, ?_, ?_, ?_⟩ <;> first | omega | assumption | trivial | rfl) | (refine ⟨?_, ?_, ?_, ?_, ?_, ?_, ?_, ?_⟩ <;> first | omega | assumption | trivial | rfl)) (show (r114.toInt - (0 : Int32).toInt + 1).toNat < 20000 from by omega)
      have hI8 : 0 ≤ y4_121.toInt := hI8
      unfold S_X7_digest_121
      refine ok_le (fun c9 => ?_) (fun c9 => ?_)
      · refine ok_L2 (fun y1_161 y4_161 => 0 ≤ y4_161.toInt) (fun y1_161 y4_161 => (6 - y4_161.toInt).toNat) (fun ih161 y1_161 y4_161 hI10 hih10 => ?_) 66 y1_121 (0 : Int32) (show 0 ≤ (0 : Int32).toInt from by first | omega | assumption | trivial | (refine ⟨?_, ?_⟩ <;> first | omega | assumption | trivial | rfl) | (refine ⟨?_, ?_, ?_⟩ <;> first | omega | assumption | trivial | rfl) | (refine ⟨?_, ?_, ?_, ?_⟩ <;> first | omega | assumption | trivial | rfl) | (refine ⟨?_, ?_, ?_, ?_, ?_⟩ <;> first | omega | assumption | trivial | rfl) | (refine ⟨?_, ?_, ?_, ?_, ?_, ?_⟩ <;> first | omega | assumption | trivial | rfl) | (refine ⟨?_, ?_, ?_, ?_, ?_, ?_, ?_⟩ <;> first | omega | assumption | trivial | rfl) | (refine ⟨?_, ?_, ?_, ?_, ?_, ?_, ?_, ?_⟩ <;> first | omega | assumption | trivial | rfl)) (show (6 - (0 : Int32).toInt).toNat < 66 from by omega)
        have hI10 : 0 ≤ y4_161.toInt := hI10
        unfold S_X7_digest_161
        refine ok_lt (fun c11 => ?_) (fun c11 => ?_)
        · refine ok_o14 (sp_X7_isSound f_t_forms c_t_row_taps c_t_rows_first c_t_rows_ofOne c_t_rows_ofOther c_t_rows_second c_t_rows_secondOfOne c_t_rows_secondOfOther c_t_factors_parts_size f_t_factors_parts_held c_t_found_size f_t_found_held c_t_foundOtherwise_size f_t_foundOtherwise_held f_t_foundOtherwise_before (by first | omega | assumption | trivial) (by first | omega | assumption | trivial) (by first | omega | assumption | trivial) (by first | omega | assumption | trivial) (by first | omega | assumption | trivial) (by first | omega | assumption | trivial)) (fun r187 c_t_rows_first_187 c_t_rows_ofOne_187 c_t_rows_ofOther_187 c_t_rows_second_187 c_t_rows_secondOfOne_187 c_t_rows_secondOfOther_187 c_t_factors_parts_size_187 f_t_factors_parts_held_187 c_t_found_size_187 f_t_found_held_187 c_t_foundOtherwise_size_187 f_t_foundOtherwise_held_187 f_t_foundOtherwise_before_187 h12 => ?_)
          have h12 : (r187.toInt = 0 ∨ r187.toInt = 1) ∧ 0 ≤ c_t_factors_parts_size_187.toInt ∧ c_t_factors_parts_size_187.toInt ≤ 12 ∧ 0 ≤ c_t_found_size_187.toInt ∧ c_t_found_size_187.toInt ≤ 12 ∧ 0 ≤ c_t_foundOtherwise_size_187.toInt ∧ c_t_foundOtherwise_size_187.toInt ≤ 12 := h12
          refine ok_eq (fun c13 => ?_) (fun c13 => ?_)
          · refine ok_o (sp_X7_mixed y1_161 (0 : Int64) ) (fun r198 h14 => ?_)
            exact ok_s (show 0 = 0 ∧ 0 ≤ c_t_factors_parts_size_187.toInt ∧ c_t_factors_parts_size_187.toInt ≤ 12 ∧ 0 ≤ c_t_found_size_187.toInt ∧ c_t_found_size_187.toInt ≤ 12 ∧ 0 ≤ c_t_foundOtherwise_size_187.toInt ∧ c_t_foundOtherwise_size_187.toInt ≤ 12 from by first | omega | assumption | trivial | (refine ⟨?_, ?_⟩ <;> first | omega | assumption | trivial | rfl) | (refine ⟨?_, ?_, ?_⟩ <;> first | omega | assumption | trivial | rfl) | (refine ⟨?_, ?_, ?_, ?_⟩ <;> first | omega | assumption | trivial | rfl) | (refine ⟨?_, ?_, ?_, ?_, ?_⟩ <;> first | omega | assumption | trivial | rfl) | (refine ⟨?_, ?_, ?_, ?_, ?_, ?_⟩ <;> first | omega | assumption | trivial | rfl) | (refine ⟨?_, ?_, ?_, ?_, ?_, ?_, ?_⟩ <;> first | omega | assumption | trivial | rfl) | (refine ⟨?_, ?_, ?_, ?_, ?_, ?_, ?_, ?_⟩ <;> first | omega | assumption | trivial | rfl))
          · refine ok_o (sp_X7_mixed y1_161 (1 : Int64) ) (fun r198_2 h15 => ?_)
            exact ok_s (show 0 = 0 ∧ 0 ≤ c_t_factors_parts_size_187.toInt ∧ c_t_factors_parts_size_187.toInt ≤ 12 ∧ 0 ≤ c_t_found_size_187.toInt ∧ c_t_found_size_187.toInt ≤ 12 ∧ 0 ≤ c_t_foundOtherwise_size_187.toInt ∧ c_t_foundOtherwise_size_187.toInt ≤ 12 from by first | omega | assumption | trivial | (refine ⟨?_, ?_⟩ <;> first | omega | assumption | trivial | rfl) | (refine ⟨?_, ?_, ?_⟩ <;> first | omega | assumption | trivial | rfl) | (refine ⟨?_, ?_, ?_, ?_⟩ <;> first | omega | assumption | trivial | rfl) | (refine ⟨?_, ?_, ?_, ?_, ?_⟩ <;> first | omega | assumption | trivial | rfl) | (refine ⟨?_, ?_, ?_, ?_, ?_, ?_⟩ <;> first | omega | assumption | trivial | rfl) | (refine ⟨?_, ?_, ?_, ?_, ?_, ?_, ?_⟩ <;> first | omega | assumption | trivial | rfl) | (refine ⟨?_, ?_, ?_, ?_, ?_, ?_, ?_, ?_⟩ <;> first | omega | assumption | trivial | rfl))
        · refine ok_o2 (sp_X7_house c_t_acts c_t_refusals c_t_knocks f_t_forms c_t_roll_size c_t_row_taps y4_161 ) (fun xc171 r171 h16 => ?_)
          have h16 : (xc171 = 0 ∧ 0 ≤ y4_161.toInt ∧ y4_161.toInt ≤ 5) ∨ (xc171 = 2 ∧ (y4_161.toInt < 0 ∨ 5 < y4_161.toInt)) := h16
          refine ok_i (fun c17 => ?_) (fun c17 => ?_)
          · refine ok_o (sp_X7_mixed y1_161 r171.toInt64 ) (fun r175 h18 => ?_)
            refine ok_bx (fun x4_179 e_x4_179 => ?_)
            try have t_x4_179 : x4_179.toInt = y4_161.toInt + 1 := by rw [e_x4_179]; exact addT1 (show (1 : Int32).toInt = 1 from by decide) (by omega) (by omega)
            exact hih10 r175 x4_179 (show 0 ≤ x4_179.toInt from by first | omega | assumption | trivial | (refine ⟨?_, ?_⟩ <;> first | omega | assumption | trivial | rfl) | (refine ⟨?_, ?_, ?_⟩ <;> first | omega | assumption | trivial | rfl) | (refine ⟨?_, ?_, ?_, ?_⟩ <;> first | omega | assumption | trivial | rfl) | (refine ⟨?_, ?_, ?_, ?_, ?_⟩ <;> first | omega | assumption | trivial | rfl) | (refine ⟨?_, ?_, ?_, ?_, ?_, ?_⟩ <;> first | omega | assumption | trivial | rfl) | (refine ⟨?_, ?_, ?_, ?_, ?_, ?_, ?_⟩ <;> first | omega | assumption | trivial | rfl) | (refine ⟨?_, ?_, ?_, ?_, ?_, ?_, ?_, ?_⟩ <;> first | omega | assumption | trivial | rfl)) (show (6 - x4_179.toInt).toNat < (6 - y4_161.toInt).toNat from by omega)
          · exact ok_s (show xc171 = 0 ∧ 0 ≤ c_t_factors_parts_size.toInt ∧ c_t_factors_parts_size.toInt ≤ 12 ∧ 0 ≤ c_t_found_size.toInt ∧ c_t_found_size.toInt ≤ 12 ∧ 0 ≤ c_t_foundOtherwise_size.toInt ∧ c_t_foundOtherwise_size.toInt ≤ 12 from by first | omega | assumption | trivial | (refine ⟨?_, ?_⟩ <;> first | omega | assumption | trivial | rfl) | (refine ⟨?_, ?_, ?_⟩ <;> first | omega | assumption | trivial | rfl) | (refine ⟨?_, ?_, ?_, ?_⟩ <;> first | omega | assumption | trivial | rfl) | (refine ⟨?_, ?_, ?_, ?_, ?_⟩ <;> first | omega | assumption | trivial | rfl) | (refine ⟨?_, ?_, ?_, ?_, ?_, ?_⟩ <;> first | omega | assumption | trivial | rfl) | (refine ⟨?_, ?_, ?_, ?_, ?_, ?_, ?_⟩ <;> first | omega | assumption | trivial | rfl) | (refine ⟨?_, ?_, ?_, ?_, ?_, ?_, ?_, ?_⟩ <;> first | omega | assumption | trivial | rfl))
      · refine ok_o (sp_X0_hasOne c_t_row_cells y4_121 ) (fun r137 h19 => ?_)
        have h19 : r137.toInt = 0 ∨ r137.toInt = 1 := h19
        refine ok_eq (fun c20 => ?_) (fun c20 => ?_)
        · first | unfold J_X7_digest_148 | skip
          refine ok_o (sp_X7_mixed y1_121 (0 : Int64) ) (fun r148 h21 => ?_)
          refine ok_bx (fun x4_152 e_x4_152 => ?_)
          try have t_x4_152 : x4_152.toInt = y4_121.toInt + 1 := by rw [e_x4_152]; exact addT1 (show (1 : Int32).toInt = 1 from by decide) (by omega) (by omega)
          exact hih8 r148 x4_152 (show 0 ≤ x4_152.toInt from by first | omega | assumption | trivial | (refine ⟨?_, ?_⟩ <;> first | omega | assumption | trivial | rfl) | (refine ⟨?_, ?_, ?_⟩ <;> first | omega | assumption | trivial | rfl) | (refine ⟨?_, ?_, ?_, ?_⟩ <;> first | omega | assumption | trivial | rfl) | (refine ⟨?_, ?_, ?_, ?_, ?_⟩ <;> first | omega | assumption | trivial | rfl) | (refine ⟨?_, ?_, ?_, ?_, ?_, ?_⟩ <;> first | omega | assumption | trivial | rfl) | (refine ⟨?_, ?_, ?_, ?_, ?_, ?_, ?_⟩ <;> first | omega | assumption | trivial | rfl) | (refine ⟨?_, ?_, ?_, ?_, ?_, ?_, ?_, ?_⟩ <;> first | omega | assumption | trivial | rfl)) (show (r114.toInt - x4_152.toInt + 1).toNat < (r114.toInt - y4_121.toInt + 1).toNat from by omega)
        · first | unfold J_X7_digest_148 | skip
          refine ok_o (sp_X7_mixed y1_121 (1 : Int64) ) (fun r148_2 h22 => ?_)
          refine ok_bx (fun x4_152_2 e_x4_152_2 => ?_)
          try have t_x4_152_2 : x4_152_2.toInt = y4_121.toInt + 1 := by rw [e_x4_152_2]; exact addT1 (show (1 : Int32).toInt = 1 from by decide) (by omega) (by omega)
          exact hih8 r148_2 x4_152_2 (show 0 ≤ x4_152_2.toInt from by first | omega | assumption | trivial | (refine ⟨?_, ?_⟩ <;> first | omega | assumption | trivial | rfl) | (refine ⟨?_, ?_, ?_⟩ <;> first | omega | assumption | trivial | rfl) | (refine ⟨?_, ?_, ?_, ?_⟩ <;> first | omega | assumption | trivial | rfl) | (refine ⟨?_, ?_, ?_, ?_, ?_⟩ <;> first | omega | assumption | trivial | rfl) | (refine ⟨?_, ?_, ?_, ?_, ?_, ?_⟩ <;> first | omega | assumption | trivial | rfl) | (refine ⟨?_, ?_, ?_, ?_, ?_, ?_, ?_⟩ <;> first | omega | assumption | trivial | rfl) | (refine ⟨?_, ?_, ?_, ?_, ?_, ?_, ?_, ?_⟩ <;> first | omega | assumption | trivial | rfl)) (show (r114.toInt - x4_152_2.toInt + 1).toNat < (r114.toInt - y4_121.toInt + 1).toNat from by omega)
    · refine ok_o (sp_X3_at c_t_roll_size f_t_roll_held y3_44 (by first | omega | assumption | trivial) (by first | omega | assumption | trivial)) (fun r61 h23 => ?_)
      refine ok_o (sp_X0_degreeOf r61 ) (fun r64 h24 => ?_)
      have h24 : r64.toInt = DG r61 ∧ -1 ≤ r64.toInt ∧ r64.toInt ≤ 63 := h24
      refine ok_o (sp_X7_mixed y1_44 r64.toInt64 ) (fun r68 h25 => ?_)
      refine ok_o (sp_X3_at c_t_roll_size f_t_roll_held y3_44 (by first | omega | assumption | trivial) (by first | omega | assumption | trivial)) (fun r78 h26 => ?_)
      refine ok_o (sp_X0_onesOf r78 ) (fun r81 h27 => ?_)
      refine ok_o (sp_X7_mixed r68 r81.toInt64 ) (fun r85 h28 => ?_)
      refine ok_bx (fun x3_89 e_x3_89 => ?_)
      try have t_x3_89 : x3_89.toInt = y3_44.toInt + 1 := by rw [e_x3_89]; exact addT1 (show (1 : Int32).toInt = 1 from by decide) (by omega) (by omega)
      exact hih4 r85 x3_89 (show 0 ≤ x3_89.toInt from by first | omega | assumption | trivial | (refine ⟨?_, ?_⟩ <;> first | omega | assumption | trivial | rfl) | (refine ⟨?_, ?_, ?_⟩ <;> first | omega | assumption | trivial | rfl) | (refine ⟨?_, ?_, ?_, ?_⟩ <;> first | omega | assumption | trivial | rfl) | (refine ⟨?_, ?_, ?_, ?_, ?_⟩ <;> first | omega | assumption | trivial | rfl) | (refine ⟨?_, ?_, ?_, ?_, ?_, ?_⟩ <;> first | omega | assumption | trivial | rfl) | (refine ⟨?_, ?_, ?_, ?_, ?_, ?_, ?_⟩ <;> first | omega | assumption | trivial | rfl) | (refine ⟨?_, ?_, ?_, ?_, ?_, ?_, ?_, ?_⟩ <;> first | omega | assumption | trivial | rfl)) (show (c_t_roll_size.toInt - x3_89.toInt + 1).toNat < (c_t_roll_size.toInt - y3_44.toInt + 1).toNat from by omega)
  · refine ok_c (ixo (by omega) (by omega)) ?_
    refine ok_o (sp_X7_digestOfForm y1_6 (f_t_forms y3_6.toNatClampNeg) ) (fun r19 h29 => ?_)
    refine ok_bx (fun x3_23 e_x3_23 => ?_)
    try have t_x3_23 : x3_23.toInt = y3_6.toInt + 1 := by rw [e_x3_23]; exact addT1 (show (1 : Int32).toInt = 1 from by decide) (by omega) (by omega)
    exact hih1 r19 x3_23 (show 0 ≤ x3_23.toInt from by first | omega | assumption | trivial | (refine ⟨?_, ?_⟩ <;> first | omega | assumption | trivial | rfl) | (refine ⟨?_, ?_, ?_⟩ <;> first | omega | assumption | trivial | rfl) | (refine ⟨?_, ?_, ?_, ?_⟩ <;> first | omega | assumption | trivial | rfl) | (refine ⟨?_, ?_, ?_, ?_, ?_⟩ <;> first | omega | assumption | trivial | rfl) | (refine ⟨?_, ?_, ?_, ?_, ?_, ?_⟩ <;> first | omega | assumption | trivial | rfl) | (refine ⟨?_, ?_, ?_, ?_, ?_, ?_, ?_⟩ <;> first | omega | assumption | trivial | rfl) | (refine ⟨?_, ?_, ?_, ?_, ?_, ?_, ?_, ?_⟩ <;> first | omega | assumption | trivial | rfl)) (show (6 - x3_23.toInt + 1).toNat < (6 - y3_6.toInt + 1).toNat from by omega)
set_option maxHeartbeats 1000000 in
theorem sp_J6_numberOfTrailingZeros_0f7a4 (p0 : Int32)  : ok (F_J6_numberOfTrailingZeros_0f7a4 p0) (fun r => True) := by
  have lm132 : (-1 : Int32).toInt = -1 := by decide
  have l032 : (0 : Int32).toInt = 0 := by decide
  have l132 : (1 : Int32).toInt = 1 := by decide
  have l232 : (2 : Int32).toInt = 2 := by decide
  have l432 : (4 : Int32).toInt = 4 := by decide
  have l832 : (8 : Int32).toInt = 8 := by decide
  have l1632 : (16 : Int32).toInt = 16 := by decide
  have l3232 : (32 : Int32).toInt = 32 := by decide
  have l25632 : (256 : Int32).toInt = 256 := by decide
  have l6553632 : (65536 : Int32).toInt = 65536 := by decide
  unfold F_J6_numberOfTrailingZeros_0f7a4
  refine ok_bx (fun x0_7 e_x0_7 => ?_)
  refine ok_lt (fun c1 => ?_) (fun c1 => ?_)
  · refine ok_le (fun c2 => ?_) (fun c2 => ?_)
    · first | unfold J_J6_numberOfTrailingZeros_0f7a4_34 | skip
      refine ok_le (fun c3 => ?_) (fun c3 => ?_)
      · first | unfold J_J6_numberOfTrailingZeros_0f7a4_49 | skip
        refine ok_le (fun c4 => ?_) (fun c4 => ?_)
        · first | unfold J_J6_numberOfTrailingZeros_0f7a4_62 | skip
          refine ok_le (fun c5 => ?_) (fun c5 => ?_)
          · first | unfold J_J6_numberOfTrailingZeros_0f7a4_74 | skip
            exact ok_s trivial
          · refine ok_bx (fun x1_67 e_x1_67 => ?_)
            refine ok_bx (fun x0_73 e_x0_73 => ?_)
            first | unfold J_J6_numberOfTrailingZeros_0f7a4_74 | skip
            exact ok_s trivial
        · refine ok_bx (fun x1_55 e_x1_55 => ?_)
          refine ok_bx (fun x0_61 e_x0_61 => ?_)
          first | unfold J_J6_numberOfTrailingZeros_0f7a4_62 | skip
          refine ok_le (fun c6 => ?_) (fun c6 => ?_)
          · first | unfold J_J6_numberOfTrailingZeros_0f7a4_74 | skip
            exact ok_s trivial
          · refine ok_bx (fun x1_67_2 e_x1_67_2 => ?_)
            try have t_x1_67_2 : x1_67_2.toInt = x1_55.toInt + 2 := by rw [e_x1_67_2]; exact addT1 (show (2 : Int32).toInt = 2 from by decide) (by omega) (by omega)
            refine ok_bx (fun x0_73_2 e_x0_73_2 => ?_)
            first | unfold J_J6_numberOfTrailingZeros_0f7a4_74 | skip
            exact ok_s trivial
      · refine ok_bx (fun x1_41 e_x1_41 => ?_)
        refine ok_bx (fun x0_48 e_x0_48 => ?_)
        first | unfold J_J6_numberOfTrailingZeros_0f7a4_49 | skip
        refine ok_le (fun c7 => ?_) (fun c7 => ?_)
        · first | unfold J_J6_numberOfTrailingZeros_0f7a4_62 | skip
          refine ok_le (fun c8 => ?_) (fun c8 => ?_)
          · first | unfold J_J6_numberOfTrailingZeros_0f7a4_74 | skip
            exact ok_s trivial
          · refine ok_bx (fun x1_67_3 e_x1_67_3 => ?_)
            try have t_x1_67_3 : x1_67_3.toInt = x1_41.toInt + 2 := by rw [e_x1_67_3]; exact addT1 (show (2 : Int32).toInt = 2 from by decide) (by omega) (by omega)
            refine ok_bx (fun x0_73_3 e_x0_73_3 => ?_)
            first | unfold J_J6_numberOfTrailingZeros_0f7a4_74 | skip
            exact ok_s trivial
        · refine ok_bx (fun x1_55_2 e_x1_55_2 => ?_)
          try have t_x1_55_2 : x1_55_2.toInt = x1_41.toInt + 4 := by rw [e_x1_55_2]; exact addT1 (show (4 : Int32).toInt = 4 from by decide) (by omega) (by omega)
          refine ok_bx (fun x0_61_2 e_x0_61_2 => ?_)
          first | unfold J_J6_numberOfTrailingZeros_0f7a4_62 | skip
          refine ok_le (fun c9 => ?_) (fun c9 => ?_)
          · first | unfold J_J6_numberOfTrailingZeros_0f7a4_74 | skip
            exact ok_s trivial
          · refine ok_bx (fun x1_67_4 e_x1_67_4 => ?_)
            try have t_x1_67_4 : x1_67_4.toInt = x1_55_2.toInt + 2 := by rw [e_x1_67_4]; exact addT1 (show (2 : Int32).toInt = 2 from by decide) (by omega) (by omega)
            refine ok_bx (fun x0_73_4 e_x0_73_4 => ?_)
            first | unfold J_J6_numberOfTrailingZeros_0f7a4_74 | skip
            exact ok_s trivial
    · refine ok_bx (fun x1_26 e_x1_26 => ?_)
      refine ok_bx (fun x0_33 e_x0_33 => ?_)
      first | unfold J_J6_numberOfTrailingZeros_0f7a4_34 | skip
      refine ok_le (fun c10 => ?_) (fun c10 => ?_)
      · first | unfold J_J6_numberOfTrailingZeros_0f7a4_49 | skip
        refine ok_le (fun c11 => ?_) (fun c11 => ?_)
        · first | unfold J_J6_numberOfTrailingZeros_0f7a4_62 | skip
          refine ok_le (fun c12 => ?_) (fun c12 => ?_)
          · first | unfold J_J6_numberOfTrailingZeros_0f7a4_74 | skip
            exact ok_s trivial
          · refine ok_bx (fun x1_67_5 e_x1_67_5 => ?_)
            try have t_x1_67_5 : x1_67_5.toInt = x1_26.toInt + 2 := by rw [e_x1_67_5]; exact addT1 (show (2 : Int32).toInt = 2 from by decide) (by omega) (by omega)
            refine ok_bx (fun x0_73_5 e_x0_73_5 => ?_)
            first | unfold J_J6_numberOfTrailingZeros_0f7a4_74 | skip
            exact ok_s trivial
        · refine ok_bx (fun x1_55_3 e_x1_55_3 => ?_)
          try have t_x1_55_3 : x1_55_3.toInt = x1_26.toInt + 4 := by rw [e_x1_55_3]; exact addT1 (show (4 : Int32).toInt = 4 from by decide) (by omega) (by omega)
          refine ok_bx (fun x0_61_3 e_x0_61_3 => ?_)
          first | unfold J_J6_numberOfTrailingZeros_0f7a4_62 | skip
          refine ok_le (fun c13 => ?_) (fun c13 => ?_)
          · first | unfold J_J6_numberOfTrailingZeros_0f7a4_74 | skip
            exact ok_s trivial
          · refine ok_bx (fun x1_67_6 e_x1_67_6 => ?_)
            try have t_x1_67_6 : x1_67_6.toInt = x1_55_3.toInt + 2 := by rw [e_x1_67_6]; exact addT1 (show (2 : Int32).toInt = 2 from by decide) (by omega) (by omega)
            refine ok_bx (fun x0_73_6 e_x0_73_6 => ?_)
            first | unfold J_J6_numberOfTrailingZeros_0f7a4_74 | skip
            exact ok_s trivial
      · refine ok_bx (fun x1_41_2 e_x1_41_2 => ?_)
        try have t_x1_41_2 : x1_41_2.toInt = x1_26.toInt + 8 := by rw [e_x1_41_2]; exact addT1 (show (8 : Int32).toInt = 8 from by decide) (by omega) (by omega)
        refine ok_bx (fun x0_48_2 e_x0_48_2 => ?_)
        first | unfold J_J6_numberOfTrailingZeros_0f7a4_49 | skip
        refine ok_le (fun c14 => ?_) (fun c14 => ?_)
        · first | unfold J_J6_numberOfTrailingZeros_0f7a4_62 | skip
          refine ok_le (fun c15 => ?_) (fun c15 => ?_)
          · first | unfold J_J6_numberOfTrailingZeros_0f7a4_74 | skip
            exact ok_s trivial
          · refine ok_bx (fun x1_67_7 e_x1_67_7 => ?_)
            try have t_x1_67_7 : x1_67_7.toInt = x1_41_2.toInt + 2 := by rw [e_x1_67_7]; exact addT1 (show (2 : Int32).toInt = 2 from by decide) (by omega) (by omega)
            refine ok_bx (fun x0_73_7 e_x0_73_7 => ?_)
            first | unfold J_J6_numberOfTrailingZeros_0f7a4_74 | skip
            exact ok_s trivial
        · refine ok_bx (fun x1_55_4 e_x1_55_4 => ?_)
          try have t_x1_55_4 : x1_55_4.toInt = x1_41_2.toInt + 4 := by rw [e_x1_55_4]; exact addT1 (show (4 : Int32).toInt = 4 from by decide) (by omega) (by omega)
          refine ok_bx (fun x0_61_4 e_x0_61_4 => ?_)
          first | unfold J_J6_numberOfTrailingZeros_0f7a4_62 | skip
          refine ok_le (fun c16 => ?_) (fun c16 => ?_)
          · first | unfold J_J6_numberOfTrailingZeros_0f7a4_74 | skip
            exact ok_s trivial
          · refine ok_bx (fun x1_67_8 e_x1_67_8 => ?_)
            try have t_x1_67_8 : x1_67_8.toInt = x1_55_4.toInt + 2 := by rw [e_x1_67_8]; exact addT1 (show (2 : Int32).toInt = 2 from by decide) (by omega) (by omega)
            refine ok_bx (fun x0_73_8 e_x0_73_8 => ?_)
            first | unfold J_J6_numberOfTrailingZeros_0f7a4_74 | skip
            exact ok_s trivial
  · exact ok_s trivial
set_option maxHeartbeats 1000000 in
theorem sp_J13_numberOfTrailingZeros_95d88 (p0 : Int64)  : ok (F_J13_numberOfTrailingZeros_95d88 p0) (fun r => True) := by
  have l032 : (0 : Int32).toInt = 0 := by decide
  have l3232 : (32 : Int32).toInt = 32 := by decide
  unfold F_J13_numberOfTrailingZeros_95d88
  refine ok_bx (fun x2_2 e_x2_2 => ?_)
  have t_x2_2 : x2_2.toInt = p0.toInt32.toInt := by rw [e_x2_2]
  refine ok_eq (fun c1 => ?_) (fun c1 => ?_)
  · refine ok_o (sp_J6_numberOfTrailingZeros_0f7a4 (((p0.toUInt64 >>> ((32 : Int32).toInt64.toUInt64 &&& Int64.toUInt64 63)).toInt64).toInt32) ) (fun r14 h2 => ?_)
    exact ok_s trivial
  · refine ok_o (sp_J6_numberOfTrailingZeros_0f7a4 x2_2 ) (fun r22 h3 => ?_)
    exact ok_s trivial
set_option maxHeartbeats 1000000 in
theorem sp_X9_lowestOf (p0 : Int64)  : ok (F_X9_lowestOf p0) (fun r => True) := by
  have lm132 : (-1 : Int32).toInt = -1 := by decide
  have l064 : (0 : Int64).toInt = 0 := by decide
  unfold F_X9_lowestOf
  have z_c1 := DG_z p0
  refine ok_eqL (fun c1 => ?_) (fun c1 => ?_)
  · exact ok_s trivial
  · refine ok_o (sp_J13_numberOfTrailingZeros_95d88 p0 ) (fun r11 h2 => ?_)
    exact ok_s trivial
set_option maxHeartbeats 1000000 in
theorem sp_X9_commonOf (p0 : Int64) (p1 : Int64) (hp0 : DG p0 ≤ 39) (hp1 : DG p1 ≤ 39) : ok (F_X9_commonOf p0 p1) (fun r => DG r ≤ 39) := by
  have l064 : (0 : Int64).toInt = 0 := by decide
  have gg := DG_63 p1
  unfold F_X9_commonOf
  refine ok_L2 (fun y4_6 y6_6 => DG y4_6 ≤ 39 ∧ DG y6_6 ≤ 39) (fun y4_6 y6_6 => (DG y6_6 + 1).toNat) (fun ih6 y4_6 y6_6 hI1 hih1 => ?_) 20000 p0 p1 (show DG p0 ≤ 39 ∧ DG p1 ≤ 39 from by first | omega | assumption | trivial | (refine ⟨?_, ?_⟩ <;> first | omega | assumption | trivial | rfl) | (refine ⟨?_, ?_, ?_⟩ <;> first | omega | assumption | trivial | rfl) | (refine ⟨?_, ?_, ?_, ?_⟩ <;> first | omega | assumption | trivial | rfl) | (refine ⟨?_, ?_, ?_, ?_, ?_⟩ <;> first | omega | assumption | trivial | rfl) | (refine ⟨?_, ?_, ?_, ?_, ?_, ?_⟩ <;> first | omega | assumption | trivial | rfl) | (refine ⟨?_, ?_, ?_, ?_, ?_, ?_, ?_⟩ <;> first | omega | assumption | trivial | rfl) | (refine ⟨?_, ?_, ?_, ?_, ?_, ?_, ?_, ?_⟩ <;> first | omega | assumption | trivial | rfl)) (show (DG p1 + 1).toNat < 20000 from by omega)
  have hI1 : DG y4_6 ≤ 39 ∧ DG y6_6 ≤ 39 := hI1
  unfold S_X9_commonOf_6
  have gy := DG_ge y6_6
  have z_c2 := DG_z y6_6
  refine ok_eqL (fun c2 => ?_) (fun c2 => ?_)
  · exact ok_s (show DG y4_6 ≤ 39 from by first | omega | assumption | trivial | (refine ⟨?_, ?_⟩ <;> first | omega | assumption | trivial | rfl) | (refine ⟨?_, ?_, ?_⟩ <;> first | omega | assumption | trivial | rfl) | (refine ⟨?_, ?_, ?_, ?_⟩ <;> first | omega | assumption | trivial | rfl) | (refine ⟨?_, ?_, ?_, ?_, ?_⟩ <;> first | omega | assumption | trivial | rfl) | (refine ⟨?_, ?_, ?_, ?_, ?_, ?_⟩ <;> first | omega | assumption | trivial | rfl) | (refine ⟨?_, ?_, ?_, ?_, ?_, ?_, ?_⟩ <;> first | omega | assumption | trivial | rfl) | (refine ⟨?_, ?_, ?_, ?_, ?_, ?_, ?_, ?_⟩ <;> first | omega | assumption | trivial | rfl))
  · refine ok_o (sp_X9_restOf y4_6 y6_6 (by first | omega | assumption | trivial | exact wt_of (by assumption) (by omega)) (by first | omega | assumption | trivial | exact wt_of (by assumption) (by omega)) (by first | omega | assumption | trivial | exact wt_of (by assumption) (by omega))) (fun r17 h3 => ?_)
    have h3 : -1 ≤ DG r17 ∧ DG r17 < DG y6_6 ∧ DG r17 ≤ DG y4_6 := h3
    exact hih1 y6_6 r17 (show DG y6_6 ≤ 39 ∧ DG r17 ≤ 39 from by first | omega | assumption | trivial | (refine ⟨?_, ?_⟩ <;> first | omega | assumption | trivial | rfl) | (refine ⟨?_, ?_, ?_⟩ <;> first | omega | assumption | trivial | rfl) | (refine ⟨?_, ?_, ?_, ?_⟩ <;> first | omega | assumption | trivial | rfl) | (refine ⟨?_, ?_, ?_, ?_, ?_⟩ <;> first | omega | assumption | trivial | rfl) | (refine ⟨?_, ?_, ?_, ?_, ?_, ?_⟩ <;> first | omega | assumption | trivial | rfl) | (refine ⟨?_, ?_, ?_, ?_, ?_, ?_, ?_⟩ <;> first | omega | assumption | trivial | rfl) | (refine ⟨?_, ?_, ?_, ?_, ?_, ?_, ?_, ?_⟩ <;> first | omega | assumption | trivial | rfl)) (show (DG r17 + 1).toNat < (DG y6_6 + 1).toNat from by omega)
set_option maxHeartbeats 1000000 in
theorem sp_X9_isDivided (p0 : Int64) (p1 : Int64) (hp0 : DG p0 ≤ 39) (hp1 : DG p1 ≤ 39) : ok (F_X9_isDivided p0 p1) (fun r => r.toInt = 0 ∨ r.toInt = 1) := by
  have l032 : (0 : Int32).toInt = 0 := by decide
  have l064 : (0 : Int64).toInt = 0 := by decide
  have l132 : (1 : Int32).toInt = 1 := by decide
  unfold F_X9_isDivided
  have z_c1 := DG_z p1
  refine ok_eqL (fun c1 => ?_) (fun c1 => ?_)
  · have z_c2 := DG_z p0
    refine ok_eqL (fun c2 => ?_) (fun c2 => ?_)
    · exact ok_s (show (1 : Int32).toInt = 0 ∨ (1 : Int32).toInt = 1 from by first | omega | assumption | trivial | (refine ⟨?_, ?_⟩ <;> first | omega | assumption | trivial | rfl) | (refine ⟨?_, ?_, ?_⟩ <;> first | omega | assumption | trivial | rfl) | (refine ⟨?_, ?_, ?_, ?_⟩ <;> first | omega | assumption | trivial | rfl) | (refine ⟨?_, ?_, ?_, ?_, ?_⟩ <;> first | omega | assumption | trivial | rfl) | (refine ⟨?_, ?_, ?_, ?_, ?_, ?_⟩ <;> first | omega | assumption | trivial | rfl) | (refine ⟨?_, ?_, ?_, ?_, ?_, ?_, ?_⟩ <;> first | omega | assumption | trivial | rfl) | (refine ⟨?_, ?_, ?_, ?_, ?_, ?_, ?_, ?_⟩ <;> first | omega | assumption | trivial | rfl))
    · exact ok_s (show (0 : Int32).toInt = 0 ∨ (0 : Int32).toInt = 1 from by first | omega | assumption | trivial | (refine ⟨?_, ?_⟩ <;> first | omega | assumption | trivial | rfl) | (refine ⟨?_, ?_, ?_⟩ <;> first | omega | assumption | trivial | rfl) | (refine ⟨?_, ?_, ?_, ?_⟩ <;> first | omega | assumption | trivial | rfl) | (refine ⟨?_, ?_, ?_, ?_, ?_⟩ <;> first | omega | assumption | trivial | rfl) | (refine ⟨?_, ?_, ?_, ?_, ?_, ?_⟩ <;> first | omega | assumption | trivial | rfl) | (refine ⟨?_, ?_, ?_, ?_, ?_, ?_, ?_⟩ <;> first | omega | assumption | trivial | rfl) | (refine ⟨?_, ?_, ?_, ?_, ?_, ?_, ?_, ?_⟩ <;> first | omega | assumption | trivial | rfl))
  · refine ok_o (sp_X9_restOf p0 p1 (by first | omega | assumption | trivial | exact wt_of (by assumption) (by omega)) (by first | omega | assumption | trivial | exact wt_of (by assumption) (by omega)) (by first | omega | assumption | trivial | exact wt_of (by assumption) (by omega))) (fun r22 h3 => ?_)
    have h3 : -1 ≤ DG r22 ∧ DG r22 < DG p1 ∧ DG r22 ≤ DG p0 := h3
    have z_c4 := DG_z r22
    refine ok_eqL (fun c4 => ?_) (fun c4 => ?_)
    · exact ok_s (show (1 : Int32).toInt = 0 ∨ (1 : Int32).toInt = 1 from by first | omega | assumption | trivial | (refine ⟨?_, ?_⟩ <;> first | omega | assumption | trivial | rfl) | (refine ⟨?_, ?_, ?_⟩ <;> first | omega | assumption | trivial | rfl) | (refine ⟨?_, ?_, ?_, ?_⟩ <;> first | omega | assumption | trivial | rfl) | (refine ⟨?_, ?_, ?_, ?_, ?_⟩ <;> first | omega | assumption | trivial | rfl) | (refine ⟨?_, ?_, ?_, ?_, ?_, ?_⟩ <;> first | omega | assumption | trivial | rfl) | (refine ⟨?_, ?_, ?_, ?_, ?_, ?_, ?_⟩ <;> first | omega | assumption | trivial | rfl) | (refine ⟨?_, ?_, ?_, ?_, ?_, ?_, ?_, ?_⟩ <;> first | omega | assumption | trivial | rfl))
    · exact ok_s (show (0 : Int32).toInt = 0 ∨ (0 : Int32).toInt = 1 from by first | omega | assumption | trivial | (refine ⟨?_, ?_⟩ <;> first | omega | assumption | trivial | rfl) | (refine ⟨?_, ?_, ?_⟩ <;> first | omega | assumption | trivial | rfl) | (refine ⟨?_, ?_, ?_, ?_⟩ <;> first | omega | assumption | trivial | rfl) | (refine ⟨?_, ?_, ?_, ?_, ?_⟩ <;> first | omega | assumption | trivial | rfl) | (refine ⟨?_, ?_, ?_, ?_, ?_, ?_⟩ <;> first | omega | assumption | trivial | rfl) | (refine ⟨?_, ?_, ?_, ?_, ?_, ?_, ?_⟩ <;> first | omega | assumption | trivial | rfl) | (refine ⟨?_, ?_, ?_, ?_, ?_, ?_, ?_, ?_⟩ <;> first | omega | assumption | trivial | rfl))
set_option maxHeartbeats 1000000 in
theorem sp_X9_turnedOf (p0 : Int64) (hp0 : DG p0 ≤ 39) : ok (F_X9_turnedOf p0) (fun r => DG r ≤ 39) := by
  have l032 : (0 : Int32).toInt = 0 := by decide
  have l064 : (0 : Int64).toInt = 0 := by decide
  have l132 : (1 : Int32).toInt = 1 := by decide
  have l164 : (1 : Int64).toInt = 1 := by decide
  have g0 := DG_0
  unfold F_X9_turnedOf
  refine ok_o (sp_X9_degreeOf p0 ) (fun r3 h1 => ?_)
  have h1 : r3.toInt = DG p0 ∧ -1 ≤ r3.toInt ∧ r3.toInt ≤ 63 := h1
  refine ok_L2 (fun y2_11 y5_11 => 0 ≤ y5_11.toInt ∧ DG y2_11 ≤ 39) (fun y2_11 y5_11 => (r3.toInt - y5_11.toInt + 1).toNat) (fun ih11 y2_11 y5_11 hI2 hih2 => ?_) 20000 (0 : Int64) (0 : Int32) (show 0 ≤ (0 : Int32).toInt ∧ DG (0 : Int64) ≤ 39 from by first | omega | assumption | trivial | (refine ⟨?_, ?_⟩ <;> first | omega | assumption | trivial | rfl) | (refine ⟨?_, ?_, ?_⟩ <;> first | omega | assumption | trivial | rfl) | (refine ⟨?_, ?_, ?_, ?_⟩ <;> first | omega | assumption | trivial | rfl) | (refine ⟨?_, ?_, ?_, ?_, ?_⟩ <;> first | omega | assumption | trivial | rfl) | (refine ⟨?_, ?_, ?_, ?_, ?_, ?_⟩ <;> first | omega | assumption | trivial | rfl) | (refine ⟨?_, ?_, ?_, ?_, ?_, ?_, ?_⟩ <;> first | omega | assumption | trivial | rfl) | (refine ⟨?_, ?_, ?_, ?_, ?_, ?_, ?_, ?_⟩ <;> first | omega | assumption | trivial | rfl)) (show (r3.toInt - (0 : Int32).toInt + 1).toNat < 20000 from by omega)
  have hI2 : 0 ≤ y5_11.toInt ∧ DG y2_11 ≤ 39 := hI2
  unfold S_X9_turnedOf_11
  refine ok_lt (fun c3 => ?_) (fun c3 => ?_)
  · exact ok_s (show DG y2_11 ≤ 39 from by first | omega | assumption | trivial | (refine ⟨?_, ?_⟩ <;> first | omega | assumption | trivial | rfl) | (refine ⟨?_, ?_, ?_⟩ <;> first | omega | assumption | trivial | rfl) | (refine ⟨?_, ?_, ?_, ?_⟩ <;> first | omega | assumption | trivial | rfl) | (refine ⟨?_, ?_, ?_, ?_, ?_⟩ <;> first | omega | assumption | trivial | rfl) | (refine ⟨?_, ?_, ?_, ?_, ?_, ?_⟩ <;> first | omega | assumption | trivial | rfl) | (refine ⟨?_, ?_, ?_, ?_, ?_, ?_, ?_⟩ <;> first | omega | assumption | trivial | rfl) | (refine ⟨?_, ?_, ?_, ?_, ?_, ?_, ?_, ?_⟩ <;> first | omega | assumption | trivial | rfl))
  · have hsub : (r3 - y5_11).toInt = r3.toInt - y5_11.toInt := subT (by omega) (by omega)
    have hk : DG (((p0 >>> (y5_11.toInt64 &&& 63)) &&& (1 : Int64)) <<< ((r3 - y5_11).toInt64 &&& 63)) ≤ 39 := DG_shlx (by rw [hsub]; omega) (by rw [hsub]; omega) (by have := DG_a1 (p0 >>> (y5_11.toInt64 &&& 63)); rw [hsub]; omega) (by decide) (by decide)
    refine ok_bx (fun x2_32 e_x2_32 => ?_)
    have d_x2 : DG x2_32 ≤ 39 := by rw [e_x2_32]; exact DG_or (by omega) hk
    refine ok_bx (fun x5_33 e_x5_33 => ?_)
    try have t_x5_33 : x5_33.toInt = y5_11.toInt + 1 := by rw [e_x5_33]; exact addT1 (show (1 : Int32).toInt = 1 from by decide) (by omega) (by omega)
    exact hih2 x2_32 x5_33 (show 0 ≤ x5_33.toInt ∧ DG x2_32 ≤ 39 from by first | omega | assumption | trivial | (refine ⟨?_, ?_⟩ <;> first | omega | assumption | trivial | rfl) | (refine ⟨?_, ?_, ?_⟩ <;> first | omega | assumption | trivial | rfl) | (refine ⟨?_, ?_, ?_, ?_⟩ <;> first | omega | assumption | trivial | rfl) | (refine ⟨?_, ?_, ?_, ?_, ?_⟩ <;> first | omega | assumption | trivial | rfl) | (refine ⟨?_, ?_, ?_, ?_, ?_, ?_⟩ <;> first | omega | assumption | trivial | rfl) | (refine ⟨?_, ?_, ?_, ?_, ?_, ?_, ?_⟩ <;> first | omega | assumption | trivial | rfl) | (refine ⟨?_, ?_, ?_, ?_, ?_, ?_, ?_, ?_⟩ <;> first | omega | assumption | trivial | rfl)) (show (r3.toInt - x5_33.toInt + 1).toNat < (r3.toInt - y5_11.toInt + 1).toNat from by omega)
set_option maxHeartbeats 1000000 in
theorem sp_X9_powerOf (p0 : Int64) (p1 : Int32) (p2 : Int64) (hp0 : DG p0 ≤ 39) (hp1 : 0 ≤ DG p2) (hp2 : DG p2 ≤ 20) (hp3 : 0 ≤ p1.toInt) (hp4 : p1.toInt ≤ 255) : ok (F_X9_powerOf p0 p1 p2) (fun r => DG r ≤ 39) := by
  have l032 : (0 : Int32).toInt = 0 := by decide
  have l132 : (1 : Int32).toInt = 1 := by decide
  have l164 : (1 : Int64).toInt = 1 := by decide
  have g1 := DG_1
  unfold F_X9_powerOf
  refine ok_o (sp_X9_restOf (1 : Int64) p2 (by first | omega | assumption | trivial | exact wt_of (by assumption) (by omega)) (by first | omega | assumption | trivial | exact wt_of (by assumption) (by omega)) (by first | omega | assumption | trivial | exact wt_of (by assumption) (by omega))) (fun r2 h1 => ?_)
  have h1 : -1 ≤ DG r2 ∧ DG r2 < DG p2 ∧ DG r2 ≤ DG (1 : Int64) := h1
  refine ok_o (sp_X9_restOf p0 p2 (by first | omega | assumption | trivial | exact wt_of (by assumption) (by omega)) (by first | omega | assumption | trivial | exact wt_of (by assumption) (by omega)) (by first | omega | assumption | trivial | exact wt_of (by assumption) (by omega))) (fun r9 h2 => ?_)
  have h2 : -1 ≤ DG r9 ∧ DG r9 < DG p2 ∧ DG r9 ≤ DG p0 := h2
  refine ok_L2 (fun y5_17 y9_17 => 0 ≤ y9_17.toInt ∧ DG y5_17 < DG p2) (fun y5_17 y9_17 => (p1.toInt - y9_17.toInt + 1).toNat) (fun ih17 y5_17 y9_17 hI3 hih3 => ?_) 20000 r2 (0 : Int32) (show 0 ≤ (0 : Int32).toInt ∧ DG r2 < DG p2 from by first | omega | assumption | trivial | (refine ⟨?_, ?_⟩ <;> first | omega | assumption | trivial | rfl) | (refine ⟨?_, ?_, ?_⟩ <;> first | omega | assumption | trivial | rfl) | (refine ⟨?_, ?_, ?_, ?_⟩ <;> first | omega | assumption | trivial | rfl) | (refine ⟨?_, ?_, ?_, ?_, ?_⟩ <;> first | omega | assumption | trivial | rfl) | (refine ⟨?_, ?_, ?_, ?_, ?_, ?_⟩ <;> first | omega | assumption | trivial | rfl) | (refine ⟨?_, ?_, ?_, ?_, ?_, ?_, ?_⟩ <;> first | omega | assumption | trivial | rfl) | (refine ⟨?_, ?_, ?_, ?_, ?_, ?_, ?_, ?_⟩ <;> first | omega | assumption | trivial | rfl)) (show (p1.toInt - (0 : Int32).toInt + 1).toNat < 20000 from by omega)
  have hI3 : 0 ≤ y9_17.toInt ∧ DG y5_17 < DG p2 := hI3
  unfold S_X9_powerOf_17
  have gy := DG_ge y5_17
  refine ok_le (fun c4 => ?_) (fun c4 => ?_)
  · exact ok_s (show DG y5_17 ≤ 39 from by first | omega | assumption | trivial | (refine ⟨?_, ?_⟩ <;> first | omega | assumption | trivial | rfl) | (refine ⟨?_, ?_, ?_⟩ <;> first | omega | assumption | trivial | rfl) | (refine ⟨?_, ?_, ?_, ?_⟩ <;> first | omega | assumption | trivial | rfl) | (refine ⟨?_, ?_, ?_, ?_, ?_⟩ <;> first | omega | assumption | trivial | rfl) | (refine ⟨?_, ?_, ?_, ?_, ?_, ?_⟩ <;> first | omega | assumption | trivial | rfl) | (refine ⟨?_, ?_, ?_, ?_, ?_, ?_, ?_⟩ <;> first | omega | assumption | trivial | rfl) | (refine ⟨?_, ?_, ?_, ?_, ?_, ?_, ?_, ?_⟩ <;> first | omega | assumption | trivial | rfl))
  · refine ok_o (sp_X9_productOf y5_17 r9 (by first | omega | assumption | trivial | exact wt_of (by assumption) (by omega)) (by first | omega | assumption | trivial | exact wt_of (by assumption) (by omega))) (fun r27 h5 => ?_)
    have h5 : ((DG y5_17 = -1 ∨ DG r9 = -1) ∧ DG r27 = -1) ∨ (0 ≤ DG y5_17 ∧ 0 ≤ DG r9 ∧ DG r27 = DG y5_17 + DG r9) := h5
    refine ok_o (sp_X9_restOf r27 p2 (by first | omega | assumption | trivial | exact wt_of (by assumption) (by omega)) (by first | omega | assumption | trivial | exact wt_of (by assumption) (by omega)) (by first | omega | assumption | trivial | exact wt_of (by assumption) (by omega))) (fun r31 h6 => ?_)
    have h6 : -1 ≤ DG r31 ∧ DG r31 < DG p2 ∧ DG r31 ≤ DG r27 := h6
    refine ok_bx (fun x9_36 e_x9_36 => ?_)
    try have t_x9_36 : x9_36.toInt = y9_17.toInt + 1 := by rw [e_x9_36]; exact addT1 (show (1 : Int32).toInt = 1 from by decide) (by omega) (by omega)
    exact hih3 r31 x9_36 (show 0 ≤ x9_36.toInt ∧ DG r31 < DG p2 from by first | omega | assumption | trivial | (refine ⟨?_, ?_⟩ <;> first | omega | assumption | trivial | rfl) | (refine ⟨?_, ?_, ?_⟩ <;> first | omega | assumption | trivial | rfl) | (refine ⟨?_, ?_, ?_, ?_⟩ <;> first | omega | assumption | trivial | rfl) | (refine ⟨?_, ?_, ?_, ?_, ?_⟩ <;> first | omega | assumption | trivial | rfl) | (refine ⟨?_, ?_, ?_, ?_, ?_, ?_⟩ <;> first | omega | assumption | trivial | rfl) | (refine ⟨?_, ?_, ?_, ?_, ?_, ?_, ?_⟩ <;> first | omega | assumption | trivial | rfl) | (refine ⟨?_, ?_, ?_, ?_, ?_, ?_, ?_, ?_⟩ <;> first | omega | assumption | trivial | rfl)) (show (p1.toInt - x9_36.toInt + 1).toNat < (p1.toInt - y9_17.toInt + 1).toNat from by omega)
set_option maxHeartbeats 1000000 in
theorem sp_X9_isPrimeNow (p0 : Int64) (hp0 : DG p0 ≤ 10) : ok (F_X9_isPrimeNow p0) (fun r => r.toInt = 0 ∨ r.toInt = 1) := by
  have l032 : (0 : Int32).toInt = 0 := by decide
  have l064 : (0 : Int64).toInt = 0 := by decide
  have l132 : (1 : Int32).toInt = 1 := by decide
  have l164 : (1 : Int64).toInt = 1 := by decide
  have l232 : (2 : Int32).toInt = 2 := by decide
  have l264 : (2 : Int64).toInt = 2 := by decide
  unfold F_X9_isPrimeNow
  refine ok_o (sp_X9_degreeOf p0 ) (fun r1 h1 => ?_)
  have h1 : r1.toInt = DG p0 ∧ -1 ≤ r1.toInt ∧ r1.toInt ≤ 63 := h1
  refine ok_le (fun c2 => ?_) (fun c2 => ?_)
  · refine ok_L1 (fun y2_14 => 2 ≤ y2_14.toInt ∧ y2_14.toInt ≤ 64) (fun y2_14 => (65 - y2_14.toInt).toNat) (fun ih14 y2_14 hI3 hih3 => ?_) 20000 (2 : Int64) (show 2 ≤ (2 : Int64).toInt ∧ (2 : Int64).toInt ≤ 64 from by first | omega | assumption | trivial | (refine ⟨?_, ?_⟩ <;> first | omega | assumption | trivial | rfl) | (refine ⟨?_, ?_, ?_⟩ <;> first | omega | assumption | trivial | rfl) | (refine ⟨?_, ?_, ?_, ?_⟩ <;> first | omega | assumption | trivial | rfl) | (refine ⟨?_, ?_, ?_, ?_, ?_⟩ <;> first | omega | assumption | trivial | rfl) | (refine ⟨?_, ?_, ?_, ?_, ?_, ?_⟩ <;> first | omega | assumption | trivial | rfl) | (refine ⟨?_, ?_, ?_, ?_, ?_, ?_, ?_⟩ <;> first | omega | assumption | trivial | rfl) | (refine ⟨?_, ?_, ?_, ?_, ?_, ?_, ?_, ?_⟩ <;> first | omega | assumption | trivial | rfl)) (show (65 - (2 : Int64).toInt).toNat < 20000 from by omega)
    have hI3 : 2 ≤ y2_14.toInt ∧ y2_14.toInt ≤ 64 := hI3
    unfold S_X9_isPrimeNow_14
    have gb := DG_by (x := y2_14) (by omega) (by omega)
    refine ok_o (sp_X9_degreeOf y2_14 ) (fun r16 h4 => ?_)
    have h4 : r16.toInt = DG y2_14 ∧ -1 ≤ r16.toInt ∧ r16.toInt ≤ 63 := h4
    refine ok_o (sp_X9_degreeOf p0 ) (fun r21 h5 => ?_)
    have h5 : r21.toInt = DG p0 ∧ -1 ≤ r21.toInt ∧ r21.toInt ≤ 63 := h5
    obtain ⟨w6, e_w6⟩ : ∃ w : Int32, w = (2 : Int32) * r16 := ⟨_, rfl⟩
    try have t_w6 : w6.toInt = 2 * r16.toInt := by rw [e_w6]; exact mulT1 (show (2 : Int32).toInt = 2 from by decide) (by omega) (by omega)
    try rw [← e_w6]
    refine ok_lt (fun c7 => ?_) (fun c7 => ?_)
    · exact ok_s (show (1 : Int32).toInt = 0 ∨ (1 : Int32).toInt = 1 from by first | omega | assumption | trivial | (refine ⟨?_, ?_⟩ <;> first | omega | assumption | trivial | rfl) | (refine ⟨?_, ?_, ?_⟩ <;> first | omega | assumption | trivial | rfl) | (refine ⟨?_, ?_, ?_, ?_⟩ <;> first | omega | assumption | trivial | rfl) | (refine ⟨?_, ?_, ?_, ?_, ?_⟩ <;> first | omega | assumption | trivial | rfl) | (refine ⟨?_, ?_, ?_, ?_, ?_, ?_⟩ <;> first | omega | assumption | trivial | rfl) | (refine ⟨?_, ?_, ?_, ?_, ?_, ?_, ?_⟩ <;> first | omega | assumption | trivial | rfl) | (refine ⟨?_, ?_, ?_, ?_, ?_, ?_, ?_, ?_⟩ <;> first | omega | assumption | trivial | rfl))
    · refine ok_o (sp_X9_restOf p0 y2_14 (by first | omega | assumption | trivial | exact wt_of (by assumption) (by omega)) (by first | omega | assumption | trivial | exact wt_of (by assumption) (by omega)) (by first | omega | assumption | trivial | exact wt_of (by assumption) (by omega))) (fun r29 h8 => ?_)
      have h8 : -1 ≤ DG r29 ∧ DG r29 < DG y2_14 ∧ DG r29 ≤ DG p0 := h8
      have z_c9 := DG_z r29
      refine ok_eqL (fun c9 => ?_) (fun c9 => ?_)
      · exact ok_s (show (0 : Int32).toInt = 0 ∨ (0 : Int32).toInt = 1 from by first | omega | assumption | trivial | (refine ⟨?_, ?_⟩ <;> first | omega | assumption | trivial | rfl) | (refine ⟨?_, ?_, ?_⟩ <;> first | omega | assumption | trivial | rfl) | (refine ⟨?_, ?_, ?_, ?_⟩ <;> first | omega | assumption | trivial | rfl) | (refine ⟨?_, ?_, ?_, ?_, ?_⟩ <;> first | omega | assumption | trivial | rfl) | (refine ⟨?_, ?_, ?_, ?_, ?_, ?_⟩ <;> first | omega | assumption | trivial | rfl) | (refine ⟨?_, ?_, ?_, ?_, ?_, ?_, ?_⟩ <;> first | omega | assumption | trivial | rfl) | (refine ⟨?_, ?_, ?_, ?_, ?_, ?_, ?_, ?_⟩ <;> first | omega | assumption | trivial | rfl))
      · refine ok_bx (fun x2_42 e_x2_42 => ?_)
        try have t_x2_42 : x2_42.toInt = y2_14.toInt + 1 := by rw [e_x2_42]; exact addL1 (show (1 : Int64).toInt = 1 from by decide) (by omega) (by omega)
        exact hih3 x2_42 (show 2 ≤ x2_42.toInt ∧ x2_42.toInt ≤ 64 from by first | omega | assumption | trivial | (refine ⟨?_, ?_⟩ <;> first | omega | assumption | trivial | rfl) | (refine ⟨?_, ?_, ?_⟩ <;> first | omega | assumption | trivial | rfl) | (refine ⟨?_, ?_, ?_, ?_⟩ <;> first | omega | assumption | trivial | rfl) | (refine ⟨?_, ?_, ?_, ?_, ?_⟩ <;> first | omega | assumption | trivial | rfl) | (refine ⟨?_, ?_, ?_, ?_, ?_, ?_⟩ <;> first | omega | assumption | trivial | rfl) | (refine ⟨?_, ?_, ?_, ?_, ?_, ?_, ?_⟩ <;> first | omega | assumption | trivial | rfl) | (refine ⟨?_, ?_, ?_, ?_, ?_, ?_, ?_, ?_⟩ <;> first | omega | assumption | trivial | rfl)) (show (65 - x2_42.toInt).toNat < (65 - y2_14.toInt).toNat from by omega)
  · exact ok_s (show (0 : Int32).toInt = 0 ∨ (0 : Int32).toInt = 1 from by first | omega | assumption | trivial | (refine ⟨?_, ?_⟩ <;> first | omega | assumption | trivial | rfl) | (refine ⟨?_, ?_, ?_⟩ <;> first | omega | assumption | trivial | rfl) | (refine ⟨?_, ?_, ?_, ?_⟩ <;> first | omega | assumption | trivial | rfl) | (refine ⟨?_, ?_, ?_, ?_, ?_⟩ <;> first | omega | assumption | trivial | rfl) | (refine ⟨?_, ?_, ?_, ?_, ?_, ?_⟩ <;> first | omega | assumption | trivial | rfl) | (refine ⟨?_, ?_, ?_, ?_, ?_, ?_, ?_⟩ <;> first | omega | assumption | trivial | rfl) | (refine ⟨?_, ?_, ?_, ?_, ?_, ?_, ?_, ?_⟩ <;> first | omega | assumption | trivial | rfl))
set_option maxHeartbeats 1000000 in
theorem sp_X9_primesOf (p0 : Int32) (hp0 : 1 ≤ p0.toInt) (hp1 : p0.toInt ≤ 10) : ok (F_X9_primesOf p0) (fun r => True) := by
  have l032 : (0 : Int32).toInt = 0 := by decide
  have l132 : (1 : Int32).toInt = 1 := by decide
  have l164 : (1 : Int64).toInt = 1 := by decide
  have l264 : (2 : Int64).toInt = 2 := by decide
  have hs := sh_10 (x := p0) (by omega) (by omega)
  unfold F_X9_primesOf
  refine ok_bx (fun x2_5 e_x2_5 => ?_)
  have t_x2_5 : 1 ≤ x2_5.toInt ∧ x2_5.toInt ≤ 1024 := by rw [e_x2_5]; exact ⟨hs.1, hs.2.1⟩
  refine ok_L2 (fun y1_6 y2_6 => 1 ≤ y2_6.toInt ∧ y2_6.toInt ≤ 2048) (fun y1_6 y2_6 => (2049 - y2_6.toInt).toNat) (fun ih6 y1_6 y2_6 hI1 hih1 => ?_) 20000 (0 : Int32) x2_5 (show 1 ≤ x2_5.toInt ∧ x2_5.toInt ≤ 2048 from by first | omega | assumption | trivial | (refine ⟨?_, ?_⟩ <;> first | omega | assumption | trivial | rfl) | (refine ⟨?_, ?_, ?_⟩ <;> first | omega | assumption | trivial | rfl) | (refine ⟨?_, ?_, ?_, ?_⟩ <;> first | omega | assumption | trivial | rfl) | (refine ⟨?_, ?_, ?_, ?_, ?_⟩ <;> first | omega | assumption | trivial | rfl) | (refine ⟨?_, ?_, ?_, ?_, ?_, ?_⟩ <;> first | omega | assumption | trivial | rfl) | (refine ⟨?_, ?_, ?_, ?_, ?_, ?_, ?_⟩ <;> first | omega | assumption | trivial | rfl) | (refine ⟨?_, ?_, ?_, ?_, ?_, ?_, ?_, ?_⟩ <;> first | omega | assumption | trivial | rfl)) (show (2049 - x2_5.toInt).toNat < 20000 from by omega)
  have hI1 : 1 ≤ y2_6.toInt ∧ y2_6.toInt ≤ 2048 := hI1
  unfold S_X9_primesOf_6
  refine ok_leL (fun c2 => ?_) (fun c2 => ?_)
  · exact ok_s trivial
  · have hd : DG y2_6 < ((11 : Nat) : Int) := DG_lt (by omega) (show y2_6.toInt < 2 ^ 11 from by omega)
    refine ok_o (sp_X9_isPrimeNow y2_6 (by first | omega | assumption | trivial | exact wt_of (by assumption) (by omega))) (fun r18 h3 => ?_)
    have h3 : r18.toInt = 0 ∨ r18.toInt = 1 := h3
    refine ok_eq (fun c4 => ?_) (fun c4 => ?_)
    · refine ok_bx (fun x1_30 e_x1_30 => ?_)
      try have t_x1_30 : x1_30.toInt = y1_6.toInt + 0 := by rw [e_x1_30]; exact addT1 (show (0 : Int32).toInt = 0 from by decide) (by omega) (by omega)
      refine ok_bx (fun x2_34 e_x2_34 => ?_)
      try have t_x2_34 : x2_34.toInt = y2_6.toInt + 1 := by rw [e_x2_34]; exact addL1 (show (1 : Int64).toInt = 1 from by decide) (by omega) (by omega)
      exact hih1 x1_30 x2_34 (show 1 ≤ x2_34.toInt ∧ x2_34.toInt ≤ 2048 from by first | omega | assumption | trivial | (refine ⟨?_, ?_⟩ <;> first | omega | assumption | trivial | rfl) | (refine ⟨?_, ?_, ?_⟩ <;> first | omega | assumption | trivial | rfl) | (refine ⟨?_, ?_, ?_, ?_⟩ <;> first | omega | assumption | trivial | rfl) | (refine ⟨?_, ?_, ?_, ?_, ?_⟩ <;> first | omega | assumption | trivial | rfl) | (refine ⟨?_, ?_, ?_, ?_, ?_, ?_⟩ <;> first | omega | assumption | trivial | rfl) | (refine ⟨?_, ?_, ?_, ?_, ?_, ?_, ?_⟩ <;> first | omega | assumption | trivial | rfl) | (refine ⟨?_, ?_, ?_, ?_, ?_, ?_, ?_, ?_⟩ <;> first | omega | assumption | trivial | rfl)) (show (2049 - x2_34.toInt).toNat < (2049 - y2_6.toInt).toNat from by omega)
    · refine ok_bx (fun x1_30_2 e_x1_30_2 => ?_)
      try have t_x1_30_2 : x1_30_2.toInt = y1_6.toInt + 1 := by rw [e_x1_30_2]; exact addT1 (show (1 : Int32).toInt = 1 from by decide) (by omega) (by omega)
      refine ok_bx (fun x2_34_2 e_x2_34_2 => ?_)
      try have t_x2_34_2 : x2_34_2.toInt = y2_6.toInt + 1 := by rw [e_x2_34_2]; exact addL1 (show (1 : Int64).toInt = 1 from by decide) (by omega) (by omega)
      exact hih1 x1_30_2 x2_34_2 (show 1 ≤ x2_34_2.toInt ∧ x2_34_2.toInt ≤ 2048 from by first | omega | assumption | trivial | (refine ⟨?_, ?_⟩ <;> first | omega | assumption | trivial | rfl) | (refine ⟨?_, ?_, ?_⟩ <;> first | omega | assumption | trivial | rfl) | (refine ⟨?_, ?_, ?_, ?_⟩ <;> first | omega | assumption | trivial | rfl) | (refine ⟨?_, ?_, ?_, ?_, ?_⟩ <;> first | omega | assumption | trivial | rfl) | (refine ⟨?_, ?_, ?_, ?_, ?_, ?_⟩ <;> first | omega | assumption | trivial | rfl) | (refine ⟨?_, ?_, ?_, ?_, ?_, ?_, ?_⟩ <;> first | omega | assumption | trivial | rfl) | (refine ⟨?_, ?_, ?_, ?_, ?_, ?_, ?_, ?_⟩ <;> first | omega | assumption | trivial | rfl)) (show (2049 - x2_34_2.toInt).toNat < (2049 - y2_6.toInt).toNat from by omega)
set_option maxHeartbeats 1000000 in
theorem sp_X9_least (p0 : Int64) (hp0 : 1 ≤ DG p0) (hp1 : DG p0 ≤ 10) : ok (F_X9_least p0) (fun r => 1 ≤ DG r ∧ DG r ≤ DG p0) := by
  have l064 : (0 : Int64).toInt = 0 := by decide
  have l164 : (1 : Int64).toInt = 1 := by decide
  have l232 : (2 : Int32).toInt = 2 := by decide
  have l264 : (2 : Int64).toInt = 2 := by decide
  unfold F_X9_least
  refine ok_L1 (fun y2_4 => 2 ≤ y2_4.toInt ∧ y2_4.toInt ≤ 64) (fun y2_4 => (65 - y2_4.toInt).toNat) (fun ih4 y2_4 hI1 hih1 => ?_) 20000 (2 : Int64) (show 2 ≤ (2 : Int64).toInt ∧ (2 : Int64).toInt ≤ 64 from by first | omega | assumption | trivial | (refine ⟨?_, ?_⟩ <;> first | omega | assumption | trivial | rfl) | (refine ⟨?_, ?_, ?_⟩ <;> first | omega | assumption | trivial | rfl) | (refine ⟨?_, ?_, ?_, ?_⟩ <;> first | omega | assumption | trivial | rfl) | (refine ⟨?_, ?_, ?_, ?_, ?_⟩ <;> first | omega | assumption | trivial | rfl) | (refine ⟨?_, ?_, ?_, ?_, ?_, ?_⟩ <;> first | omega | assumption | trivial | rfl) | (refine ⟨?_, ?_, ?_, ?_, ?_, ?_, ?_⟩ <;> first | omega | assumption | trivial | rfl) | (refine ⟨?_, ?_, ?_, ?_, ?_, ?_, ?_, ?_⟩ <;> first | omega | assumption | trivial | rfl)) (show (65 - (2 : Int64).toInt).toNat < 20000 from by omega)
  have hI1 : 2 ≤ y2_4.toInt ∧ y2_4.toInt ≤ 64 := hI1
  unfold S_X9_least_4
  have gb := DG_by (x := y2_4) (by omega) (by omega)
  refine ok_o (sp_X9_degreeOf y2_4 ) (fun r6 h2 => ?_)
  have h2 : r6.toInt = DG y2_4 ∧ -1 ≤ r6.toInt ∧ r6.toInt ≤ 63 := h2
  refine ok_o (sp_X9_degreeOf p0 ) (fun r11 h3 => ?_)
  have h3 : r11.toInt = DG p0 ∧ -1 ≤ r11.toInt ∧ r11.toInt ≤ 63 := h3
  obtain ⟨w4, e_w4⟩ : ∃ w : Int32, w = (2 : Int32) * r6 := ⟨_, rfl⟩
  try have t_w4 : w4.toInt = 2 * r6.toInt := by rw [e_w4]; exact mulT1 (show (2 : Int32).toInt = 2 from by decide) (by omega) (by omega)
  try rw [← e_w4]
  refine ok_lt (fun c5 => ?_) (fun c5 => ?_)
  · refine ok_o (sp_X9_degreeOf y2_4 ) (fun r36 h6 => ?_)
    have h6 : r36.toInt = DG y2_4 ∧ -1 ≤ r36.toInt ∧ r36.toInt ≤ 63 := h6
    refine ok_o (sp_X9_degreeOf p0 ) (fun r41 h7 => ?_)
    have h7 : r41.toInt = DG p0 ∧ -1 ≤ r41.toInt ∧ r41.toInt ≤ 63 := h7
    obtain ⟨w8, e_w8⟩ : ∃ w : Int32, w = (2 : Int32) * r36 := ⟨_, rfl⟩
    try have t_w8 : w8.toInt = 2 * r36.toInt := by rw [e_w8]; exact mulT1 (show (2 : Int32).toInt = 2 from by decide) (by omega) (by omega)
    try rw [← e_w8]
    refine ok_lt (fun c9 => ?_) (fun c9 => ?_)
    · exact ok_s (show 1 ≤ DG p0 ∧ DG p0 ≤ DG p0 from by first | omega | assumption | trivial | (refine ⟨?_, ?_⟩ <;> first | omega | assumption | trivial | rfl) | (refine ⟨?_, ?_, ?_⟩ <;> first | omega | assumption | trivial | rfl) | (refine ⟨?_, ?_, ?_, ?_⟩ <;> first | omega | assumption | trivial | rfl) | (refine ⟨?_, ?_, ?_, ?_, ?_⟩ <;> first | omega | assumption | trivial | rfl) | (refine ⟨?_, ?_, ?_, ?_, ?_, ?_⟩ <;> first | omega | assumption | trivial | rfl) | (refine ⟨?_, ?_, ?_, ?_, ?_, ?_, ?_⟩ <;> first | omega | assumption | trivial | rfl) | (refine ⟨?_, ?_, ?_, ?_, ?_, ?_, ?_, ?_⟩ <;> first | omega | assumption | trivial | rfl))
    · exact ok_s (show 1 ≤ DG y2_4 ∧ DG y2_4 ≤ DG p0 from by first | omega | assumption | trivial | (refine ⟨?_, ?_⟩ <;> first | omega | assumption | trivial | rfl) | (refine ⟨?_, ?_, ?_⟩ <;> first | omega | assumption | trivial | rfl) | (refine ⟨?_, ?_, ?_, ?_⟩ <;> first | omega | assumption | trivial | rfl) | (refine ⟨?_, ?_, ?_, ?_, ?_⟩ <;> first | omega | assumption | trivial | rfl) | (refine ⟨?_, ?_, ?_, ?_, ?_, ?_⟩ <;> first | omega | assumption | trivial | rfl) | (refine ⟨?_, ?_, ?_, ?_, ?_, ?_, ?_⟩ <;> first | omega | assumption | trivial | rfl) | (refine ⟨?_, ?_, ?_, ?_, ?_, ?_, ?_, ?_⟩ <;> first | omega | assumption | trivial | rfl))
  · refine ok_o (sp_X9_restOf p0 y2_4 (by first | omega | assumption | trivial | exact wt_of (by assumption) (by omega)) (by first | omega | assumption | trivial | exact wt_of (by assumption) (by omega)) (by first | omega | assumption | trivial | exact wt_of (by assumption) (by omega))) (fun r19 h10 => ?_)
    have h10 : -1 ≤ DG r19 ∧ DG r19 < DG y2_4 ∧ DG r19 ≤ DG p0 := h10
    have z_c11 := DG_z r19
    refine ok_eqL (fun c11 => ?_) (fun c11 => ?_)
    · refine ok_o (sp_X9_degreeOf y2_4 ) (fun r36_2 h12 => ?_)
      have h12 : r36_2.toInt = DG y2_4 ∧ -1 ≤ r36_2.toInt ∧ r36_2.toInt ≤ 63 := h12
      refine ok_o (sp_X9_degreeOf p0 ) (fun r41_2 h13 => ?_)
      have h13 : r41_2.toInt = DG p0 ∧ -1 ≤ r41_2.toInt ∧ r41_2.toInt ≤ 63 := h13
      obtain ⟨w14, e_w14⟩ : ∃ w : Int32, w = (2 : Int32) * r36_2 := ⟨_, rfl⟩
      try have t_w14 : w14.toInt = 2 * r36_2.toInt := by rw [e_w14]; exact mulT1 (show (2 : Int32).toInt = 2 from by decide) (by omega) (by omega)
      try rw [← e_w14]
      refine ok_lt (fun c15 => ?_) (fun c15 => ?_)
      · exact ok_s (show 1 ≤ DG p0 ∧ DG p0 ≤ DG p0 from by first | omega | assumption | trivial | (refine ⟨?_, ?_⟩ <;> first | omega | assumption | trivial | rfl) | (refine ⟨?_, ?_, ?_⟩ <;> first | omega | assumption | trivial | rfl) | (refine ⟨?_, ?_, ?_, ?_⟩ <;> first | omega | assumption | trivial | rfl) | (refine ⟨?_, ?_, ?_, ?_, ?_⟩ <;> first | omega | assumption | trivial | rfl) | (refine ⟨?_, ?_, ?_, ?_, ?_, ?_⟩ <;> first | omega | assumption | trivial | rfl) | (refine ⟨?_, ?_, ?_, ?_, ?_, ?_, ?_⟩ <;> first | omega | assumption | trivial | rfl) | (refine ⟨?_, ?_, ?_, ?_, ?_, ?_, ?_, ?_⟩ <;> first | omega | assumption | trivial | rfl))
      · exact ok_s (show 1 ≤ DG y2_4 ∧ DG y2_4 ≤ DG p0 from by first | omega | assumption | trivial | (refine ⟨?_, ?_⟩ <;> first | omega | assumption | trivial | rfl) | (refine ⟨?_, ?_, ?_⟩ <;> first | omega | assumption | trivial | rfl) | (refine ⟨?_, ?_, ?_, ?_⟩ <;> first | omega | assumption | trivial | rfl) | (refine ⟨?_, ?_, ?_, ?_, ?_⟩ <;> first | omega | assumption | trivial | rfl) | (refine ⟨?_, ?_, ?_, ?_, ?_, ?_⟩ <;> first | omega | assumption | trivial | rfl) | (refine ⟨?_, ?_, ?_, ?_, ?_, ?_, ?_⟩ <;> first | omega | assumption | trivial | rfl) | (refine ⟨?_, ?_, ?_, ?_, ?_, ?_, ?_, ?_⟩ <;> first | omega | assumption | trivial | rfl))
    · refine ok_bx (fun x2_30 e_x2_30 => ?_)
      try have t_x2_30 : x2_30.toInt = y2_4.toInt + 1 := by rw [e_x2_30]; exact addL1 (show (1 : Int64).toInt = 1 from by decide) (by omega) (by omega)
      exact hih1 x2_30 (show 2 ≤ x2_30.toInt ∧ x2_30.toInt ≤ 64 from by first | omega | assumption | trivial | (refine ⟨?_, ?_⟩ <;> first | omega | assumption | trivial | rfl) | (refine ⟨?_, ?_, ?_⟩ <;> first | omega | assumption | trivial | rfl) | (refine ⟨?_, ?_, ?_, ?_⟩ <;> first | omega | assumption | trivial | rfl) | (refine ⟨?_, ?_, ?_, ?_, ?_⟩ <;> first | omega | assumption | trivial | rfl) | (refine ⟨?_, ?_, ?_, ?_, ?_, ?_⟩ <;> first | omega | assumption | trivial | rfl) | (refine ⟨?_, ?_, ?_, ?_, ?_, ?_, ?_⟩ <;> first | omega | assumption | trivial | rfl) | (refine ⟨?_, ?_, ?_, ?_, ?_, ?_, ?_, ?_⟩ <;> first | omega | assumption | trivial | rfl)) (show (65 - x2_30.toInt).toNat < (65 - y2_4.toInt).toNat from by omega)
set_option maxHeartbeats 1000000 in
theorem sp_X9_isForm (p0 : Int32)  : ok (F_X9_isForm p0) (fun r => (r.toInt = 1 ∧ 0 ≤ p0.toInt ∧ p0.toInt ≤ 5) ∨ (r.toInt = 0 ∧ (p0.toInt < 0 ∨ 6 ≤ p0.toInt))) := by
  have l032 : (0 : Int32).toInt = 0 := by decide
  have l132 : (1 : Int32).toInt = 1 := by decide
  have l632 : (6 : Int32).toInt = 6 := by decide
  unfold F_X9_isForm
  refine ok_lt (fun c1 => ?_) (fun c1 => ?_)
  · exact ok_s (show ((0 : Int32).toInt = 1 ∧ 0 ≤ p0.toInt ∧ p0.toInt ≤ 5) ∨ ((0 : Int32).toInt = 0 ∧ (p0.toInt < 0 ∨ 6 ≤ p0.toInt)) from by first | omega | assumption | trivial | (refine ⟨?_, ?_⟩ <;> first | omega | assumption | trivial | rfl) | (refine ⟨?_, ?_, ?_⟩ <;> first | omega | assumption | trivial | rfl) | (refine ⟨?_, ?_, ?_, ?_⟩ <;> first | omega | assumption | trivial | rfl) | (refine ⟨?_, ?_, ?_, ?_, ?_⟩ <;> first | omega | assumption | trivial | rfl) | (refine ⟨?_, ?_, ?_, ?_, ?_, ?_⟩ <;> first | omega | assumption | trivial | rfl) | (refine ⟨?_, ?_, ?_, ?_, ?_, ?_, ?_⟩ <;> first | omega | assumption | trivial | rfl) | (refine ⟨?_, ?_, ?_, ?_, ?_, ?_, ?_, ?_⟩ <;> first | omega | assumption | trivial | rfl))
  · refine ok_le (fun c2 => ?_) (fun c2 => ?_)
    · exact ok_s (show ((0 : Int32).toInt = 1 ∧ 0 ≤ p0.toInt ∧ p0.toInt ≤ 5) ∨ ((0 : Int32).toInt = 0 ∧ (p0.toInt < 0 ∨ 6 ≤ p0.toInt)) from by first | omega | assumption | trivial | (refine ⟨?_, ?_⟩ <;> first | omega | assumption | trivial | rfl) | (refine ⟨?_, ?_, ?_⟩ <;> first | omega | assumption | trivial | rfl) | (refine ⟨?_, ?_, ?_, ?_⟩ <;> first | omega | assumption | trivial | rfl) | (refine ⟨?_, ?_, ?_, ?_, ?_⟩ <;> first | omega | assumption | trivial | rfl) | (refine ⟨?_, ?_, ?_, ?_, ?_, ?_⟩ <;> first | omega | assumption | trivial | rfl) | (refine ⟨?_, ?_, ?_, ?_, ?_, ?_, ?_⟩ <;> first | omega | assumption | trivial | rfl) | (refine ⟨?_, ?_, ?_, ?_, ?_, ?_, ?_, ?_⟩ <;> first | omega | assumption | trivial | rfl))
    · exact ok_s (show ((1 : Int32).toInt = 1 ∧ 0 ≤ p0.toInt ∧ p0.toInt ≤ 5) ∨ ((1 : Int32).toInt = 0 ∧ (p0.toInt < 0 ∨ 6 ≤ p0.toInt)) from by first | omega | assumption | trivial | (refine ⟨?_, ?_⟩ <;> first | omega | assumption | trivial | rfl) | (refine ⟨?_, ?_, ?_⟩ <;> first | omega | assumption | trivial | rfl) | (refine ⟨?_, ?_, ?_, ?_⟩ <;> first | omega | assumption | trivial | rfl) | (refine ⟨?_, ?_, ?_, ?_, ?_⟩ <;> first | omega | assumption | trivial | rfl) | (refine ⟨?_, ?_, ?_, ?_, ?_, ?_⟩ <;> first | omega | assumption | trivial | rfl) | (refine ⟨?_, ?_, ?_, ?_, ?_, ?_, ?_⟩ <;> first | omega | assumption | trivial | rfl) | (refine ⟨?_, ?_, ?_, ?_, ?_, ?_, ?_, ?_⟩ <;> first | omega | assumption | trivial | rfl))
set_option maxHeartbeats 1000000 in
theorem sp_X9_isPlace (p0 : Int32)  : ok (F_X9_isPlace p0) (fun r => (r.toInt = 1 ∧ 0 ≤ p0.toInt ∧ p0.toInt ≤ 39) ∨ (r.toInt = 0 ∧ (p0.toInt < 0 ∨ 40 ≤ p0.toInt))) := by
  have l032 : (0 : Int32).toInt = 0 := by decide
  have l132 : (1 : Int32).toInt = 1 := by decide
  have l4032 : (40 : Int32).toInt = 40 := by decide
  unfold F_X9_isPlace
  refine ok_lt (fun c1 => ?_) (fun c1 => ?_)
  · exact ok_s (show ((0 : Int32).toInt = 1 ∧ 0 ≤ p0.toInt ∧ p0.toInt ≤ 39) ∨ ((0 : Int32).toInt = 0 ∧ (p0.toInt < 0 ∨ 40 ≤ p0.toInt)) from by first | omega | assumption | trivial | (refine ⟨?_, ?_⟩ <;> first | omega | assumption | trivial | rfl) | (refine ⟨?_, ?_, ?_⟩ <;> first | omega | assumption | trivial | rfl) | (refine ⟨?_, ?_, ?_, ?_⟩ <;> first | omega | assumption | trivial | rfl) | (refine ⟨?_, ?_, ?_, ?_, ?_⟩ <;> first | omega | assumption | trivial | rfl) | (refine ⟨?_, ?_, ?_, ?_, ?_, ?_⟩ <;> first | omega | assumption | trivial | rfl) | (refine ⟨?_, ?_, ?_, ?_, ?_, ?_, ?_⟩ <;> first | omega | assumption | trivial | rfl) | (refine ⟨?_, ?_, ?_, ?_, ?_, ?_, ?_, ?_⟩ <;> first | omega | assumption | trivial | rfl))
  · refine ok_le (fun c2 => ?_) (fun c2 => ?_)
    · exact ok_s (show ((0 : Int32).toInt = 1 ∧ 0 ≤ p0.toInt ∧ p0.toInt ≤ 39) ∨ ((0 : Int32).toInt = 0 ∧ (p0.toInt < 0 ∨ 40 ≤ p0.toInt)) from by first | omega | assumption | trivial | (refine ⟨?_, ?_⟩ <;> first | omega | assumption | trivial | rfl) | (refine ⟨?_, ?_, ?_⟩ <;> first | omega | assumption | trivial | rfl) | (refine ⟨?_, ?_, ?_, ?_⟩ <;> first | omega | assumption | trivial | rfl) | (refine ⟨?_, ?_, ?_, ?_, ?_⟩ <;> first | omega | assumption | trivial | rfl) | (refine ⟨?_, ?_, ?_, ?_, ?_, ?_⟩ <;> first | omega | assumption | trivial | rfl) | (refine ⟨?_, ?_, ?_, ?_, ?_, ?_, ?_⟩ <;> first | omega | assumption | trivial | rfl) | (refine ⟨?_, ?_, ?_, ?_, ?_, ?_, ?_, ?_⟩ <;> first | omega | assumption | trivial | rfl))
    · exact ok_s (show ((1 : Int32).toInt = 1 ∧ 0 ≤ p0.toInt ∧ p0.toInt ≤ 39) ∨ ((1 : Int32).toInt = 0 ∧ (p0.toInt < 0 ∨ 40 ≤ p0.toInt)) from by first | omega | assumption | trivial | (refine ⟨?_, ?_⟩ <;> first | omega | assumption | trivial | rfl) | (refine ⟨?_, ?_, ?_⟩ <;> first | omega | assumption | trivial | rfl) | (refine ⟨?_, ?_, ?_, ?_⟩ <;> first | omega | assumption | trivial | rfl) | (refine ⟨?_, ?_, ?_, ?_, ?_⟩ <;> first | omega | assumption | trivial | rfl) | (refine ⟨?_, ?_, ?_, ?_, ?_, ?_⟩ <;> first | omega | assumption | trivial | rfl) | (refine ⟨?_, ?_, ?_, ?_, ?_, ?_, ?_⟩ <;> first | omega | assumption | trivial | rfl) | (refine ⟨?_, ?_, ?_, ?_, ?_, ?_, ?_, ?_⟩ <;> first | omega | assumption | trivial | rfl))
set_option maxHeartbeats 1000000 in
theorem sp_X9_isThrown (p0 : Int32) (p1 : Int32)  : ok (F_X9_isThrown p0 p1) (fun r => (r.1.toInt = 0 ∧ r.2.toInt = 0 ∧ p0.toInt = 0 ∧ p1.toInt = 0) ∨ (r.1.toInt = 1 ∧ r.2.toInt = 1 ∧ p0.toInt ≠ 0) ∨ (r.1.toInt = 1 ∧ r.2.toInt = 2 ∧ p0.toInt = 0 ∧ p1.toInt ≠ 0)) := by
  have l032 : (0 : Int32).toInt = 0 := by decide
  have l132 : (1 : Int32).toInt = 1 := by decide
  have l232 : (2 : Int32).toInt = 2 := by decide
  unfold F_X9_isThrown
  refine ok_eq (fun c1 => ?_) (fun c1 => ?_)
  · refine ok_eq (fun c2 => ?_) (fun c2 => ?_)
    · exact ok_s (show ((0 : Int32).toInt = 0 ∧ (0 : Int32).toInt = 0 ∧ p0.toInt = 0 ∧ p1.toInt = 0) ∨ ((0 : Int32).toInt = 1 ∧ (0 : Int32).toInt = 1 ∧ p0.toInt ≠ 0) ∨ ((0 : Int32).toInt = 1 ∧ (0 : Int32).toInt = 2 ∧ p0.toInt = 0 ∧ p1.toInt ≠ 0) from by first | omega | assumption | trivial | (refine ⟨?_, ?_⟩ <;> first | omega | assumption | trivial | rfl) | (refine ⟨?_, ?_, ?_⟩ <;> first | omega | assumption | trivial | rfl) | (refine ⟨?_, ?_, ?_, ?_⟩ <;> first | omega | assumption | trivial | rfl) | (refine ⟨?_, ?_, ?_, ?_, ?_⟩ <;> first | omega | assumption | trivial | rfl) | (refine ⟨?_, ?_, ?_, ?_, ?_, ?_⟩ <;> first | omega | assumption | trivial | rfl) | (refine ⟨?_, ?_, ?_, ?_, ?_, ?_, ?_⟩ <;> first | omega | assumption | trivial | rfl) | (refine ⟨?_, ?_, ?_, ?_, ?_, ?_, ?_, ?_⟩ <;> first | omega | assumption | trivial | rfl))
    · exact ok_s (show ((1 : Int32).toInt = 0 ∧ (2 : Int32).toInt = 0 ∧ p0.toInt = 0 ∧ p1.toInt = 0) ∨ ((1 : Int32).toInt = 1 ∧ (2 : Int32).toInt = 1 ∧ p0.toInt ≠ 0) ∨ ((1 : Int32).toInt = 1 ∧ (2 : Int32).toInt = 2 ∧ p0.toInt = 0 ∧ p1.toInt ≠ 0) from by first | omega | assumption | trivial | (refine ⟨?_, ?_⟩ <;> first | omega | assumption | trivial | rfl) | (refine ⟨?_, ?_, ?_⟩ <;> first | omega | assumption | trivial | rfl) | (refine ⟨?_, ?_, ?_, ?_⟩ <;> first | omega | assumption | trivial | rfl) | (refine ⟨?_, ?_, ?_, ?_, ?_⟩ <;> first | omega | assumption | trivial | rfl) | (refine ⟨?_, ?_, ?_, ?_, ?_, ?_⟩ <;> first | omega | assumption | trivial | rfl) | (refine ⟨?_, ?_, ?_, ?_, ?_, ?_, ?_⟩ <;> first | omega | assumption | trivial | rfl) | (refine ⟨?_, ?_, ?_, ?_, ?_, ?_, ?_, ?_⟩ <;> first | omega | assumption | trivial | rfl))
  · exact ok_s (show ((1 : Int32).toInt = 0 ∧ (1 : Int32).toInt = 0 ∧ p0.toInt = 0 ∧ p1.toInt = 0) ∨ ((1 : Int32).toInt = 1 ∧ (1 : Int32).toInt = 1 ∧ p0.toInt ≠ 0) ∨ ((1 : Int32).toInt = 1 ∧ (1 : Int32).toInt = 2 ∧ p0.toInt = 0 ∧ p1.toInt ≠ 0) from by first | omega | assumption | trivial | (refine ⟨?_, ?_⟩ <;> first | omega | assumption | trivial | rfl) | (refine ⟨?_, ?_, ?_⟩ <;> first | omega | assumption | trivial | rfl) | (refine ⟨?_, ?_, ?_, ?_⟩ <;> first | omega | assumption | trivial | rfl) | (refine ⟨?_, ?_, ?_, ?_, ?_⟩ <;> first | omega | assumption | trivial | rfl) | (refine ⟨?_, ?_, ?_, ?_, ?_, ?_⟩ <;> first | omega | assumption | trivial | rfl) | (refine ⟨?_, ?_, ?_, ?_, ?_, ?_, ?_⟩ <;> first | omega | assumption | trivial | rfl) | (refine ⟨?_, ?_, ?_, ?_, ?_, ?_, ?_, ?_⟩ <;> first | omega | assumption | trivial | rfl))
set_option maxHeartbeats 1000000 in
theorem sp_X9_isThrown_ (p0 : Int32)  : ok (F_X9_isThrown_ p0) (fun r => (r.1.toInt = 0 ∧ r.2.toInt = 0 ∧ p0.toInt = 0) ∨ (r.1.toInt = 1 ∧ r.2.toInt = 1 ∧ p0.toInt ≠ 0)) := by
  have l032 : (0 : Int32).toInt = 0 := by decide
  unfold F_X9_isThrown_
  refine ok_o2 (sp_X9_isThrown p0 (0 : Int32) ) (fun r3 c_t_thrown_3 h1 => ?_)
  have h1 : (r3.toInt = 0 ∧ c_t_thrown_3.toInt = 0 ∧ p0.toInt = 0 ∧ (0 : Int32).toInt = 0) ∨ (r3.toInt = 1 ∧ c_t_thrown_3.toInt = 1 ∧ p0.toInt ≠ 0) ∨ (r3.toInt = 1 ∧ c_t_thrown_3.toInt = 2 ∧ p0.toInt = 0 ∧ (0 : Int32).toInt ≠ 0) := h1
  refine ok_z (by first | omega | exact zr_of (by omega) | assumption) ?_
  exact ok_s (show (r3.toInt = 0 ∧ c_t_thrown_3.toInt = 0 ∧ p0.toInt = 0) ∨ (r3.toInt = 1 ∧ c_t_thrown_3.toInt = 1 ∧ p0.toInt ≠ 0) from by first | omega | assumption | trivial | (refine ⟨?_, ?_⟩ <;> first | omega | assumption | trivial | rfl) | (refine ⟨?_, ?_, ?_⟩ <;> first | omega | assumption | trivial | rfl) | (refine ⟨?_, ?_, ?_, ?_⟩ <;> first | omega | assumption | trivial | rfl) | (refine ⟨?_, ?_, ?_, ?_, ?_⟩ <;> first | omega | assumption | trivial | rfl) | (refine ⟨?_, ?_, ?_, ?_, ?_, ?_⟩ <;> first | omega | assumption | trivial | rfl) | (refine ⟨?_, ?_, ?_, ?_, ?_, ?_, ?_⟩ <;> first | omega | assumption | trivial | rfl) | (refine ⟨?_, ?_, ?_, ?_, ?_, ?_, ?_, ?_⟩ <;> first | omega | assumption | trivial | rfl))
set_option maxHeartbeats 1000000 in
theorem sp_X9_areNot (p0 : Int32) (p1 : Int32) (p2 : Int32)  : ok (F_X9_areNot p0 p1 p2) (fun r => (r.1.toInt = 0 ∧ r.2.toInt = 0 ∧ 0 ≤ p0.toInt ∧ p0.toInt ≤ 5 ∧ 0 ≤ p1.toInt ∧ p1.toInt ≤ 5 ∧ 0 ≤ p2.toInt ∧ p2.toInt ≤ 5) ∨ (r.1.toInt = 1 ∧ r.2.toInt = 1)) := by
  have l032 : (0 : Int32).toInt = 0 := by decide
  have l132 : (1 : Int32).toInt = 1 := by decide
  unfold F_X9_areNot
  refine ok_o (sp_X9_isForm p0 ) (fun r2 h1 => ?_)
  have h1 : (r2.toInt = 1 ∧ 0 ≤ p0.toInt ∧ p0.toInt ≤ 5) ∨ (r2.toInt = 0 ∧ (p0.toInt < 0 ∨ 6 ≤ p0.toInt)) := h1
  refine ok_eq (fun c2 => ?_) (fun c2 => ?_)
  · refine ok_o2 (sp_X9_isThrown_ (1 : Int32) ) (fun r27 c_t_thrown_27 h3 => ?_)
    have h3 : (r27.toInt = 0 ∧ c_t_thrown_27.toInt = 0 ∧ (1 : Int32).toInt = 0) ∨ (r27.toInt = 1 ∧ c_t_thrown_27.toInt = 1 ∧ (1 : Int32).toInt ≠ 0) := h3
    refine ok_z (by first | omega | exact zr_of (by omega) | assumption) ?_
    exact ok_s (show (r27.toInt = 0 ∧ c_t_thrown_27.toInt = 0 ∧ 0 ≤ p0.toInt ∧ p0.toInt ≤ 5 ∧ 0 ≤ p1.toInt ∧ p1.toInt ≤ 5 ∧ 0 ≤ p2.toInt ∧ p2.toInt ≤ 5) ∨ (r27.toInt = 1 ∧ c_t_thrown_27.toInt = 1) from by first | omega | assumption | trivial | (refine ⟨?_, ?_⟩ <;> first | omega | assumption | trivial | rfl) | (refine ⟨?_, ?_, ?_⟩ <;> first | omega | assumption | trivial | rfl) | (refine ⟨?_, ?_, ?_, ?_⟩ <;> first | omega | assumption | trivial | rfl) | (refine ⟨?_, ?_, ?_, ?_, ?_⟩ <;> first | omega | assumption | trivial | rfl) | (refine ⟨?_, ?_, ?_, ?_, ?_, ?_⟩ <;> first | omega | assumption | trivial | rfl) | (refine ⟨?_, ?_, ?_, ?_, ?_, ?_, ?_⟩ <;> first | omega | assumption | trivial | rfl) | (refine ⟨?_, ?_, ?_, ?_, ?_, ?_, ?_, ?_⟩ <;> first | omega | assumption | trivial | rfl))
  · refine ok_o (sp_X9_isForm p1 ) (fun r9 h4 => ?_)
    have h4 : (r9.toInt = 1 ∧ 0 ≤ p1.toInt ∧ p1.toInt ≤ 5) ∨ (r9.toInt = 0 ∧ (p1.toInt < 0 ∨ 6 ≤ p1.toInt)) := h4
    refine ok_eq (fun c5 => ?_) (fun c5 => ?_)
    · refine ok_o2 (sp_X9_isThrown_ (1 : Int32) ) (fun r27_2 c_t_thrown_27_2 h6 => ?_)
      have h6 : (r27_2.toInt = 0 ∧ c_t_thrown_27_2.toInt = 0 ∧ (1 : Int32).toInt = 0) ∨ (r27_2.toInt = 1 ∧ c_t_thrown_27_2.toInt = 1 ∧ (1 : Int32).toInt ≠ 0) := h6
      refine ok_z (by first | omega | exact zr_of (by omega) | assumption) ?_
      exact ok_s (show (r27_2.toInt = 0 ∧ c_t_thrown_27_2.toInt = 0 ∧ 0 ≤ p0.toInt ∧ p0.toInt ≤ 5 ∧ 0 ≤ p1.toInt ∧ p1.toInt ≤ 5 ∧ 0 ≤ p2.toInt ∧ p2.toInt ≤ 5) ∨ (r27_2.toInt = 1 ∧ c_t_thrown_27_2.toInt = 1) from by first | omega | assumption | trivial | (refine ⟨?_, ?_⟩ <;> first | omega | assumption | trivial | rfl) | (refine ⟨?_, ?_, ?_⟩ <;> first | omega | assumption | trivial | rfl) | (refine ⟨?_, ?_, ?_, ?_⟩ <;> first | omega | assumption | trivial | rfl) | (refine ⟨?_, ?_, ?_, ?_, ?_⟩ <;> first | omega | assumption | trivial | rfl) | (refine ⟨?_, ?_, ?_, ?_, ?_, ?_⟩ <;> first | omega | assumption | trivial | rfl) | (refine ⟨?_, ?_, ?_, ?_, ?_, ?_, ?_⟩ <;> first | omega | assumption | trivial | rfl) | (refine ⟨?_, ?_, ?_, ?_, ?_, ?_, ?_, ?_⟩ <;> first | omega | assumption | trivial | rfl))
    · refine ok_o (sp_X9_isForm p2 ) (fun r16 h7 => ?_)
      have h7 : (r16.toInt = 1 ∧ 0 ≤ p2.toInt ∧ p2.toInt ≤ 5) ∨ (r16.toInt = 0 ∧ (p2.toInt < 0 ∨ 6 ≤ p2.toInt)) := h7
      refine ok_eq (fun c8 => ?_) (fun c8 => ?_)
      · refine ok_o2 (sp_X9_isThrown_ (1 : Int32) ) (fun r27_3 c_t_thrown_27_3 h9 => ?_)
        have h9 : (r27_3.toInt = 0 ∧ c_t_thrown_27_3.toInt = 0 ∧ (1 : Int32).toInt = 0) ∨ (r27_3.toInt = 1 ∧ c_t_thrown_27_3.toInt = 1 ∧ (1 : Int32).toInt ≠ 0) := h9
        refine ok_z (by first | omega | exact zr_of (by omega) | assumption) ?_
        exact ok_s (show (r27_3.toInt = 0 ∧ c_t_thrown_27_3.toInt = 0 ∧ 0 ≤ p0.toInt ∧ p0.toInt ≤ 5 ∧ 0 ≤ p1.toInt ∧ p1.toInt ≤ 5 ∧ 0 ≤ p2.toInt ∧ p2.toInt ≤ 5) ∨ (r27_3.toInt = 1 ∧ c_t_thrown_27_3.toInt = 1) from by first | omega | assumption | trivial | (refine ⟨?_, ?_⟩ <;> first | omega | assumption | trivial | rfl) | (refine ⟨?_, ?_, ?_⟩ <;> first | omega | assumption | trivial | rfl) | (refine ⟨?_, ?_, ?_, ?_⟩ <;> first | omega | assumption | trivial | rfl) | (refine ⟨?_, ?_, ?_, ?_, ?_⟩ <;> first | omega | assumption | trivial | rfl) | (refine ⟨?_, ?_, ?_, ?_, ?_, ?_⟩ <;> first | omega | assumption | trivial | rfl) | (refine ⟨?_, ?_, ?_, ?_, ?_, ?_, ?_⟩ <;> first | omega | assumption | trivial | rfl) | (refine ⟨?_, ?_, ?_, ?_, ?_, ?_, ?_, ?_⟩ <;> first | omega | assumption | trivial | rfl))
      · refine ok_o2 (sp_X9_isThrown_ (0 : Int32) ) (fun r27_4 c_t_thrown_27_4 h10 => ?_)
        have h10 : (r27_4.toInt = 0 ∧ c_t_thrown_27_4.toInt = 0 ∧ (0 : Int32).toInt = 0) ∨ (r27_4.toInt = 1 ∧ c_t_thrown_27_4.toInt = 1 ∧ (0 : Int32).toInt ≠ 0) := h10
        refine ok_z (by first | omega | exact zr_of (by omega) | assumption) ?_
        exact ok_s (show (r27_4.toInt = 0 ∧ c_t_thrown_27_4.toInt = 0 ∧ 0 ≤ p0.toInt ∧ p0.toInt ≤ 5 ∧ 0 ≤ p1.toInt ∧ p1.toInt ≤ 5 ∧ 0 ≤ p2.toInt ∧ p2.toInt ≤ 5) ∨ (r27_4.toInt = 1 ∧ c_t_thrown_27_4.toInt = 1) from by first | omega | assumption | trivial | (refine ⟨?_, ?_⟩ <;> first | omega | assumption | trivial | rfl) | (refine ⟨?_, ?_, ?_⟩ <;> first | omega | assumption | trivial | rfl) | (refine ⟨?_, ?_, ?_, ?_⟩ <;> first | omega | assumption | trivial | rfl) | (refine ⟨?_, ?_, ?_, ?_, ?_⟩ <;> first | omega | assumption | trivial | rfl) | (refine ⟨?_, ?_, ?_, ?_, ?_, ?_⟩ <;> first | omega | assumption | trivial | rfl) | (refine ⟨?_, ?_, ?_, ?_, ?_, ?_, ?_⟩ <;> first | omega | assumption | trivial | rfl) | (refine ⟨?_, ?_, ?_, ?_, ?_, ?_, ?_, ?_⟩ <;> first | omega | assumption | trivial | rfl))
set_option maxHeartbeats 1000000 in
theorem sp_X9_done (c_t_acts : Int32) (p0 : Int32)  : ok (F_X9_done c_t_acts p0) (fun r => True) := by
  have l132 : (1 : Int32).toInt = 1 := by decide
  unfold F_X9_done
  refine ok_bx (fun c_t_acts_7 e_c_t_acts_7 => ?_)
  try have t_c_t_acts_7 : c_t_acts_7.toInt = c_t_acts.toInt + 1 := by rw [e_c_t_acts_7]; exact addT1 (show (1 : Int32).toInt = 1 from by decide) (by omega) (by omega)
  exact ok_s trivial
set_option maxHeartbeats 1000000 in
theorem sp_X9_no (c_t_refused : Int32)  : ok (F_X9_no c_t_refused) (fun r => True) := by
  have lm932 : (-9 : Int32).toInt = -9 := by decide
  have l132 : (1 : Int32).toInt = 1 := by decide
  unfold F_X9_no
  refine ok_bx (fun c_t_refused_7 e_c_t_refused_7 => ?_)
  try have t_c_t_refused_7 : c_t_refused_7.toInt = c_t_refused.toInt + 1 := by rw [e_c_t_refused_7]; exact addT1 (show (1 : Int32).toInt = 1 from by decide) (by omega) (by omega)
  exact ok_s trivial
set_option maxHeartbeats 1000000 in
theorem sp_X9_give (c_t_acts : Int32) (f_t_forms : Nat → Int64) (p0 : Int32) (p1 : Int64) (hp0 : FA f_t_forms) (hp1 : 0 ≤ p0.toInt) (hp2 : p0.toInt ≤ 5) (hp3 : DG p1 ≤ 39) : ok (F_X9_give c_t_acts f_t_forms p0 p1) (fun r => FA r.2.2) := by
  have l032 : (0 : Int32).toInt = 0 := by decide
  unfold F_X9_give
  refine ok_c (ixo (by omega) (by omega)) ?_
  refine ok_bx (fun f_t_forms_6 e_f_t_forms_6 => ?_)
  try have t_f_t_forms_6 : FA f_t_forms_6 := by rw [e_f_t_forms_6]; exact FA_upd (by first | assumption | exact FA_0) _ (by first | omega | assumption | trivial)
  refine ok_o (sp_X9_degreeOf p1 ) (fun r9 h1 => ?_)
  have h1 : r9.toInt = DG p1 ∧ -1 ≤ r9.toInt ∧ r9.toInt ≤ 63 := h1
  refine ok_o2 (sp_X9_done c_t_acts r9 ) (fun r12 c_t_acts_12 h2 => ?_)
  exact ok_s (show FA f_t_forms_6 from by first | omega | assumption | trivial | (refine ⟨?_, ?_⟩ <;> first | omega | assumption | trivial | rfl) | (refine ⟨?_, ?_, ?_⟩ <;> first | omega | assumption | trivial | rfl) | (refine ⟨?_, ?_, ?_, ?_⟩ <;> first | omega | assumption | trivial | rfl) | (refine ⟨?_, ?_, ?_, ?_, ?_⟩ <;> first | omega | assumption | trivial | rfl) | (refine ⟨?_, ?_, ?_, ?_, ?_, ?_⟩ <;> first | omega | assumption | trivial | rfl) | (refine ⟨?_, ?_, ?_, ?_, ?_, ?_, ?_⟩ <;> first | omega | assumption | trivial | rfl) | (refine ⟨?_, ?_, ?_, ?_, ?_, ?_, ?_, ?_⟩ <;> first | omega | assumption | trivial | rfl))
set_option maxHeartbeats 1000000 in
theorem sp_X9_set (c_t_acts : Int32) (c_t_thrown : Int32) (f_t_forms : Nat → Int64) (p0 : Int32) (p1 : Int32) (hp0 : FA f_t_forms) : ok (F_X9_set c_t_acts c_t_thrown f_t_forms p0 p1) (fun r => FA r.2.2.2) := by
  have l032 : (0 : Int32).toInt = 0 := by decide
  have l132 : (1 : Int32).toInt = 1 := by decide
  unfold F_X9_set
  refine ok_o (sp_X9_isForm p0 ) (fun r2 h1 => ?_)
  have h1 : (r2.toInt = 1 ∧ 0 ≤ p0.toInt ∧ p0.toInt ≤ 5) ∨ (r2.toInt = 0 ∧ (p0.toInt < 0 ∨ 6 ≤ p0.toInt)) := h1
  refine ok_eq (fun c2 => ?_) (fun c2 => ?_)
  · first | unfold J_X9_set_13 | skip
    refine ok_le (fun c3 => ?_) (fun c3 => ?_)
    · first | unfold J_X9_set_22 | skip
      refine ok_o2 (sp_X9_isThrown (1 : Int32) (0 : Int32) ) (fun r22 c_t_thrown_22 h4 => ?_)
      have h4 : (r22.toInt = 0 ∧ c_t_thrown_22.toInt = 0 ∧ (1 : Int32).toInt = 0 ∧ (0 : Int32).toInt = 0) ∨ (r22.toInt = 1 ∧ c_t_thrown_22.toInt = 1 ∧ (1 : Int32).toInt ≠ 0) ∨ (r22.toInt = 1 ∧ c_t_thrown_22.toInt = 2 ∧ (1 : Int32).toInt = 0 ∧ (0 : Int32).toInt ≠ 0) := h4
      refine ok_eq (fun c5 => ?_) (fun c5 => ?_)
      · refine ok_c (ixo (by omega) (by omega)) ?_
        try have a6 := FA_at (f := f_t_forms) (by assumption) p0.toNatClampNeg
        refine ok_o (sp_X9_degreeOf (f_t_forms p0.toNatClampNeg) ) (fun r36 h7 => ?_)
        have h7 : r36.toInt = DG (f_t_forms p0.toNatClampNeg) ∧ -1 ≤ r36.toInt ∧ r36.toInt ≤ 63 := h7
        refine ok_c (ixo (by omega) (by omega)) ?_
        have hd := DG_i2 (p := p1) (by omega)
        refine ok_bx (fun f_t_forms_47 e_f_t_forms_47 => ?_)
        try have t_f_t_forms_47 : FA f_t_forms_47 := by rw [e_f_t_forms_47]; exact FA_upd (by first | assumption | exact FA_0) _ (by first | omega | assumption | trivial)
        refine ok_o2 (sp_X9_done c_t_acts r36 ) (fun r50 c_t_acts_50 h8 => ?_)
        exact ok_s (show FA f_t_forms_47 from by first | omega | assumption | trivial | (refine ⟨?_, ?_⟩ <;> first | omega | assumption | trivial | rfl) | (refine ⟨?_, ?_, ?_⟩ <;> first | omega | assumption | trivial | rfl) | (refine ⟨?_, ?_, ?_, ?_⟩ <;> first | omega | assumption | trivial | rfl) | (refine ⟨?_, ?_, ?_, ?_, ?_⟩ <;> first | omega | assumption | trivial | rfl) | (refine ⟨?_, ?_, ?_, ?_, ?_, ?_⟩ <;> first | omega | assumption | trivial | rfl) | (refine ⟨?_, ?_, ?_, ?_, ?_, ?_, ?_⟩ <;> first | omega | assumption | trivial | rfl) | (refine ⟨?_, ?_, ?_, ?_, ?_, ?_, ?_, ?_⟩ <;> first | omega | assumption | trivial | rfl))
      · exact ok_s (show FA f_t_forms from by first | omega | assumption | trivial | (refine ⟨?_, ?_⟩ <;> first | omega | assumption | trivial | rfl) | (refine ⟨?_, ?_, ?_⟩ <;> first | omega | assumption | trivial | rfl) | (refine ⟨?_, ?_, ?_, ?_⟩ <;> first | omega | assumption | trivial | rfl) | (refine ⟨?_, ?_, ?_, ?_, ?_⟩ <;> first | omega | assumption | trivial | rfl) | (refine ⟨?_, ?_, ?_, ?_, ?_, ?_⟩ <;> first | omega | assumption | trivial | rfl) | (refine ⟨?_, ?_, ?_, ?_, ?_, ?_, ?_⟩ <;> first | omega | assumption | trivial | rfl) | (refine ⟨?_, ?_, ?_, ?_, ?_, ?_, ?_, ?_⟩ <;> first | omega | assumption | trivial | rfl))
    · first | unfold J_X9_set_22 | skip
      refine ok_o2 (sp_X9_isThrown (1 : Int32) (1 : Int32) ) (fun r22_2 c_t_thrown_22_2 h9 => ?_)
      have h9 : (r22_2.toInt = 0 ∧ c_t_thrown_22_2.toInt = 0 ∧ (1 : Int32).toInt = 0 ∧ (1 : Int32).toInt = 0) ∨ (r22_2.toInt = 1 ∧ c_t_thrown_22_2.toInt = 1 ∧ (1 : Int32).toInt ≠ 0) ∨ (r22_2.toInt = 1 ∧ c_t_thrown_22_2.toInt = 2 ∧ (1 : Int32).toInt = 0 ∧ (1 : Int32).toInt ≠ 0) := h9
      refine ok_eq (fun c10 => ?_) (fun c10 => ?_)
      · refine ok_c (ixo (by omega) (by omega)) ?_
        try have a11 := FA_at (f := f_t_forms) (by assumption) p0.toNatClampNeg
        refine ok_o (sp_X9_degreeOf (f_t_forms p0.toNatClampNeg) ) (fun r36_2 h12 => ?_)
        have h12 : r36_2.toInt = DG (f_t_forms p0.toNatClampNeg) ∧ -1 ≤ r36_2.toInt ∧ r36_2.toInt ≤ 63 := h12
        refine ok_c (ixo (by omega) (by omega)) ?_
        have hd := DG_i2 (p := p1) (by omega)
        refine ok_bx (fun f_t_forms_47_2 e_f_t_forms_47_2 => ?_)
        try have t_f_t_forms_47_2 : FA f_t_forms_47_2 := by rw [e_f_t_forms_47_2]; exact FA_upd (by first | assumption | exact FA_0) _ (by first | omega | assumption | trivial)
        refine ok_o2 (sp_X9_done c_t_acts r36_2 ) (fun r50_2 c_t_acts_50_2 h13 => ?_)
        exact ok_s (show FA f_t_forms_47_2 from by first | omega | assumption | trivial | (refine ⟨?_, ?_⟩ <;> first | omega | assumption | trivial | rfl) | (refine ⟨?_, ?_, ?_⟩ <;> first | omega | assumption | trivial | rfl) | (refine ⟨?_, ?_, ?_, ?_⟩ <;> first | omega | assumption | trivial | rfl) | (refine ⟨?_, ?_, ?_, ?_, ?_⟩ <;> first | omega | assumption | trivial | rfl) | (refine ⟨?_, ?_, ?_, ?_, ?_, ?_⟩ <;> first | omega | assumption | trivial | rfl) | (refine ⟨?_, ?_, ?_, ?_, ?_, ?_, ?_⟩ <;> first | omega | assumption | trivial | rfl) | (refine ⟨?_, ?_, ?_, ?_, ?_, ?_, ?_, ?_⟩ <;> first | omega | assumption | trivial | rfl))
      · exact ok_s (show FA f_t_forms from by first | omega | assumption | trivial | (refine ⟨?_, ?_⟩ <;> first | omega | assumption | trivial | rfl) | (refine ⟨?_, ?_, ?_⟩ <;> first | omega | assumption | trivial | rfl) | (refine ⟨?_, ?_, ?_, ?_⟩ <;> first | omega | assumption | trivial | rfl) | (refine ⟨?_, ?_, ?_, ?_, ?_⟩ <;> first | omega | assumption | trivial | rfl) | (refine ⟨?_, ?_, ?_, ?_, ?_, ?_⟩ <;> first | omega | assumption | trivial | rfl) | (refine ⟨?_, ?_, ?_, ?_, ?_, ?_, ?_⟩ <;> first | omega | assumption | trivial | rfl) | (refine ⟨?_, ?_, ?_, ?_, ?_, ?_, ?_, ?_⟩ <;> first | omega | assumption | trivial | rfl))
  · first | unfold J_X9_set_13 | skip
    refine ok_le (fun c14 => ?_) (fun c14 => ?_)
    · first | unfold J_X9_set_22 | skip
      refine ok_o2 (sp_X9_isThrown (0 : Int32) (0 : Int32) ) (fun r22_3 c_t_thrown_22_3 h15 => ?_)
      have h15 : (r22_3.toInt = 0 ∧ c_t_thrown_22_3.toInt = 0 ∧ (0 : Int32).toInt = 0 ∧ (0 : Int32).toInt = 0) ∨ (r22_3.toInt = 1 ∧ c_t_thrown_22_3.toInt = 1 ∧ (0 : Int32).toInt ≠ 0) ∨ (r22_3.toInt = 1 ∧ c_t_thrown_22_3.toInt = 2 ∧ (0 : Int32).toInt = 0 ∧ (0 : Int32).toInt ≠ 0) := h15
      refine ok_eq (fun c16 => ?_) (fun c16 => ?_)
      · refine ok_c (ixo (by omega) (by omega)) ?_
        try have a17 := FA_at (f := f_t_forms) (by assumption) p0.toNatClampNeg
        refine ok_o (sp_X9_degreeOf (f_t_forms p0.toNatClampNeg) ) (fun r36_3 h18 => ?_)
        have h18 : r36_3.toInt = DG (f_t_forms p0.toNatClampNeg) ∧ -1 ≤ r36_3.toInt ∧ r36_3.toInt ≤ 63 := h18
        refine ok_c (ixo (by omega) (by omega)) ?_
        have hd := DG_i2 (p := p1) (by omega)
        refine ok_bx (fun f_t_forms_47_3 e_f_t_forms_47_3 => ?_)
        try have t_f_t_forms_47_3 : FA f_t_forms_47_3 := by rw [e_f_t_forms_47_3]; exact FA_upd (by first | assumption | exact FA_0) _ (by first | omega | assumption | trivial)
        refine ok_o2 (sp_X9_done c_t_acts r36_3 ) (fun r50_3 c_t_acts_50_3 h19 => ?_)
        exact ok_s (show FA f_t_forms_47_3 from by first | omega | assumption | trivial | (refine ⟨?_, ?_⟩ <;> first | omega | assumption | trivial | rfl) | (refine ⟨?_, ?_, ?_⟩ <;> first | omega | assumption | trivial | rfl) | (refine ⟨?_, ?_, ?_, ?_⟩ <;> first | omega | assumption | trivial | rfl) | (refine ⟨?_, ?_, ?_, ?_, ?_⟩ <;> first | omega | assumption | trivial | rfl) | (refine ⟨?_, ?_, ?_, ?_, ?_, ?_⟩ <;> first | omega | assumption | trivial | rfl) | (refine ⟨?_, ?_, ?_, ?_, ?_, ?_, ?_⟩ <;> first | omega | assumption | trivial | rfl) | (refine ⟨?_, ?_, ?_, ?_, ?_, ?_, ?_, ?_⟩ <;> first | omega | assumption | trivial | rfl))
      · exact ok_s (show FA f_t_forms from by first | omega | assumption | trivial | (refine ⟨?_, ?_⟩ <;> first | omega | assumption | trivial | rfl) | (refine ⟨?_, ?_, ?_⟩ <;> first | omega | assumption | trivial | rfl) | (refine ⟨?_, ?_, ?_, ?_⟩ <;> first | omega | assumption | trivial | rfl) | (refine ⟨?_, ?_, ?_, ?_, ?_⟩ <;> first | omega | assumption | trivial | rfl) | (refine ⟨?_, ?_, ?_, ?_, ?_, ?_⟩ <;> first | omega | assumption | trivial | rfl) | (refine ⟨?_, ?_, ?_, ?_, ?_, ?_, ?_⟩ <;> first | omega | assumption | trivial | rfl) | (refine ⟨?_, ?_, ?_, ?_, ?_, ?_, ?_, ?_⟩ <;> first | omega | assumption | trivial | rfl))
    · first | unfold J_X9_set_22 | skip
      refine ok_o2 (sp_X9_isThrown (0 : Int32) (1 : Int32) ) (fun r22_4 c_t_thrown_22_4 h20 => ?_)
      have h20 : (r22_4.toInt = 0 ∧ c_t_thrown_22_4.toInt = 0 ∧ (0 : Int32).toInt = 0 ∧ (1 : Int32).toInt = 0) ∨ (r22_4.toInt = 1 ∧ c_t_thrown_22_4.toInt = 1 ∧ (0 : Int32).toInt ≠ 0) ∨ (r22_4.toInt = 1 ∧ c_t_thrown_22_4.toInt = 2 ∧ (0 : Int32).toInt = 0 ∧ (1 : Int32).toInt ≠ 0) := h20
      refine ok_eq (fun c21 => ?_) (fun c21 => ?_)
      · refine ok_c (ixo (by omega) (by omega)) ?_
        try have a22 := FA_at (f := f_t_forms) (by assumption) p0.toNatClampNeg
        refine ok_o (sp_X9_degreeOf (f_t_forms p0.toNatClampNeg) ) (fun r36_4 h23 => ?_)
        have h23 : r36_4.toInt = DG (f_t_forms p0.toNatClampNeg) ∧ -1 ≤ r36_4.toInt ∧ r36_4.toInt ≤ 63 := h23
        refine ok_c (ixo (by omega) (by omega)) ?_
        have hd := DG_i2 (p := p1) (by omega)
        refine ok_bx (fun f_t_forms_47_4 e_f_t_forms_47_4 => ?_)
        try have t_f_t_forms_47_4 : FA f_t_forms_47_4 := by rw [e_f_t_forms_47_4]; exact FA_upd (by first | assumption | exact FA_0) _ (by first | omega | assumption | trivial)
        refine ok_o2 (sp_X9_done c_t_acts r36_4 ) (fun r50_4 c_t_acts_50_4 h24 => ?_)
        exact ok_s (show FA f_t_forms_47_4 from by first | omega | assumption | trivial | (refine ⟨?_, ?_⟩ <;> first | omega | assumption | trivial | rfl) | (refine ⟨?_, ?_, ?_⟩ <;> first | omega | assumption | trivial | rfl) | (refine ⟨?_, ?_, ?_, ?_⟩ <;> first | omega | assumption | trivial | rfl) | (refine ⟨?_, ?_, ?_, ?_, ?_⟩ <;> first | omega | assumption | trivial | rfl) | (refine ⟨?_, ?_, ?_, ?_, ?_, ?_⟩ <;> first | omega | assumption | trivial | rfl) | (refine ⟨?_, ?_, ?_, ?_, ?_, ?_, ?_⟩ <;> first | omega | assumption | trivial | rfl) | (refine ⟨?_, ?_, ?_, ?_, ?_, ?_, ?_, ?_⟩ <;> first | omega | assumption | trivial | rfl))
      · exact ok_s (show FA f_t_forms from by first | omega | assumption | trivial | (refine ⟨?_, ?_⟩ <;> first | omega | assumption | trivial | rfl) | (refine ⟨?_, ?_, ?_⟩ <;> first | omega | assumption | trivial | rfl) | (refine ⟨?_, ?_, ?_, ?_⟩ <;> first | omega | assumption | trivial | rfl) | (refine ⟨?_, ?_, ?_, ?_, ?_⟩ <;> first | omega | assumption | trivial | rfl) | (refine ⟨?_, ?_, ?_, ?_, ?_, ?_⟩ <;> first | omega | assumption | trivial | rfl) | (refine ⟨?_, ?_, ?_, ?_, ?_, ?_, ?_⟩ <;> first | omega | assumption | trivial | rfl) | (refine ⟨?_, ?_, ?_, ?_, ?_, ?_, ?_, ?_⟩ <;> first | omega | assumption | trivial | rfl))
set_option maxHeartbeats 1000000 in
theorem sp_X9_digit (c_t_acts : Int32) (c_t_thrown : Int32) (f_t_forms : Nat → Int64) (p0 : Int32) (p1 : Int32) (p2 : Int32) (hp0 : FA f_t_forms) : ok (F_X9_digit c_t_acts c_t_thrown f_t_forms p0 p1 p2) (fun r => FA r.2.2.2) := by
  have lm164 : (-1 : Int64).toInt = -1 := by decide
  have l032 : (0 : Int32).toInt = 0 := by decide
  have l132 : (1 : Int32).toInt = 1 := by decide
  have l164 : (1 : Int64).toInt = 1 := by decide
  have l232 : (2 : Int32).toInt = 2 := by decide
  unfold F_X9_digit
  refine ok_o (sp_X9_isForm p0 ) (fun r2 h1 => ?_)
  have h1 : (r2.toInt = 1 ∧ 0 ≤ p0.toInt ∧ p0.toInt ≤ 5) ∨ (r2.toInt = 0 ∧ (p0.toInt < 0 ∨ 6 ≤ p0.toInt)) := h1
  refine ok_eq (fun c2 => ?_) (fun c2 => ?_)
  · first | unfold J_X9_digit_15 | skip
    first | unfold J_X9_digit_20 | skip
    refine ok_lt (fun c3 => ?_) (fun c3 => ?_)
    · first | unfold J_X9_digit_29 | skip
      first | unfold J_X9_digit_34 | skip
      refine ok_o2 (sp_X9_isThrown (1 : Int32) (1 : Int32) ) (fun r34 c_t_thrown_34 h4 => ?_)
      have h4 : (r34.toInt = 0 ∧ c_t_thrown_34.toInt = 0 ∧ (1 : Int32).toInt = 0 ∧ (1 : Int32).toInt = 0) ∨ (r34.toInt = 1 ∧ c_t_thrown_34.toInt = 1 ∧ (1 : Int32).toInt ≠ 0) ∨ (r34.toInt = 1 ∧ c_t_thrown_34.toInt = 2 ∧ (1 : Int32).toInt = 0 ∧ (1 : Int32).toInt ≠ 0) := h4
      refine ok_eq (fun c5 => ?_) (fun c5 => ?_)
      · refine ok_c (ixo (by omega) (by omega)) ?_
        try have a6 := FA_at (f := f_t_forms) (by assumption) p0.toNatClampNeg
        refine ok_bx (fun x4_48 e_x4_48 => ?_)
        try have q_x4_48 : DG x4_48 = DG (f_t_forms p0.toNatClampNeg) := by rw [e_x4_48]
        try have d_x4_48 : -1 ≤ DG x4_48 ∧ DG x4_48 ≤ 39 := by rw [e_x4_48]; exact FA_at (by assumption) _
        refine ok_bx (fun x6_53 e_x6_53 => ?_)
        have d6 : DG x6_53 ≤ 39 := by rw [e_x6_53]; exact DG_shlx (by omega) (by omega) (by rw [DG_1]; omega) (by decide) (by decide)
        refine ok_eq (fun c7 => ?_) (fun c7 => ?_)
        · first | unfold J_X9_digit_94 | skip
          refine ok_c (ixo (by omega) (by omega)) ?_
          have hj : DG (x4_48 &&& (x6_53 ^^^ (-1 : Int64))) ≤ 39 := Int.le_trans (DG_and _ _) (by omega)
          refine ok_bx (fun f_t_forms_94 e_f_t_forms_94 => ?_)
          try have t_f_t_forms_94 : FA f_t_forms_94 := by rw [e_f_t_forms_94]; exact FA_upd (by first | assumption | exact FA_0) _ (by first | omega | assumption | trivial)
          refine ok_c (ixo (by omega) (by omega)) ?_
          try have a9 := FA_at (f := f_t_forms_94) (by assumption) p0.toNatClampNeg
          refine ok_eqL (fun c8 => ?_) (fun c8 => ?_)
          · refine ok_o2 (sp_X9_done c_t_acts (0 : Int32) ) (fun r113 c_t_acts_113 h10 => ?_)
            exact ok_s (show FA f_t_forms_94 from by first | omega | assumption | trivial | (refine ⟨?_, ?_⟩ <;> first | omega | assumption | trivial | rfl) | (refine ⟨?_, ?_, ?_⟩ <;> first | omega | assumption | trivial | rfl) | (refine ⟨?_, ?_, ?_, ?_⟩ <;> first | omega | assumption | trivial | rfl) | (refine ⟨?_, ?_, ?_, ?_, ?_⟩ <;> first | omega | assumption | trivial | rfl) | (refine ⟨?_, ?_, ?_, ?_, ?_, ?_⟩ <;> first | omega | assumption | trivial | rfl) | (refine ⟨?_, ?_, ?_, ?_, ?_, ?_, ?_⟩ <;> first | omega | assumption | trivial | rfl) | (refine ⟨?_, ?_, ?_, ?_, ?_, ?_, ?_, ?_⟩ <;> first | omega | assumption | trivial | rfl))
          · refine ok_o2 (sp_X9_done c_t_acts (1 : Int32) ) (fun r113_2 c_t_acts_113_2 h11 => ?_)
            exact ok_s (show FA f_t_forms_94 from by first | omega | assumption | trivial | (refine ⟨?_, ?_⟩ <;> first | omega | assumption | trivial | rfl) | (refine ⟨?_, ?_, ?_⟩ <;> first | omega | assumption | trivial | rfl) | (refine ⟨?_, ?_, ?_, ?_⟩ <;> first | omega | assumption | trivial | rfl) | (refine ⟨?_, ?_, ?_, ?_, ?_⟩ <;> first | omega | assumption | trivial | rfl) | (refine ⟨?_, ?_, ?_, ?_, ?_, ?_⟩ <;> first | omega | assumption | trivial | rfl) | (refine ⟨?_, ?_, ?_, ?_, ?_, ?_, ?_⟩ <;> first | omega | assumption | trivial | rfl) | (refine ⟨?_, ?_, ?_, ?_, ?_, ?_, ?_, ?_⟩ <;> first | omega | assumption | trivial | rfl))
        · refine ok_eq (fun c12 => ?_) (fun c12 => ?_)
          · first | unfold J_X9_digit_94 | skip
            refine ok_c (ixo (by omega) (by omega)) ?_
            have hj : DG (x4_48 ||| x6_53) ≤ 39 := DG_or (by omega) (by omega)
            refine ok_bx (fun f_t_forms_94_2 e_f_t_forms_94_2 => ?_)
            try have t_f_t_forms_94_2 : FA f_t_forms_94_2 := by rw [e_f_t_forms_94_2]; exact FA_upd (by first | assumption | exact FA_0) _ (by first | omega | assumption | trivial)
            refine ok_c (ixo (by omega) (by omega)) ?_
            try have a14 := FA_at (f := f_t_forms_94_2) (by assumption) p0.toNatClampNeg
            refine ok_eqL (fun c13 => ?_) (fun c13 => ?_)
            · refine ok_o2 (sp_X9_done c_t_acts (0 : Int32) ) (fun r113_3 c_t_acts_113_3 h15 => ?_)
              exact ok_s (show FA f_t_forms_94_2 from by first | omega | assumption | trivial | (refine ⟨?_, ?_⟩ <;> first | omega | assumption | trivial | rfl) | (refine ⟨?_, ?_, ?_⟩ <;> first | omega | assumption | trivial | rfl) | (refine ⟨?_, ?_, ?_, ?_⟩ <;> first | omega | assumption | trivial | rfl) | (refine ⟨?_, ?_, ?_, ?_, ?_⟩ <;> first | omega | assumption | trivial | rfl) | (refine ⟨?_, ?_, ?_, ?_, ?_, ?_⟩ <;> first | omega | assumption | trivial | rfl) | (refine ⟨?_, ?_, ?_, ?_, ?_, ?_, ?_⟩ <;> first | omega | assumption | trivial | rfl) | (refine ⟨?_, ?_, ?_, ?_, ?_, ?_, ?_, ?_⟩ <;> first | omega | assumption | trivial | rfl))
            · refine ok_o2 (sp_X9_done c_t_acts (1 : Int32) ) (fun r113_4 c_t_acts_113_4 h16 => ?_)
              exact ok_s (show FA f_t_forms_94_2 from by first | omega | assumption | trivial | (refine ⟨?_, ?_⟩ <;> first | omega | assumption | trivial | rfl) | (refine ⟨?_, ?_, ?_⟩ <;> first | omega | assumption | trivial | rfl) | (refine ⟨?_, ?_, ?_, ?_⟩ <;> first | omega | assumption | trivial | rfl) | (refine ⟨?_, ?_, ?_, ?_, ?_⟩ <;> first | omega | assumption | trivial | rfl) | (refine ⟨?_, ?_, ?_, ?_, ?_, ?_⟩ <;> first | omega | assumption | trivial | rfl) | (refine ⟨?_, ?_, ?_, ?_, ?_, ?_, ?_⟩ <;> first | omega | assumption | trivial | rfl) | (refine ⟨?_, ?_, ?_, ?_, ?_, ?_, ?_, ?_⟩ <;> first | omega | assumption | trivial | rfl))
          · first | unfold J_X9_digit_94 | skip
            refine ok_c (ixo (by omega) (by omega)) ?_
            have hj : DG (x4_48 ^^^ x6_53) ≤ 39 := DG_xor (by omega) (by omega)
            refine ok_bx (fun f_t_forms_94_3 e_f_t_forms_94_3 => ?_)
            try have t_f_t_forms_94_3 : FA f_t_forms_94_3 := by rw [e_f_t_forms_94_3]; exact FA_upd (by first | assumption | exact FA_0) _ (by first | omega | assumption | trivial)
            refine ok_c (ixo (by omega) (by omega)) ?_
            try have a18 := FA_at (f := f_t_forms_94_3) (by assumption) p0.toNatClampNeg
            refine ok_eqL (fun c17 => ?_) (fun c17 => ?_)
            · refine ok_o2 (sp_X9_done c_t_acts (0 : Int32) ) (fun r113_5 c_t_acts_113_5 h19 => ?_)
              exact ok_s (show FA f_t_forms_94_3 from by first | omega | assumption | trivial | (refine ⟨?_, ?_⟩ <;> first | omega | assumption | trivial | rfl) | (refine ⟨?_, ?_, ?_⟩ <;> first | omega | assumption | trivial | rfl) | (refine ⟨?_, ?_, ?_, ?_⟩ <;> first | omega | assumption | trivial | rfl) | (refine ⟨?_, ?_, ?_, ?_, ?_⟩ <;> first | omega | assumption | trivial | rfl) | (refine ⟨?_, ?_, ?_, ?_, ?_, ?_⟩ <;> first | omega | assumption | trivial | rfl) | (refine ⟨?_, ?_, ?_, ?_, ?_, ?_, ?_⟩ <;> first | omega | assumption | trivial | rfl) | (refine ⟨?_, ?_, ?_, ?_, ?_, ?_, ?_, ?_⟩ <;> first | omega | assumption | trivial | rfl))
            · refine ok_o2 (sp_X9_done c_t_acts (1 : Int32) ) (fun r113_6 c_t_acts_113_6 h20 => ?_)
              exact ok_s (show FA f_t_forms_94_3 from by first | omega | assumption | trivial | (refine ⟨?_, ?_⟩ <;> first | omega | assumption | trivial | rfl) | (refine ⟨?_, ?_, ?_⟩ <;> first | omega | assumption | trivial | rfl) | (refine ⟨?_, ?_, ?_, ?_⟩ <;> first | omega | assumption | trivial | rfl) | (refine ⟨?_, ?_, ?_, ?_, ?_⟩ <;> first | omega | assumption | trivial | rfl) | (refine ⟨?_, ?_, ?_, ?_, ?_, ?_⟩ <;> first | omega | assumption | trivial | rfl) | (refine ⟨?_, ?_, ?_, ?_, ?_, ?_, ?_⟩ <;> first | omega | assumption | trivial | rfl) | (refine ⟨?_, ?_, ?_, ?_, ?_, ?_, ?_, ?_⟩ <;> first | omega | assumption | trivial | rfl))
      · exact ok_s (show FA f_t_forms from by first | omega | assumption | trivial | (refine ⟨?_, ?_⟩ <;> first | omega | assumption | trivial | rfl) | (refine ⟨?_, ?_, ?_⟩ <;> first | omega | assumption | trivial | rfl) | (refine ⟨?_, ?_, ?_, ?_⟩ <;> first | omega | assumption | trivial | rfl) | (refine ⟨?_, ?_, ?_, ?_, ?_⟩ <;> first | omega | assumption | trivial | rfl) | (refine ⟨?_, ?_, ?_, ?_, ?_, ?_⟩ <;> first | omega | assumption | trivial | rfl) | (refine ⟨?_, ?_, ?_, ?_, ?_, ?_, ?_⟩ <;> first | omega | assumption | trivial | rfl) | (refine ⟨?_, ?_, ?_, ?_, ?_, ?_, ?_, ?_⟩ <;> first | omega | assumption | trivial | rfl))
    · refine ok_le (fun c21 => ?_) (fun c21 => ?_)
      · first | unfold J_X9_digit_34 | skip
        refine ok_o2 (sp_X9_isThrown (1 : Int32) (0 : Int32) ) (fun r34_2 c_t_thrown_34_2 h22 => ?_)
        have h22 : (r34_2.toInt = 0 ∧ c_t_thrown_34_2.toInt = 0 ∧ (1 : Int32).toInt = 0 ∧ (0 : Int32).toInt = 0) ∨ (r34_2.toInt = 1 ∧ c_t_thrown_34_2.toInt = 1 ∧ (1 : Int32).toInt ≠ 0) ∨ (r34_2.toInt = 1 ∧ c_t_thrown_34_2.toInt = 2 ∧ (1 : Int32).toInt = 0 ∧ (0 : Int32).toInt ≠ 0) := h22
        refine ok_eq (fun c23 => ?_) (fun c23 => ?_)
        · refine ok_c (ixo (by omega) (by omega)) ?_
          try have a24 := FA_at (f := f_t_forms) (by assumption) p0.toNatClampNeg
          refine ok_bx (fun x4_48_2 e_x4_48_2 => ?_)
          try have q_x4_48_2 : DG x4_48_2 = DG (f_t_forms p0.toNatClampNeg) := by rw [e_x4_48_2]
          try have d_x4_48_2 : -1 ≤ DG x4_48_2 ∧ DG x4_48_2 ≤ 39 := by rw [e_x4_48_2]; exact FA_at (by assumption) _
          refine ok_bx (fun x6_53_2 e_x6_53_2 => ?_)
          have d6 : DG x6_53_2 ≤ 39 := by rw [e_x6_53_2]; exact DG_shlx (by omega) (by omega) (by rw [DG_1]; omega) (by decide) (by decide)
          refine ok_eq (fun c25 => ?_) (fun c25 => ?_)
          · first | unfold J_X9_digit_94 | skip
            refine ok_c (ixo (by omega) (by omega)) ?_
            have hj : DG (x4_48_2 &&& (x6_53_2 ^^^ (-1 : Int64))) ≤ 39 := Int.le_trans (DG_and _ _) (by omega)
            refine ok_bx (fun f_t_forms_94_4 e_f_t_forms_94_4 => ?_)
            try have t_f_t_forms_94_4 : FA f_t_forms_94_4 := by rw [e_f_t_forms_94_4]; exact FA_upd (by first | assumption | exact FA_0) _ (by first | omega | assumption | trivial)
            refine ok_c (ixo (by omega) (by omega)) ?_
            try have a27 := FA_at (f := f_t_forms_94_4) (by assumption) p0.toNatClampNeg
            refine ok_eqL (fun c26 => ?_) (fun c26 => ?_)
            · refine ok_o2 (sp_X9_done c_t_acts (0 : Int32) ) (fun r113_7 c_t_acts_113_7 h28 => ?_)
              exact ok_s (show FA f_t_forms_94_4 from by first | omega | assumption | trivial | (refine ⟨?_, ?_⟩ <;> first | omega | assumption | trivial | rfl) | (refine ⟨?_, ?_, ?_⟩ <;> first | omega | assumption | trivial | rfl) | (refine ⟨?_, ?_, ?_, ?_⟩ <;> first | omega | assumption | trivial | rfl) | (refine ⟨?_, ?_, ?_, ?_, ?_⟩ <;> first | omega | assumption | trivial | rfl) | (refine ⟨?_, ?_, ?_, ?_, ?_, ?_⟩ <;> first | omega | assumption | trivial | rfl) | (refine ⟨?_, ?_, ?_, ?_, ?_, ?_, ?_⟩ <;> first | omega | assumption | trivial | rfl) | (refine ⟨?_, ?_, ?_, ?_, ?_, ?_, ?_, ?_⟩ <;> first | omega | assumption | trivial | rfl))
            · refine ok_o2 (sp_X9_done c_t_acts (1 : Int32) ) (fun r113_8 c_t_acts_113_8 h29 => ?_)
              exact ok_s (show FA f_t_forms_94_4 from by first | omega | assumption | trivial | (refine ⟨?_, ?_⟩ <;> first | omega | assumption | trivial | rfl) | (refine ⟨?_, ?_, ?_⟩ <;> first | omega | assumption | trivial | rfl) | (refine ⟨?_, ?_, ?_, ?_⟩ <;> first | omega | assumption | trivial | rfl) | (refine ⟨?_, ?_, ?_, ?_, ?_⟩ <;> first | omega | assumption | trivial | rfl) | (refine ⟨?_, ?_, ?_, ?_, ?_, ?_⟩ <;> first | omega | assumption | trivial | rfl) | (refine ⟨?_, ?_, ?_, ?_, ?_, ?_, ?_⟩ <;> first | omega | assumption | trivial | rfl) | (refine ⟨?_, ?_, ?_, ?_, ?_, ?_, ?_, ?_⟩ <;> first | omega | assumption | trivial | rfl))
          · refine ok_eq (fun c30 => ?_) (fun c30 => ?_)
            · first | unfold J_X9_digit_94 | skip
              refine ok_c (ixo (by omega) (by omega)) ?_
              have hj : DG (x4_48_2 ||| x6_53_2) ≤ 39 := DG_or (by omega) (by omega)
              refine ok_bx (fun f_t_forms_94_5 e_f_t_forms_94_5 => ?_)
              try have t_f_t_forms_94_5 : FA f_t_forms_94_5 := by rw [e_f_t_forms_94_5]; exact FA_upd (by first | assumption | exact FA_0) _ (by first | omega | assumption | trivial)
              refine ok_c (ixo (by omega) (by omega)) ?_
              try have a32 := FA_at (f := f_t_forms_94_5) (by assumption) p0.toNatClampNeg
              refine ok_eqL (fun c31 => ?_) (fun c31 => ?_)
              · refine ok_o2 (sp_X9_done c_t_acts (0 : Int32) ) (fun r113_9 c_t_acts_113_9 h33 => ?_)
                exact ok_s (show FA f_t_forms_94_5 from by first | omega | assumption | trivial | (refine ⟨?_, ?_⟩ <;> first | omega | assumption | trivial | rfl) | (refine ⟨?_, ?_, ?_⟩ <;> first | omega | assumption | trivial | rfl) | (refine ⟨?_, ?_, ?_, ?_⟩ <;> first | omega | assumption | trivial | rfl) | (refine ⟨?_, ?_, ?_, ?_, ?_⟩ <;> first | omega | assumption | trivial | rfl) | (refine ⟨?_, ?_, ?_, ?_, ?_, ?_⟩ <;> first | omega | assumption | trivial | rfl) | (refine ⟨?_, ?_, ?_, ?_, ?_, ?_, ?_⟩ <;> first | omega | assumption | trivial | rfl) | (refine ⟨?_, ?_, ?_, ?_, ?_, ?_, ?_, ?_⟩ <;> first | omega | assumption | trivial | rfl))
              · refine ok_o2 (sp_X9_done c_t_acts (1 : Int32) ) (fun r113_10 c_t_acts_113_10 h34 => ?_)
                exact ok_s (show FA f_t_forms_94_5 from by first | omega | assumption | trivial | (refine ⟨?_, ?_⟩ <;> first | omega | assumption | trivial | rfl) | (refine ⟨?_, ?_, ?_⟩ <;> first | omega | assumption | trivial | rfl) | (refine ⟨?_, ?_, ?_, ?_⟩ <;> first | omega | assumption | trivial | rfl) | (refine ⟨?_, ?_, ?_, ?_, ?_⟩ <;> first | omega | assumption | trivial | rfl) | (refine ⟨?_, ?_, ?_, ?_, ?_, ?_⟩ <;> first | omega | assumption | trivial | rfl) | (refine ⟨?_, ?_, ?_, ?_, ?_, ?_, ?_⟩ <;> first | omega | assumption | trivial | rfl) | (refine ⟨?_, ?_, ?_, ?_, ?_, ?_, ?_, ?_⟩ <;> first | omega | assumption | trivial | rfl))
            · first | unfold J_X9_digit_94 | skip
              refine ok_c (ixo (by omega) (by omega)) ?_
              have hj : DG (x4_48_2 ^^^ x6_53_2) ≤ 39 := DG_xor (by omega) (by omega)
              refine ok_bx (fun f_t_forms_94_6 e_f_t_forms_94_6 => ?_)
              try have t_f_t_forms_94_6 : FA f_t_forms_94_6 := by rw [e_f_t_forms_94_6]; exact FA_upd (by first | assumption | exact FA_0) _ (by first | omega | assumption | trivial)
              refine ok_c (ixo (by omega) (by omega)) ?_
              try have a36 := FA_at (f := f_t_forms_94_6) (by assumption) p0.toNatClampNeg
              refine ok_eqL (fun c35 => ?_) (fun c35 => ?_)
              · refine ok_o2 (sp_X9_done c_t_acts (0 : Int32) ) (fun r113_11 c_t_acts_113_11 h37 => ?_)
                exact ok_s (show FA f_t_forms_94_6 from by first | omega | assumption | trivial | (refine ⟨?_, ?_⟩ <;> first | omega | assumption | trivial | rfl) | (refine ⟨?_, ?_, ?_⟩ <;> first | omega | assumption | trivial | rfl) | (refine ⟨?_, ?_, ?_, ?_⟩ <;> first | omega | assumption | trivial | rfl) | (refine ⟨?_, ?_, ?_, ?_, ?_⟩ <;> first | omega | assumption | trivial | rfl) | (refine ⟨?_, ?_, ?_, ?_, ?_, ?_⟩ <;> first | omega | assumption | trivial | rfl) | (refine ⟨?_, ?_, ?_, ?_, ?_, ?_, ?_⟩ <;> first | omega | assumption | trivial | rfl) | (refine ⟨?_, ?_, ?_, ?_, ?_, ?_, ?_, ?_⟩ <;> first | omega | assumption | trivial | rfl))
              · refine ok_o2 (sp_X9_done c_t_acts (1 : Int32) ) (fun r113_12 c_t_acts_113_12 h38 => ?_)
                exact ok_s (show FA f_t_forms_94_6 from by first | omega | assumption | trivial | (refine ⟨?_, ?_⟩ <;> first | omega | assumption | trivial | rfl) | (refine ⟨?_, ?_, ?_⟩ <;> first | omega | assumption | trivial | rfl) | (refine ⟨?_, ?_, ?_, ?_⟩ <;> first | omega | assumption | trivial | rfl) | (refine ⟨?_, ?_, ?_, ?_, ?_⟩ <;> first | omega | assumption | trivial | rfl) | (refine ⟨?_, ?_, ?_, ?_, ?_, ?_⟩ <;> first | omega | assumption | trivial | rfl) | (refine ⟨?_, ?_, ?_, ?_, ?_, ?_, ?_⟩ <;> first | omega | assumption | trivial | rfl) | (refine ⟨?_, ?_, ?_, ?_, ?_, ?_, ?_, ?_⟩ <;> first | omega | assumption | trivial | rfl))
        · exact ok_s (show FA f_t_forms from by first | omega | assumption | trivial | (refine ⟨?_, ?_⟩ <;> first | omega | assumption | trivial | rfl) | (refine ⟨?_, ?_, ?_⟩ <;> first | omega | assumption | trivial | rfl) | (refine ⟨?_, ?_, ?_, ?_⟩ <;> first | omega | assumption | trivial | rfl) | (refine ⟨?_, ?_, ?_, ?_, ?_⟩ <;> first | omega | assumption | trivial | rfl) | (refine ⟨?_, ?_, ?_, ?_, ?_, ?_⟩ <;> first | omega | assumption | trivial | rfl) | (refine ⟨?_, ?_, ?_, ?_, ?_, ?_, ?_⟩ <;> first | omega | assumption | trivial | rfl) | (refine ⟨?_, ?_, ?_, ?_, ?_, ?_, ?_, ?_⟩ <;> first | omega | assumption | trivial | rfl))
      · first | unfold J_X9_digit_29 | skip
        first | unfold J_X9_digit_34 | skip
        refine ok_o2 (sp_X9_isThrown (1 : Int32) (1 : Int32) ) (fun r34_3 c_t_thrown_34_3 h39 => ?_)
        have h39 : (r34_3.toInt = 0 ∧ c_t_thrown_34_3.toInt = 0 ∧ (1 : Int32).toInt = 0 ∧ (1 : Int32).toInt = 0) ∨ (r34_3.toInt = 1 ∧ c_t_thrown_34_3.toInt = 1 ∧ (1 : Int32).toInt ≠ 0) ∨ (r34_3.toInt = 1 ∧ c_t_thrown_34_3.toInt = 2 ∧ (1 : Int32).toInt = 0 ∧ (1 : Int32).toInt ≠ 0) := h39
        refine ok_eq (fun c40 => ?_) (fun c40 => ?_)
        · refine ok_c (ixo (by omega) (by omega)) ?_
          try have a41 := FA_at (f := f_t_forms) (by assumption) p0.toNatClampNeg
          refine ok_bx (fun x4_48_3 e_x4_48_3 => ?_)
          try have q_x4_48_3 : DG x4_48_3 = DG (f_t_forms p0.toNatClampNeg) := by rw [e_x4_48_3]
          try have d_x4_48_3 : -1 ≤ DG x4_48_3 ∧ DG x4_48_3 ≤ 39 := by rw [e_x4_48_3]; exact FA_at (by assumption) _
          refine ok_bx (fun x6_53_3 e_x6_53_3 => ?_)
          have d6 : DG x6_53_3 ≤ 39 := by rw [e_x6_53_3]; exact DG_shlx (by omega) (by omega) (by rw [DG_1]; omega) (by decide) (by decide)
          refine ok_eq (fun c42 => ?_) (fun c42 => ?_)
          · first | unfold J_X9_digit_94 | skip
            refine ok_c (ixo (by omega) (by omega)) ?_
            have hj : DG (x4_48_3 &&& (x6_53_3 ^^^ (-1 : Int64))) ≤ 39 := Int.le_trans (DG_and _ _) (by omega)
            refine ok_bx (fun f_t_forms_94_7 e_f_t_forms_94_7 => ?_)
            try have t_f_t_forms_94_7 : FA f_t_forms_94_7 := by rw [e_f_t_forms_94_7]; exact FA_upd (by first | assumption | exact FA_0) _ (by first | omega | assumption | trivial)
            refine ok_c (ixo (by omega) (by omega)) ?_
            try have a44 := FA_at (f := f_t_forms_94_7) (by assumption) p0.toNatClampNeg
            refine ok_eqL (fun c43 => ?_) (fun c43 => ?_)
            · refine ok_o2 (sp_X9_done c_t_acts (0 : Int32) ) (fun r113_13 c_t_acts_113_13 h45 => ?_)
              exact ok_s (show FA f_t_forms_94_7 from by first | omega | assumption | trivial | (refine ⟨?_, ?_⟩ <;> first | omega | assumption | trivial | rfl) | (refine ⟨?_, ?_, ?_⟩ <;> first | omega | assumption | trivial | rfl) | (refine ⟨?_, ?_, ?_, ?_⟩ <;> first | omega | assumption | trivial | rfl) | (refine ⟨?_, ?_, ?_, ?_, ?_⟩ <;> first | omega | assumption | trivial | rfl) | (refine ⟨?_, ?_, ?_, ?_, ?_, ?_⟩ <;> first | omega | assumption | trivial | rfl) | (refine ⟨?_, ?_, ?_, ?_, ?_, ?_, ?_⟩ <;> first | omega | assumption | trivial | rfl) | (refine ⟨?_, ?_, ?_, ?_, ?_, ?_, ?_, ?_⟩ <;> first | omega | assumption | trivial | rfl))
            · refine ok_o2 (sp_X9_done c_t_acts (1 : Int32) ) (fun r113_14 c_t_acts_113_14 h46 => ?_)
              exact ok_s (show FA f_t_forms_94_7 from by first | omega | assumption | trivial | (refine ⟨?_, ?_⟩ <;> first | omega | assumption | trivial | rfl) | (refine ⟨?_, ?_, ?_⟩ <;> first | omega | assumption | trivial | rfl) | (refine ⟨?_, ?_, ?_, ?_⟩ <;> first | omega | assumption | trivial | rfl) | (refine ⟨?_, ?_, ?_, ?_, ?_⟩ <;> first | omega | assumption | trivial | rfl) | (refine ⟨?_, ?_, ?_, ?_, ?_, ?_⟩ <;> first | omega | assumption | trivial | rfl) | (refine ⟨?_, ?_, ?_, ?_, ?_, ?_, ?_⟩ <;> first | omega | assumption | trivial | rfl) | (refine ⟨?_, ?_, ?_, ?_, ?_, ?_, ?_, ?_⟩ <;> first | omega | assumption | trivial | rfl))
          · refine ok_eq (fun c47 => ?_) (fun c47 => ?_)
            · first | unfold J_X9_digit_94 | skip
              refine ok_c (ixo (by omega) (by omega)) ?_
              have hj : DG (x4_48_3 ||| x6_53_3) ≤ 39 := DG_or (by omega) (by omega)
              refine ok_bx (fun f_t_forms_94_8 e_f_t_forms_94_8 => ?_)
              try have t_f_t_forms_94_8 : FA f_t_forms_94_8 := by rw [e_f_t_forms_94_8]; exact FA_upd (by first | assumption | exact FA_0) _ (by first | omega | assumption | trivial)
              refine ok_c (ixo (by omega) (by omega)) ?_
              try have a49 := FA_at (f := f_t_forms_94_8) (by assumption) p0.toNatClampNeg
              refine ok_eqL (fun c48 => ?_) (fun c48 => ?_)
              · refine ok_o2 (sp_X9_done c_t_acts (0 : Int32) ) (fun r113_15 c_t_acts_113_15 h50 => ?_)
                exact ok_s (show FA f_t_forms_94_8 from by first | omega | assumption | trivial | (refine ⟨?_, ?_⟩ <;> first | omega | assumption | trivial | rfl) | (refine ⟨?_, ?_, ?_⟩ <;> first | omega | assumption | trivial | rfl) | (refine ⟨?_, ?_, ?_, ?_⟩ <;> first | omega | assumption | trivial | rfl) | (refine ⟨?_, ?_, ?_, ?_, ?_⟩ <;> first | omega | assumption | trivial | rfl) | (refine ⟨?_, ?_, ?_, ?_, ?_, ?_⟩ <;> first | omega | assumption | trivial | rfl) | (refine ⟨?_, ?_, ?_, ?_, ?_, ?_, ?_⟩ <;> first | omega | assumption | trivial | rfl) | (refine ⟨?_, ?_, ?_, ?_, ?_, ?_, ?_, ?_⟩ <;> first | omega | assumption | trivial | rfl))
              · refine ok_o2 (sp_X9_done c_t_acts (1 : Int32) ) (fun r113_16 c_t_acts_113_16 h51 => ?_)
                exact ok_s (show FA f_t_forms_94_8 from by first | omega | assumption | trivial | (refine ⟨?_, ?_⟩ <;> first | omega | assumption | trivial | rfl) | (refine ⟨?_, ?_, ?_⟩ <;> first | omega | assumption | trivial | rfl) | (refine ⟨?_, ?_, ?_, ?_⟩ <;> first | omega | assumption | trivial | rfl) | (refine ⟨?_, ?_, ?_, ?_, ?_⟩ <;> first | omega | assumption | trivial | rfl) | (refine ⟨?_, ?_, ?_, ?_, ?_, ?_⟩ <;> first | omega | assumption | trivial | rfl) | (refine ⟨?_, ?_, ?_, ?_, ?_, ?_, ?_⟩ <;> first | omega | assumption | trivial | rfl) | (refine ⟨?_, ?_, ?_, ?_, ?_, ?_, ?_, ?_⟩ <;> first | omega | assumption | trivial | rfl))
            · first | unfold J_X9_digit_94 | skip
              refine ok_c (ixo (by omega) (by omega)) ?_
              have hj : DG (x4_48_3 ^^^ x6_53_3) ≤ 39 := DG_xor (by omega) (by omega)
              refine ok_bx (fun f_t_forms_94_9 e_f_t_forms_94_9 => ?_)
              try have t_f_t_forms_94_9 : FA f_t_forms_94_9 := by rw [e_f_t_forms_94_9]; exact FA_upd (by first | assumption | exact FA_0) _ (by first | omega | assumption | trivial)
              refine ok_c (ixo (by omega) (by omega)) ?_
              try have a53 := FA_at (f := f_t_forms_94_9) (by assumption) p0.toNatClampNeg
              refine ok_eqL (fun c52 => ?_) (fun c52 => ?_)
              · refine ok_o2 (sp_X9_done c_t_acts (0 : Int32) ) (fun r113_17 c_t_acts_113_17 h54 => ?_)
                exact ok_s (show FA f_t_forms_94_9 from by first | omega | assumption | trivial | (refine ⟨?_, ?_⟩ <;> first | omega | assumption | trivial | rfl) | (refine ⟨?_, ?_, ?_⟩ <;> first | omega | assumption | trivial | rfl) | (refine ⟨?_, ?_, ?_, ?_⟩ <;> first | omega | assumption | trivial | rfl) | (refine ⟨?_, ?_, ?_, ?_, ?_⟩ <;> first | omega | assumption | trivial | rfl) | (refine ⟨?_, ?_, ?_, ?_, ?_, ?_⟩ <;> first | omega | assumption | trivial | rfl) | (refine ⟨?_, ?_, ?_, ?_, ?_, ?_, ?_⟩ <;> first | omega | assumption | trivial | rfl) | (refine ⟨?_, ?_, ?_, ?_, ?_, ?_, ?_, ?_⟩ <;> first | omega | assumption | trivial | rfl))
              · refine ok_o2 (sp_X9_done c_t_acts (1 : Int32) ) (fun r113_18 c_t_acts_113_18 h55 => ?_)
                exact ok_s (show FA f_t_forms_94_9 from by first | omega | assumption | trivial | (refine ⟨?_, ?_⟩ <;> first | omega | assumption | trivial | rfl) | (refine ⟨?_, ?_, ?_⟩ <;> first | omega | assumption | trivial | rfl) | (refine ⟨?_, ?_, ?_, ?_⟩ <;> first | omega | assumption | trivial | rfl) | (refine ⟨?_, ?_, ?_, ?_, ?_⟩ <;> first | omega | assumption | trivial | rfl) | (refine ⟨?_, ?_, ?_, ?_, ?_, ?_⟩ <;> first | omega | assumption | trivial | rfl) | (refine ⟨?_, ?_, ?_, ?_, ?_, ?_, ?_⟩ <;> first | omega | assumption | trivial | rfl) | (refine ⟨?_, ?_, ?_, ?_, ?_, ?_, ?_, ?_⟩ <;> first | omega | assumption | trivial | rfl))
        · exact ok_s (show FA f_t_forms from by first | omega | assumption | trivial | (refine ⟨?_, ?_⟩ <;> first | omega | assumption | trivial | rfl) | (refine ⟨?_, ?_, ?_⟩ <;> first | omega | assumption | trivial | rfl) | (refine ⟨?_, ?_, ?_, ?_⟩ <;> first | omega | assumption | trivial | rfl) | (refine ⟨?_, ?_, ?_, ?_, ?_⟩ <;> first | omega | assumption | trivial | rfl) | (refine ⟨?_, ?_, ?_, ?_, ?_, ?_⟩ <;> first | omega | assumption | trivial | rfl) | (refine ⟨?_, ?_, ?_, ?_, ?_, ?_, ?_⟩ <;> first | omega | assumption | trivial | rfl) | (refine ⟨?_, ?_, ?_, ?_, ?_, ?_, ?_, ?_⟩ <;> first | omega | assumption | trivial | rfl))
  · refine ok_o (sp_X9_isPlace p1 ) (fun r9 h56 => ?_)
    have h56 : (r9.toInt = 1 ∧ 0 ≤ p1.toInt ∧ p1.toInt ≤ 39) ∨ (r9.toInt = 0 ∧ (p1.toInt < 0 ∨ 40 ≤ p1.toInt)) := h56
    refine ok_eq (fun c57 => ?_) (fun c57 => ?_)
    · first | unfold J_X9_digit_15 | skip
      first | unfold J_X9_digit_20 | skip
      refine ok_lt (fun c58 => ?_) (fun c58 => ?_)
      · first | unfold J_X9_digit_29 | skip
        first | unfold J_X9_digit_34 | skip
        refine ok_o2 (sp_X9_isThrown (1 : Int32) (1 : Int32) ) (fun r34_4 c_t_thrown_34_4 h59 => ?_)
        have h59 : (r34_4.toInt = 0 ∧ c_t_thrown_34_4.toInt = 0 ∧ (1 : Int32).toInt = 0 ∧ (1 : Int32).toInt = 0) ∨ (r34_4.toInt = 1 ∧ c_t_thrown_34_4.toInt = 1 ∧ (1 : Int32).toInt ≠ 0) ∨ (r34_4.toInt = 1 ∧ c_t_thrown_34_4.toInt = 2 ∧ (1 : Int32).toInt = 0 ∧ (1 : Int32).toInt ≠ 0) := h59
        refine ok_eq (fun c60 => ?_) (fun c60 => ?_)
        · refine ok_c (ixo (by omega) (by omega)) ?_
          try have a61 := FA_at (f := f_t_forms) (by assumption) p0.toNatClampNeg
          refine ok_bx (fun x4_48_4 e_x4_48_4 => ?_)
          try have q_x4_48_4 : DG x4_48_4 = DG (f_t_forms p0.toNatClampNeg) := by rw [e_x4_48_4]
          try have d_x4_48_4 : -1 ≤ DG x4_48_4 ∧ DG x4_48_4 ≤ 39 := by rw [e_x4_48_4]; exact FA_at (by assumption) _
          refine ok_bx (fun x6_53_4 e_x6_53_4 => ?_)
          have d6 : DG x6_53_4 ≤ 39 := by rw [e_x6_53_4]; exact DG_shlx (by omega) (by omega) (by rw [DG_1]; omega) (by decide) (by decide)
          refine ok_eq (fun c62 => ?_) (fun c62 => ?_)
          · first | unfold J_X9_digit_94 | skip
            refine ok_c (ixo (by omega) (by omega)) ?_
            have hj : DG (x4_48_4 &&& (x6_53_4 ^^^ (-1 : Int64))) ≤ 39 := Int.le_trans (DG_and _ _) (by omega)
            refine ok_bx (fun f_t_forms_94_10 e_f_t_forms_94_10 => ?_)
            try have t_f_t_forms_94_10 : FA f_t_forms_94_10 := by rw [e_f_t_forms_94_10]; exact FA_upd (by first | assumption | exact FA_0) _ (by first | omega | assumption | trivial)
            refine ok_c (ixo (by omega) (by omega)) ?_
            try have a64 := FA_at (f := f_t_forms_94_10) (by assumption) p0.toNatClampNeg
            refine ok_eqL (fun c63 => ?_) (fun c63 => ?_)
            · refine ok_o2 (sp_X9_done c_t_acts (0 : Int32) ) (fun r113_19 c_t_acts_113_19 h65 => ?_)
              exact ok_s (show FA f_t_forms_94_10 from by first | omega | assumption | trivial | (refine ⟨?_, ?_⟩ <;> first | omega | assumption | trivial | rfl) | (refine ⟨?_, ?_, ?_⟩ <;> first | omega | assumption | trivial | rfl) | (refine ⟨?_, ?_, ?_, ?_⟩ <;> first | omega | assumption | trivial | rfl) | (refine ⟨?_, ?_, ?_, ?_, ?_⟩ <;> first | omega | assumption | trivial | rfl) | (refine ⟨?_, ?_, ?_, ?_, ?_, ?_⟩ <;> first | omega | assumption | trivial | rfl) | (refine ⟨?_, ?_, ?_, ?_, ?_, ?_, ?_⟩ <;> first | omega | assumption | trivial | rfl) | (refine ⟨?_, ?_, ?_, ?_, ?_, ?_, ?_, ?_⟩ <;> first | omega | assumption | trivial | rfl))
            · refine ok_o2 (sp_X9_done c_t_acts (1 : Int32) ) (fun r113_20 c_t_acts_113_20 h66 => ?_)
              exact ok_s (show FA f_t_forms_94_10 from by first | omega | assumption | trivial | (refine ⟨?_, ?_⟩ <;> first | omega | assumption | trivial | rfl) | (refine ⟨?_, ?_, ?_⟩ <;> first | omega | assumption | trivial | rfl) | (refine ⟨?_, ?_, ?_, ?_⟩ <;> first | omega | assumption | trivial | rfl) | (refine ⟨?_, ?_, ?_, ?_, ?_⟩ <;> first | omega | assumption | trivial | rfl) | (refine ⟨?_, ?_, ?_, ?_, ?_, ?_⟩ <;> first | omega | assumption | trivial | rfl) | (refine ⟨?_, ?_, ?_, ?_, ?_, ?_, ?_⟩ <;> first | omega | assumption | trivial | rfl) | (refine ⟨?_, ?_, ?_, ?_, ?_, ?_, ?_, ?_⟩ <;> first | omega | assumption | trivial | rfl))
          · refine ok_eq (fun c67 => ?_) (fun c67 => ?_)
            · first | unfold J_X9_digit_94 | skip
              refine ok_c (ixo (by omega) (by omega)) ?_
              have hj : DG (x4_48_4 ||| x6_53_4) ≤ 39 := DG_or (by omega) (by omega)
              refine ok_bx (fun f_t_forms_94_11 e_f_t_forms_94_11 => ?_)
              try have t_f_t_forms_94_11 : FA f_t_forms_94_11 := by rw [e_f_t_forms_94_11]; exact FA_upd (by first | assumption | exact FA_0) _ (by first | omega | assumption | trivial)
              refine ok_c (ixo (by omega) (by omega)) ?_
              try have a69 := FA_at (f := f_t_forms_94_11) (by assumption) p0.toNatClampNeg
              refine ok_eqL (fun c68 => ?_) (fun c68 => ?_)
              · refine ok_o2 (sp_X9_done c_t_acts (0 : Int32) ) (fun r113_21 c_t_acts_113_21 h70 => ?_)
                exact ok_s (show FA f_t_forms_94_11 from by first | omega | assumption | trivial | (refine ⟨?_, ?_⟩ <;> first | omega | assumption | trivial | rfl) | (refine ⟨?_, ?_, ?_⟩ <;> first | omega | assumption | trivial | rfl) | (refine ⟨?_, ?_, ?_, ?_⟩ <;> first | omega | assumption | trivial | rfl) | (refine ⟨?_, ?_, ?_, ?_, ?_⟩ <;> first | omega | assumption | trivial | rfl) | (refine ⟨?_, ?_, ?_, ?_, ?_, ?_⟩ <;> first | omega | assumption | trivial | rfl) | (refine ⟨?_, ?_, ?_, ?_, ?_, ?_, ?_⟩ <;> first | omega | assumption | trivial | rfl) | (refine ⟨?_, ?_, ?_, ?_, ?_, ?_, ?_, ?_⟩ <;> first | omega | assumption | trivial | rfl))
              · refine ok_o2 (sp_X9_done c_t_acts (1 : Int32) ) (fun r113_22 c_t_acts_113_22 h71 => ?_)
                exact ok_s (show FA f_t_forms_94_11 from by first | omega | assumption | trivial | (refine ⟨?_, ?_⟩ <;> first | omega | assumption | trivial | rfl) | (refine ⟨?_, ?_, ?_⟩ <;> first | omega | assumption | trivial | rfl) | (refine ⟨?_, ?_, ?_, ?_⟩ <;> first | omega | assumption | trivial | rfl) | (refine ⟨?_, ?_, ?_, ?_, ?_⟩ <;> first | omega | assumption | trivial | rfl) | (refine ⟨?_, ?_, ?_, ?_, ?_, ?_⟩ <;> first | omega | assumption | trivial | rfl) | (refine ⟨?_, ?_, ?_, ?_, ?_, ?_, ?_⟩ <;> first | omega | assumption | trivial | rfl) | (refine ⟨?_, ?_, ?_, ?_, ?_, ?_, ?_, ?_⟩ <;> first | omega | assumption | trivial | rfl))
            · first | unfold J_X9_digit_94 | skip
              refine ok_c (ixo (by omega) (by omega)) ?_
              have hj : DG (x4_48_4 ^^^ x6_53_4) ≤ 39 := DG_xor (by omega) (by omega)
              refine ok_bx (fun f_t_forms_94_12 e_f_t_forms_94_12 => ?_)
              try have t_f_t_forms_94_12 : FA f_t_forms_94_12 := by rw [e_f_t_forms_94_12]; exact FA_upd (by first | assumption | exact FA_0) _ (by first | omega | assumption | trivial)
              refine ok_c (ixo (by omega) (by omega)) ?_
              try have a73 := FA_at (f := f_t_forms_94_12) (by assumption) p0.toNatClampNeg
              refine ok_eqL (fun c72 => ?_) (fun c72 => ?_)
              · refine ok_o2 (sp_X9_done c_t_acts (0 : Int32) ) (fun r113_23 c_t_acts_113_23 h74 => ?_)
                exact ok_s (show FA f_t_forms_94_12 from by first | omega | assumption | trivial | (refine ⟨?_, ?_⟩ <;> first | omega | assumption | trivial | rfl) | (refine ⟨?_, ?_, ?_⟩ <;> first | omega | assumption | trivial | rfl) | (refine ⟨?_, ?_, ?_, ?_⟩ <;> first | omega | assumption | trivial | rfl) | (refine ⟨?_, ?_, ?_, ?_, ?_⟩ <;> first | omega | assumption | trivial | rfl) | (refine ⟨?_, ?_, ?_, ?_, ?_, ?_⟩ <;> first | omega | assumption | trivial | rfl) | (refine ⟨?_, ?_, ?_, ?_, ?_, ?_, ?_⟩ <;> first | omega | assumption | trivial | rfl) | (refine ⟨?_, ?_, ?_, ?_, ?_, ?_, ?_, ?_⟩ <;> first | omega | assumption | trivial | rfl))
              · refine ok_o2 (sp_X9_done c_t_acts (1 : Int32) ) (fun r113_24 c_t_acts_113_24 h75 => ?_)
                exact ok_s (show FA f_t_forms_94_12 from by first | omega | assumption | trivial | (refine ⟨?_, ?_⟩ <;> first | omega | assumption | trivial | rfl) | (refine ⟨?_, ?_, ?_⟩ <;> first | omega | assumption | trivial | rfl) | (refine ⟨?_, ?_, ?_, ?_⟩ <;> first | omega | assumption | trivial | rfl) | (refine ⟨?_, ?_, ?_, ?_, ?_⟩ <;> first | omega | assumption | trivial | rfl) | (refine ⟨?_, ?_, ?_, ?_, ?_, ?_⟩ <;> first | omega | assumption | trivial | rfl) | (refine ⟨?_, ?_, ?_, ?_, ?_, ?_, ?_⟩ <;> first | omega | assumption | trivial | rfl) | (refine ⟨?_, ?_, ?_, ?_, ?_, ?_, ?_, ?_⟩ <;> first | omega | assumption | trivial | rfl))
        · exact ok_s (show FA f_t_forms from by first | omega | assumption | trivial | (refine ⟨?_, ?_⟩ <;> first | omega | assumption | trivial | rfl) | (refine ⟨?_, ?_, ?_⟩ <;> first | omega | assumption | trivial | rfl) | (refine ⟨?_, ?_, ?_, ?_⟩ <;> first | omega | assumption | trivial | rfl) | (refine ⟨?_, ?_, ?_, ?_, ?_⟩ <;> first | omega | assumption | trivial | rfl) | (refine ⟨?_, ?_, ?_, ?_, ?_, ?_⟩ <;> first | omega | assumption | trivial | rfl) | (refine ⟨?_, ?_, ?_, ?_, ?_, ?_, ?_⟩ <;> first | omega | assumption | trivial | rfl) | (refine ⟨?_, ?_, ?_, ?_, ?_, ?_, ?_, ?_⟩ <;> first | omega | assumption | trivial | rfl))
      · refine ok_le (fun c76 => ?_) (fun c76 => ?_)
        · first | unfold J_X9_digit_34 | skip
          refine ok_o2 (sp_X9_isThrown (1 : Int32) (0 : Int32) ) (fun r34_5 c_t_thrown_34_5 h77 => ?_)
          have h77 : (r34_5.toInt = 0 ∧ c_t_thrown_34_5.toInt = 0 ∧ (1 : Int32).toInt = 0 ∧ (0 : Int32).toInt = 0) ∨ (r34_5.toInt = 1 ∧ c_t_thrown_34_5.toInt = 1 ∧ (1 : Int32).toInt ≠ 0) ∨ (r34_5.toInt = 1 ∧ c_t_thrown_34_5.toInt = 2 ∧ (1 : Int32).toInt = 0 ∧ (0 : Int32).toInt ≠ 0) := h77
          refine ok_eq (fun c78 => ?_) (fun c78 => ?_)
          · refine ok_c (ixo (by omega) (by omega)) ?_
            try have a79 := FA_at (f := f_t_forms) (by assumption) p0.toNatClampNeg
            refine ok_bx (fun x4_48_5 e_x4_48_5 => ?_)
            try have q_x4_48_5 : DG x4_48_5 = DG (f_t_forms p0.toNatClampNeg) := by rw [e_x4_48_5]
            try have d_x4_48_5 : -1 ≤ DG x4_48_5 ∧ DG x4_48_5 ≤ 39 := by rw [e_x4_48_5]; exact FA_at (by assumption) _
            refine ok_bx (fun x6_53_5 e_x6_53_5 => ?_)
            have d6 : DG x6_53_5 ≤ 39 := by rw [e_x6_53_5]; exact DG_shlx (by omega) (by omega) (by rw [DG_1]; omega) (by decide) (by decide)
            refine ok_eq (fun c80 => ?_) (fun c80 => ?_)
            · first | unfold J_X9_digit_94 | skip
              refine ok_c (ixo (by omega) (by omega)) ?_
              have hj : DG (x4_48_5 &&& (x6_53_5 ^^^ (-1 : Int64))) ≤ 39 := Int.le_trans (DG_and _ _) (by omega)
              refine ok_bx (fun f_t_forms_94_13 e_f_t_forms_94_13 => ?_)
              try have t_f_t_forms_94_13 : FA f_t_forms_94_13 := by rw [e_f_t_forms_94_13]; exact FA_upd (by first | assumption | exact FA_0) _ (by first | omega | assumption | trivial)
              refine ok_c (ixo (by omega) (by omega)) ?_
              try have a82 := FA_at (f := f_t_forms_94_13) (by assumption) p0.toNatClampNeg
              refine ok_eqL (fun c81 => ?_) (fun c81 => ?_)
              · refine ok_o2 (sp_X9_done c_t_acts (0 : Int32) ) (fun r113_25 c_t_acts_113_25 h83 => ?_)
                exact ok_s (show FA f_t_forms_94_13 from by first | omega | assumption | trivial | (refine ⟨?_, ?_⟩ <;> first | omega | assumption | trivial | rfl) | (refine ⟨?_, ?_, ?_⟩ <;> first | omega | assumption | trivial | rfl) | (refine ⟨?_, ?_, ?_, ?_⟩ <;> first | omega | assumption | trivial | rfl) | (refine ⟨?_, ?_, ?_, ?_, ?_⟩ <;> first | omega | assumption | trivial | rfl) | (refine ⟨?_, ?_, ?_, ?_, ?_, ?_⟩ <;> first | omega | assumption | trivial | rfl) | (refine ⟨?_, ?_, ?_, ?_, ?_, ?_, ?_⟩ <;> first | omega | assumption | trivial | rfl) | (refine ⟨?_, ?_, ?_, ?_, ?_, ?_, ?_, ?_⟩ <;> first | omega | assumption | trivial | rfl))
              · refine ok_o2 (sp_X9_done c_t_acts (1 : Int32) ) (fun r113_26 c_t_acts_113_26 h84 => ?_)
                exact ok_s (show FA f_t_forms_94_13 from by first | omega | assumption | trivial | (refine ⟨?_, ?_⟩ <;> first | omega | assumption | trivial | rfl) | (refine ⟨?_, ?_, ?_⟩ <;> first | omega | assumption | trivial | rfl) | (refine ⟨?_, ?_, ?_, ?_⟩ <;> first | omega | assumption | trivial | rfl) | (refine ⟨?_, ?_, ?_, ?_, ?_⟩ <;> first | omega | assumption | trivial | rfl) | (refine ⟨?_, ?_, ?_, ?_, ?_, ?_⟩ <;> first | omega | assumption | trivial | rfl) | (refine ⟨?_, ?_, ?_, ?_, ?_, ?_, ?_⟩ <;> first | omega | assumption | trivial | rfl) | (refine ⟨?_, ?_, ?_, ?_, ?_, ?_, ?_, ?_⟩ <;> first | omega | assumption | trivial | rfl))
            · refine ok_eq (fun c85 => ?_) (fun c85 => ?_)
              · first | unfold J_X9_digit_94 | skip
                refine ok_c (ixo (by omega) (by omega)) ?_
                have hj : DG (x4_48_5 ||| x6_53_5) ≤ 39 := DG_or (by omega) (by omega)
                refine ok_bx (fun f_t_forms_94_14 e_f_t_forms_94_14 => ?_)
                try have t_f_t_forms_94_14 : FA f_t_forms_94_14 := by rw [e_f_t_forms_94_14]; exact FA_upd (by first | assumption | exact FA_0) _ (by first | omega | assumption | trivial)
                refine ok_c (ixo (by omega) (by omega)) ?_
                try have a87 := FA_at (f := f_t_forms_94_14) (by assumption) p0.toNatClampNeg
                refine ok_eqL (fun c86 => ?_) (fun c86 => ?_)
                · refine ok_o2 (sp_X9_done c_t_acts (0 : Int32) ) (fun r113_27 c_t_acts_113_27 h88 => ?_)
                  exact ok_s (show FA f_t_forms_94_14 from by first | omega | assumption | trivial | (refine ⟨?_, ?_⟩ <;> first | omega | assumption | trivial | rfl) | (refine ⟨?_, ?_, ?_⟩ <;> first | omega | assumption | trivial | rfl) | (refine ⟨?_, ?_, ?_, ?_⟩ <;> first | omega | assumption | trivial | rfl) | (refine ⟨?_, ?_, ?_, ?_, ?_⟩ <;> first | omega | assumption | trivial | rfl) | (refine ⟨?_, ?_, ?_, ?_, ?_, ?_⟩ <;> first | omega | assumption | trivial | rfl) | (refine ⟨?_, ?_, ?_, ?_, ?_, ?_, ?_⟩ <;> first | omega | assumption | trivial | rfl) | (refine ⟨?_, ?_, ?_, ?_, ?_, ?_, ?_, ?_⟩ <;> first | omega | assumption | trivial | rfl))
                · refine ok_o2 (sp_X9_done c_t_acts (1 : Int32) ) (fun r113_28 c_t_acts_113_28 h89 => ?_)
                  exact ok_s (show FA f_t_forms_94_14 from by first | omega | assumption | trivial | (refine ⟨?_, ?_⟩ <;> first | omega | assumption | trivial | rfl) | (refine ⟨?_, ?_, ?_⟩ <;> first | omega | assumption | trivial | rfl) | (refine ⟨?_, ?_, ?_, ?_⟩ <;> first | omega | assumption | trivial | rfl) | (refine ⟨?_, ?_, ?_, ?_, ?_⟩ <;> first | omega | assumption | trivial | rfl) | (refine ⟨?_, ?_, ?_, ?_, ?_, ?_⟩ <;> first | omega | assumption | trivial | rfl) | (refine ⟨?_, ?_, ?_, ?_, ?_, ?_, ?_⟩ <;> first | omega | assumption | trivial | rfl) | (refine ⟨?_, ?_, ?_, ?_, ?_, ?_, ?_, ?_⟩ <;> first | omega | assumption | trivial | rfl))
              · first | unfold J_X9_digit_94 | skip
                refine ok_c (ixo (by omega) (by omega)) ?_
                have hj : DG (x4_48_5 ^^^ x6_53_5) ≤ 39 := DG_xor (by omega) (by omega)
                refine ok_bx (fun f_t_forms_94_15 e_f_t_forms_94_15 => ?_)
                try have t_f_t_forms_94_15 : FA f_t_forms_94_15 := by rw [e_f_t_forms_94_15]; exact FA_upd (by first | assumption | exact FA_0) _ (by first | omega | assumption | trivial)
                refine ok_c (ixo (by omega) (by omega)) ?_
                try have a91 := FA_at (f := f_t_forms_94_15) (by assumption) p0.toNatClampNeg
                refine ok_eqL (fun c90 => ?_) (fun c90 => ?_)
                · refine ok_o2 (sp_X9_done c_t_acts (0 : Int32) ) (fun r113_29 c_t_acts_113_29 h92 => ?_)
                  exact ok_s (show FA f_t_forms_94_15 from by first | omega | assumption | trivial | (refine ⟨?_, ?_⟩ <;> first | omega | assumption | trivial | rfl) | (refine ⟨?_, ?_, ?_⟩ <;> first | omega | assumption | trivial | rfl) | (refine ⟨?_, ?_, ?_, ?_⟩ <;> first | omega | assumption | trivial | rfl) | (refine ⟨?_, ?_, ?_, ?_, ?_⟩ <;> first | omega | assumption | trivial | rfl) | (refine ⟨?_, ?_, ?_, ?_, ?_, ?_⟩ <;> first | omega | assumption | trivial | rfl) | (refine ⟨?_, ?_, ?_, ?_, ?_, ?_, ?_⟩ <;> first | omega | assumption | trivial | rfl) | (refine ⟨?_, ?_, ?_, ?_, ?_, ?_, ?_, ?_⟩ <;> first | omega | assumption | trivial | rfl))
                · refine ok_o2 (sp_X9_done c_t_acts (1 : Int32) ) (fun r113_30 c_t_acts_113_30 h93 => ?_)
                  exact ok_s (show FA f_t_forms_94_15 from by first | omega | assumption | trivial | (refine ⟨?_, ?_⟩ <;> first | omega | assumption | trivial | rfl) | (refine ⟨?_, ?_, ?_⟩ <;> first | omega | assumption | trivial | rfl) | (refine ⟨?_, ?_, ?_, ?_⟩ <;> first | omega | assumption | trivial | rfl) | (refine ⟨?_, ?_, ?_, ?_, ?_⟩ <;> first | omega | assumption | trivial | rfl) | (refine ⟨?_, ?_, ?_, ?_, ?_, ?_⟩ <;> first | omega | assumption | trivial | rfl) | (refine ⟨?_, ?_, ?_, ?_, ?_, ?_, ?_⟩ <;> first | omega | assumption | trivial | rfl) | (refine ⟨?_, ?_, ?_, ?_, ?_, ?_, ?_, ?_⟩ <;> first | omega | assumption | trivial | rfl))
          · exact ok_s (show FA f_t_forms from by first | omega | assumption | trivial | (refine ⟨?_, ?_⟩ <;> first | omega | assumption | trivial | rfl) | (refine ⟨?_, ?_, ?_⟩ <;> first | omega | assumption | trivial | rfl) | (refine ⟨?_, ?_, ?_, ?_⟩ <;> first | omega | assumption | trivial | rfl) | (refine ⟨?_, ?_, ?_, ?_, ?_⟩ <;> first | omega | assumption | trivial | rfl) | (refine ⟨?_, ?_, ?_, ?_, ?_, ?_⟩ <;> first | omega | assumption | trivial | rfl) | (refine ⟨?_, ?_, ?_, ?_, ?_, ?_, ?_⟩ <;> first | omega | assumption | trivial | rfl) | (refine ⟨?_, ?_, ?_, ?_, ?_, ?_, ?_, ?_⟩ <;> first | omega | assumption | trivial | rfl))
        · first | unfold J_X9_digit_29 | skip
          first | unfold J_X9_digit_34 | skip
          refine ok_o2 (sp_X9_isThrown (1 : Int32) (1 : Int32) ) (fun r34_6 c_t_thrown_34_6 h94 => ?_)
          have h94 : (r34_6.toInt = 0 ∧ c_t_thrown_34_6.toInt = 0 ∧ (1 : Int32).toInt = 0 ∧ (1 : Int32).toInt = 0) ∨ (r34_6.toInt = 1 ∧ c_t_thrown_34_6.toInt = 1 ∧ (1 : Int32).toInt ≠ 0) ∨ (r34_6.toInt = 1 ∧ c_t_thrown_34_6.toInt = 2 ∧ (1 : Int32).toInt = 0 ∧ (1 : Int32).toInt ≠ 0) := h94
          refine ok_eq (fun c95 => ?_) (fun c95 => ?_)
          · refine ok_c (ixo (by omega) (by omega)) ?_
            try have a96 := FA_at (f := f_t_forms) (by assumption) p0.toNatClampNeg
            refine ok_bx (fun x4_48_6 e_x4_48_6 => ?_)
            try have q_x4_48_6 : DG x4_48_6 = DG (f_t_forms p0.toNatClampNeg) := by rw [e_x4_48_6]
            try have d_x4_48_6 : -1 ≤ DG x4_48_6 ∧ DG x4_48_6 ≤ 39 := by rw [e_x4_48_6]; exact FA_at (by assumption) _
            refine ok_bx (fun x6_53_6 e_x6_53_6 => ?_)
            have d6 : DG x6_53_6 ≤ 39 := by rw [e_x6_53_6]; exact DG_shlx (by omega) (by omega) (by rw [DG_1]; omega) (by decide) (by decide)
            refine ok_eq (fun c97 => ?_) (fun c97 => ?_)
            · first | unfold J_X9_digit_94 | skip
              refine ok_c (ixo (by omega) (by omega)) ?_
              have hj : DG (x4_48_6 &&& (x6_53_6 ^^^ (-1 : Int64))) ≤ 39 := Int.le_trans (DG_and _ _) (by omega)
              refine ok_bx (fun f_t_forms_94_16 e_f_t_forms_94_16 => ?_)
              try have t_f_t_forms_94_16 : FA f_t_forms_94_16 := by rw [e_f_t_forms_94_16]; exact FA_upd (by first | assumption | exact FA_0) _ (by first | omega | assumption | trivial)
              refine ok_c (ixo (by omega) (by omega)) ?_
              try have a99 := FA_at (f := f_t_forms_94_16) (by assumption) p0.toNatClampNeg
              refine ok_eqL (fun c98 => ?_) (fun c98 => ?_)
              · refine ok_o2 (sp_X9_done c_t_acts (0 : Int32) ) (fun r113_31 c_t_acts_113_31 h100 => ?_)
                exact ok_s (show FA f_t_forms_94_16 from by first | omega | assumption | trivial | (refine ⟨?_, ?_⟩ <;> first | omega | assumption | trivial | rfl) | (refine ⟨?_, ?_, ?_⟩ <;> first | omega | assumption | trivial | rfl) | (refine ⟨?_, ?_, ?_, ?_⟩ <;> first | omega | assumption | trivial | rfl) | (refine ⟨?_, ?_, ?_, ?_, ?_⟩ <;> first | omega | assumption | trivial | rfl) | (refine ⟨?_, ?_, ?_, ?_, ?_, ?_⟩ <;> first | omega | assumption | trivial | rfl) | (refine ⟨?_, ?_, ?_, ?_, ?_, ?_, ?_⟩ <;> first | omega | assumption | trivial | rfl) | (refine ⟨?_, ?_, ?_, ?_, ?_, ?_, ?_, ?_⟩ <;> first | omega | assumption | trivial | rfl))
              · refine ok_o2 (sp_X9_done c_t_acts (1 : Int32) ) (fun r113_32 c_t_acts_113_32 h101 => ?_)
                exact ok_s (show FA f_t_forms_94_16 from by first | omega | assumption | trivial | (refine ⟨?_, ?_⟩ <;> first | omega | assumption | trivial | rfl) | (refine ⟨?_, ?_, ?_⟩ <;> first | omega | assumption | trivial | rfl) | (refine ⟨?_, ?_, ?_, ?_⟩ <;> first | omega | assumption | trivial | rfl) | (refine ⟨?_, ?_, ?_, ?_, ?_⟩ <;> first | omega | assumption | trivial | rfl) | (refine ⟨?_, ?_, ?_, ?_, ?_, ?_⟩ <;> first | omega | assumption | trivial | rfl) | (refine ⟨?_, ?_, ?_, ?_, ?_, ?_, ?_⟩ <;> first | omega | assumption | trivial | rfl) | (refine ⟨?_, ?_, ?_, ?_, ?_, ?_, ?_, ?_⟩ <;> first | omega | assumption | trivial | rfl))
            · refine ok_eq (fun c102 => ?_) (fun c102 => ?_)
              · first | unfold J_X9_digit_94 | skip
                refine ok_c (ixo (by omega) (by omega)) ?_
                have hj : DG (x4_48_6 ||| x6_53_6) ≤ 39 := DG_or (by omega) (by omega)
                refine ok_bx (fun f_t_forms_94_17 e_f_t_forms_94_17 => ?_)
                try have t_f_t_forms_94_17 : FA f_t_forms_94_17 := by rw [e_f_t_forms_94_17]; exact FA_upd (by first | assumption | exact FA_0) _ (by first | omega | assumption | trivial)
                refine ok_c (ixo (by omega) (by omega)) ?_
                try have a104 := FA_at (f := f_t_forms_94_17) (by assumption) p0.toNatClampNeg
                refine ok_eqL (fun c103 => ?_) (fun c103 => ?_)
                · refine ok_o2 (sp_X9_done c_t_acts (0 : Int32) ) (fun r113_33 c_t_acts_113_33 h105 => ?_)
                  exact ok_s (show FA f_t_forms_94_17 from by first | omega | assumption | trivial | (refine ⟨?_, ?_⟩ <;> first | omega | assumption | trivial | rfl) | (refine ⟨?_, ?_, ?_⟩ <;> first | omega | assumption | trivial | rfl) | (refine ⟨?_, ?_, ?_, ?_⟩ <;> first | omega | assumption | trivial | rfl) | (refine ⟨?_, ?_, ?_, ?_, ?_⟩ <;> first | omega | assumption | trivial | rfl) | (refine ⟨?_, ?_, ?_, ?_, ?_, ?_⟩ <;> first | omega | assumption | trivial | rfl) | (refine ⟨?_, ?_, ?_, ?_, ?_, ?_, ?_⟩ <;> first | omega | assumption | trivial | rfl) | (refine ⟨?_, ?_, ?_, ?_, ?_, ?_, ?_, ?_⟩ <;> first | omega | assumption | trivial | rfl))
                · refine ok_o2 (sp_X9_done c_t_acts (1 : Int32) ) (fun r113_34 c_t_acts_113_34 h106 => ?_)
                  exact ok_s (show FA f_t_forms_94_17 from by first | omega | assumption | trivial | (refine ⟨?_, ?_⟩ <;> first | omega | assumption | trivial | rfl) | (refine ⟨?_, ?_, ?_⟩ <;> first | omega | assumption | trivial | rfl) | (refine ⟨?_, ?_, ?_, ?_⟩ <;> first | omega | assumption | trivial | rfl) | (refine ⟨?_, ?_, ?_, ?_, ?_⟩ <;> first | omega | assumption | trivial | rfl) | (refine ⟨?_, ?_, ?_, ?_, ?_, ?_⟩ <;> first | omega | assumption | trivial | rfl) | (refine ⟨?_, ?_, ?_, ?_, ?_, ?_, ?_⟩ <;> first | omega | assumption | trivial | rfl) | (refine ⟨?_, ?_, ?_, ?_, ?_, ?_, ?_, ?_⟩ <;> first | omega | assumption | trivial | rfl))
              · first | unfold J_X9_digit_94 | skip
                refine ok_c (ixo (by omega) (by omega)) ?_
                have hj : DG (x4_48_6 ^^^ x6_53_6) ≤ 39 := DG_xor (by omega) (by omega)
                refine ok_bx (fun f_t_forms_94_18 e_f_t_forms_94_18 => ?_)
                try have t_f_t_forms_94_18 : FA f_t_forms_94_18 := by rw [e_f_t_forms_94_18]; exact FA_upd (by first | assumption | exact FA_0) _ (by first | omega | assumption | trivial)
                refine ok_c (ixo (by omega) (by omega)) ?_
                try have a108 := FA_at (f := f_t_forms_94_18) (by assumption) p0.toNatClampNeg
                refine ok_eqL (fun c107 => ?_) (fun c107 => ?_)
                · refine ok_o2 (sp_X9_done c_t_acts (0 : Int32) ) (fun r113_35 c_t_acts_113_35 h109 => ?_)
                  exact ok_s (show FA f_t_forms_94_18 from by first | omega | assumption | trivial | (refine ⟨?_, ?_⟩ <;> first | omega | assumption | trivial | rfl) | (refine ⟨?_, ?_, ?_⟩ <;> first | omega | assumption | trivial | rfl) | (refine ⟨?_, ?_, ?_, ?_⟩ <;> first | omega | assumption | trivial | rfl) | (refine ⟨?_, ?_, ?_, ?_, ?_⟩ <;> first | omega | assumption | trivial | rfl) | (refine ⟨?_, ?_, ?_, ?_, ?_, ?_⟩ <;> first | omega | assumption | trivial | rfl) | (refine ⟨?_, ?_, ?_, ?_, ?_, ?_, ?_⟩ <;> first | omega | assumption | trivial | rfl) | (refine ⟨?_, ?_, ?_, ?_, ?_, ?_, ?_, ?_⟩ <;> first | omega | assumption | trivial | rfl))
                · refine ok_o2 (sp_X9_done c_t_acts (1 : Int32) ) (fun r113_36 c_t_acts_113_36 h110 => ?_)
                  exact ok_s (show FA f_t_forms_94_18 from by first | omega | assumption | trivial | (refine ⟨?_, ?_⟩ <;> first | omega | assumption | trivial | rfl) | (refine ⟨?_, ?_, ?_⟩ <;> first | omega | assumption | trivial | rfl) | (refine ⟨?_, ?_, ?_, ?_⟩ <;> first | omega | assumption | trivial | rfl) | (refine ⟨?_, ?_, ?_, ?_, ?_⟩ <;> first | omega | assumption | trivial | rfl) | (refine ⟨?_, ?_, ?_, ?_, ?_, ?_⟩ <;> first | omega | assumption | trivial | rfl) | (refine ⟨?_, ?_, ?_, ?_, ?_, ?_, ?_⟩ <;> first | omega | assumption | trivial | rfl) | (refine ⟨?_, ?_, ?_, ?_, ?_, ?_, ?_, ?_⟩ <;> first | omega | assumption | trivial | rfl))
          · exact ok_s (show FA f_t_forms from by first | omega | assumption | trivial | (refine ⟨?_, ?_⟩ <;> first | omega | assumption | trivial | rfl) | (refine ⟨?_, ?_, ?_⟩ <;> first | omega | assumption | trivial | rfl) | (refine ⟨?_, ?_, ?_, ?_⟩ <;> first | omega | assumption | trivial | rfl) | (refine ⟨?_, ?_, ?_, ?_, ?_⟩ <;> first | omega | assumption | trivial | rfl) | (refine ⟨?_, ?_, ?_, ?_, ?_, ?_⟩ <;> first | omega | assumption | trivial | rfl) | (refine ⟨?_, ?_, ?_, ?_, ?_, ?_, ?_⟩ <;> first | omega | assumption | trivial | rfl) | (refine ⟨?_, ?_, ?_, ?_, ?_, ?_, ?_, ?_⟩ <;> first | omega | assumption | trivial | rfl))
    · first | unfold J_X9_digit_20 | skip
      refine ok_lt (fun c111 => ?_) (fun c111 => ?_)
      · first | unfold J_X9_digit_29 | skip
        first | unfold J_X9_digit_34 | skip
        refine ok_o2 (sp_X9_isThrown (0 : Int32) (1 : Int32) ) (fun r34_7 c_t_thrown_34_7 h112 => ?_)
        have h112 : (r34_7.toInt = 0 ∧ c_t_thrown_34_7.toInt = 0 ∧ (0 : Int32).toInt = 0 ∧ (1 : Int32).toInt = 0) ∨ (r34_7.toInt = 1 ∧ c_t_thrown_34_7.toInt = 1 ∧ (0 : Int32).toInt ≠ 0) ∨ (r34_7.toInt = 1 ∧ c_t_thrown_34_7.toInt = 2 ∧ (0 : Int32).toInt = 0 ∧ (1 : Int32).toInt ≠ 0) := h112
        refine ok_eq (fun c113 => ?_) (fun c113 => ?_)
        · refine ok_c (ixo (by omega) (by omega)) ?_
          try have a114 := FA_at (f := f_t_forms) (by assumption) p0.toNatClampNeg
          refine ok_bx (fun x4_48_7 e_x4_48_7 => ?_)
          try have q_x4_48_7 : DG x4_48_7 = DG (f_t_forms p0.toNatClampNeg) := by rw [e_x4_48_7]
          try have d_x4_48_7 : -1 ≤ DG x4_48_7 ∧ DG x4_48_7 ≤ 39 := by rw [e_x4_48_7]; exact FA_at (by assumption) _
          refine ok_bx (fun x6_53_7 e_x6_53_7 => ?_)
          have d6 : DG x6_53_7 ≤ 39 := by rw [e_x6_53_7]; exact DG_shlx (by omega) (by omega) (by rw [DG_1]; omega) (by decide) (by decide)
          refine ok_eq (fun c115 => ?_) (fun c115 => ?_)
          · first | unfold J_X9_digit_94 | skip
            refine ok_c (ixo (by omega) (by omega)) ?_
            have hj : DG (x4_48_7 &&& (x6_53_7 ^^^ (-1 : Int64))) ≤ 39 := Int.le_trans (DG_and _ _) (by omega)
            refine ok_bx (fun f_t_forms_94_19 e_f_t_forms_94_19 => ?_)
            try have t_f_t_forms_94_19 : FA f_t_forms_94_19 := by rw [e_f_t_forms_94_19]; exact FA_upd (by first | assumption | exact FA_0) _ (by first | omega | assumption | trivial)
            refine ok_c (ixo (by omega) (by omega)) ?_
            try have a117 := FA_at (f := f_t_forms_94_19) (by assumption) p0.toNatClampNeg
            refine ok_eqL (fun c116 => ?_) (fun c116 => ?_)
            · refine ok_o2 (sp_X9_done c_t_acts (0 : Int32) ) (fun r113_37 c_t_acts_113_37 h118 => ?_)
              exact ok_s (show FA f_t_forms_94_19 from by first | omega | assumption | trivial | (refine ⟨?_, ?_⟩ <;> first | omega | assumption | trivial | rfl) | (refine ⟨?_, ?_, ?_⟩ <;> first | omega | assumption | trivial | rfl) | (refine ⟨?_, ?_, ?_, ?_⟩ <;> first | omega | assumption | trivial | rfl) | (refine ⟨?_, ?_, ?_, ?_, ?_⟩ <;> first | omega | assumption | trivial | rfl) | (refine ⟨?_, ?_, ?_, ?_, ?_, ?_⟩ <;> first | omega | assumption | trivial | rfl) | (refine ⟨?_, ?_, ?_, ?_, ?_, ?_, ?_⟩ <;> first | omega | assumption | trivial | rfl) | (refine ⟨?_, ?_, ?_, ?_, ?_, ?_, ?_, ?_⟩ <;> first | omega | assumption | trivial | rfl))
            · refine ok_o2 (sp_X9_done c_t_acts (1 : Int32) ) (fun r113_38 c_t_acts_113_38 h119 => ?_)
              exact ok_s (show FA f_t_forms_94_19 from by first | omega | assumption | trivial | (refine ⟨?_, ?_⟩ <;> first | omega | assumption | trivial | rfl) | (refine ⟨?_, ?_, ?_⟩ <;> first | omega | assumption | trivial | rfl) | (refine ⟨?_, ?_, ?_, ?_⟩ <;> first | omega | assumption | trivial | rfl) | (refine ⟨?_, ?_, ?_, ?_, ?_⟩ <;> first | omega | assumption | trivial | rfl) | (refine ⟨?_, ?_, ?_, ?_, ?_, ?_⟩ <;> first | omega | assumption | trivial | rfl) | (refine ⟨?_, ?_, ?_, ?_, ?_, ?_, ?_⟩ <;> first | omega | assumption | trivial | rfl) | (refine ⟨?_, ?_, ?_, ?_, ?_, ?_, ?_, ?_⟩ <;> first | omega | assumption | trivial | rfl))
          · refine ok_eq (fun c120 => ?_) (fun c120 => ?_)
            · first | unfold J_X9_digit_94 | skip
              refine ok_c (ixo (by omega) (by omega)) ?_
              have hj : DG (x4_48_7 ||| x6_53_7) ≤ 39 := DG_or (by omega) (by omega)
              refine ok_bx (fun f_t_forms_94_20 e_f_t_forms_94_20 => ?_)
              try have t_f_t_forms_94_20 : FA f_t_forms_94_20 := by rw [e_f_t_forms_94_20]; exact FA_upd (by first | assumption | exact FA_0) _ (by first | omega | assumption | trivial)
              refine ok_c (ixo (by omega) (by omega)) ?_
              try have a122 := FA_at (f := f_t_forms_94_20) (by assumption) p0.toNatClampNeg
              refine ok_eqL (fun c121 => ?_) (fun c121 => ?_)
              · refine ok_o2 (sp_X9_done c_t_acts (0 : Int32) ) (fun r113_39 c_t_acts_113_39 h123 => ?_)
                exact ok_s (show FA f_t_forms_94_20 from by first | omega | assumption | trivial | (refine ⟨?_, ?_⟩ <;> first | omega | assumption | trivial | rfl) | (refine ⟨?_, ?_, ?_⟩ <;> first | omega | assumption | trivial | rfl) | (refine ⟨?_, ?_, ?_, ?_⟩ <;> first | omega | assumption | trivial | rfl) | (refine ⟨?_, ?_, ?_, ?_, ?_⟩ <;> first | omega | assumption | trivial | rfl) | (refine ⟨?_, ?_, ?_, ?_, ?_, ?_⟩ <;> first | omega | assumption | trivial | rfl) | (refine ⟨?_, ?_, ?_, ?_, ?_, ?_, ?_⟩ <;> first | omega | assumption | trivial | rfl) | (refine ⟨?_, ?_, ?_, ?_, ?_, ?_, ?_, ?_⟩ <;> first | omega | assumption | trivial | rfl))
              · refine ok_o2 (sp_X9_done c_t_acts (1 : Int32) ) (fun r113_40 c_t_acts_113_40 h124 => ?_)
                exact ok_s (show FA f_t_forms_94_20 from by first | omega | assumption | trivial | (refine ⟨?_, ?_⟩ <;> first | omega | assumption | trivial | rfl) | (refine ⟨?_, ?_, ?_⟩ <;> first | omega | assumption | trivial | rfl) | (refine ⟨?_, ?_, ?_, ?_⟩ <;> first | omega | assumption | trivial | rfl) | (refine ⟨?_, ?_, ?_, ?_, ?_⟩ <;> first | omega | assumption | trivial | rfl) | (refine ⟨?_, ?_, ?_, ?_, ?_, ?_⟩ <;> first | omega | assumption | trivial | rfl) | (refine ⟨?_, ?_, ?_, ?_, ?_, ?_, ?_⟩ <;> first | omega | assumption | trivial | rfl) | (refine ⟨?_, ?_, ?_, ?_, ?_, ?_, ?_, ?_⟩ <;> first | omega | assumption | trivial | rfl))
            · first | unfold J_X9_digit_94 | skip
              refine ok_c (ixo (by omega) (by omega)) ?_
              have hj : DG (x4_48_7 ^^^ x6_53_7) ≤ 39 := DG_xor (by omega) (by omega)
              refine ok_bx (fun f_t_forms_94_21 e_f_t_forms_94_21 => ?_)
              try have t_f_t_forms_94_21 : FA f_t_forms_94_21 := by rw [e_f_t_forms_94_21]; exact FA_upd (by first | assumption | exact FA_0) _ (by first | omega | assumption | trivial)
              refine ok_c (ixo (by omega) (by omega)) ?_
              try have a126 := FA_at (f := f_t_forms_94_21) (by assumption) p0.toNatClampNeg
              refine ok_eqL (fun c125 => ?_) (fun c125 => ?_)
              · refine ok_o2 (sp_X9_done c_t_acts (0 : Int32) ) (fun r113_41 c_t_acts_113_41 h127 => ?_)
                exact ok_s (show FA f_t_forms_94_21 from by first | omega | assumption | trivial | (refine ⟨?_, ?_⟩ <;> first | omega | assumption | trivial | rfl) | (refine ⟨?_, ?_, ?_⟩ <;> first | omega | assumption | trivial | rfl) | (refine ⟨?_, ?_, ?_, ?_⟩ <;> first | omega | assumption | trivial | rfl) | (refine ⟨?_, ?_, ?_, ?_, ?_⟩ <;> first | omega | assumption | trivial | rfl) | (refine ⟨?_, ?_, ?_, ?_, ?_, ?_⟩ <;> first | omega | assumption | trivial | rfl) | (refine ⟨?_, ?_, ?_, ?_, ?_, ?_, ?_⟩ <;> first | omega | assumption | trivial | rfl) | (refine ⟨?_, ?_, ?_, ?_, ?_, ?_, ?_, ?_⟩ <;> first | omega | assumption | trivial | rfl))
              · refine ok_o2 (sp_X9_done c_t_acts (1 : Int32) ) (fun r113_42 c_t_acts_113_42 h128 => ?_)
                exact ok_s (show FA f_t_forms_94_21 from by first | omega | assumption | trivial | (refine ⟨?_, ?_⟩ <;> first | omega | assumption | trivial | rfl) | (refine ⟨?_, ?_, ?_⟩ <;> first | omega | assumption | trivial | rfl) | (refine ⟨?_, ?_, ?_, ?_⟩ <;> first | omega | assumption | trivial | rfl) | (refine ⟨?_, ?_, ?_, ?_, ?_⟩ <;> first | omega | assumption | trivial | rfl) | (refine ⟨?_, ?_, ?_, ?_, ?_, ?_⟩ <;> first | omega | assumption | trivial | rfl) | (refine ⟨?_, ?_, ?_, ?_, ?_, ?_, ?_⟩ <;> first | omega | assumption | trivial | rfl) | (refine ⟨?_, ?_, ?_, ?_, ?_, ?_, ?_, ?_⟩ <;> first | omega | assumption | trivial | rfl))
        · exact ok_s (show FA f_t_forms from by first | omega | assumption | trivial | (refine ⟨?_, ?_⟩ <;> first | omega | assumption | trivial | rfl) | (refine ⟨?_, ?_, ?_⟩ <;> first | omega | assumption | trivial | rfl) | (refine ⟨?_, ?_, ?_, ?_⟩ <;> first | omega | assumption | trivial | rfl) | (refine ⟨?_, ?_, ?_, ?_, ?_⟩ <;> first | omega | assumption | trivial | rfl) | (refine ⟨?_, ?_, ?_, ?_, ?_, ?_⟩ <;> first | omega | assumption | trivial | rfl) | (refine ⟨?_, ?_, ?_, ?_, ?_, ?_, ?_⟩ <;> first | omega | assumption | trivial | rfl) | (refine ⟨?_, ?_, ?_, ?_, ?_, ?_, ?_, ?_⟩ <;> first | omega | assumption | trivial | rfl))
      · refine ok_le (fun c129 => ?_) (fun c129 => ?_)
        · first | unfold J_X9_digit_34 | skip
          refine ok_o2 (sp_X9_isThrown (0 : Int32) (0 : Int32) ) (fun r34_8 c_t_thrown_34_8 h130 => ?_)
          have h130 : (r34_8.toInt = 0 ∧ c_t_thrown_34_8.toInt = 0 ∧ (0 : Int32).toInt = 0 ∧ (0 : Int32).toInt = 0) ∨ (r34_8.toInt = 1 ∧ c_t_thrown_34_8.toInt = 1 ∧ (0 : Int32).toInt ≠ 0) ∨ (r34_8.toInt = 1 ∧ c_t_thrown_34_8.toInt = 2 ∧ (0 : Int32).toInt = 0 ∧ (0 : Int32).toInt ≠ 0) := h130
          refine ok_eq (fun c131 => ?_) (fun c131 => ?_)
          · refine ok_c (ixo (by omega) (by omega)) ?_
            try have a132 := FA_at (f := f_t_forms) (by assumption) p0.toNatClampNeg
            refine ok_bx (fun x4_48_8 e_x4_48_8 => ?_)
            try have q_x4_48_8 : DG x4_48_8 = DG (f_t_forms p0.toNatClampNeg) := by rw [e_x4_48_8]
            try have d_x4_48_8 : -1 ≤ DG x4_48_8 ∧ DG x4_48_8 ≤ 39 := by rw [e_x4_48_8]; exact FA_at (by assumption) _
            refine ok_bx (fun x6_53_8 e_x6_53_8 => ?_)
            have d6 : DG x6_53_8 ≤ 39 := by rw [e_x6_53_8]; exact DG_shlx (by omega) (by omega) (by rw [DG_1]; omega) (by decide) (by decide)
            refine ok_eq (fun c133 => ?_) (fun c133 => ?_)
            · first | unfold J_X9_digit_94 | skip
              refine ok_c (ixo (by omega) (by omega)) ?_
              have hj : DG (x4_48_8 &&& (x6_53_8 ^^^ (-1 : Int64))) ≤ 39 := Int.le_trans (DG_and _ _) (by omega)
              refine ok_bx (fun f_t_forms_94_22 e_f_t_forms_94_22 => ?_)
              try have t_f_t_forms_94_22 : FA f_t_forms_94_22 := by rw [e_f_t_forms_94_22]; exact FA_upd (by first | assumption | exact FA_0) _ (by first | omega | assumption | trivial)
              refine ok_c (ixo (by omega) (by omega)) ?_
              try have a135 := FA_at (f := f_t_forms_94_22) (by assumption) p0.toNatClampNeg
              refine ok_eqL (fun c134 => ?_) (fun c134 => ?_)
              · refine ok_o2 (sp_X9_done c_t_acts (0 : Int32) ) (fun r113_43 c_t_acts_113_43 h136 => ?_)
                exact ok_s (show FA f_t_forms_94_22 from by first | omega | assumption | trivial | (refine ⟨?_, ?_⟩ <;> first | omega | assumption | trivial | rfl) | (refine ⟨?_, ?_, ?_⟩ <;> first | omega | assumption | trivial | rfl) | (refine ⟨?_, ?_, ?_, ?_⟩ <;> first | omega | assumption | trivial | rfl) | (refine ⟨?_, ?_, ?_, ?_, ?_⟩ <;> first | omega | assumption | trivial | rfl) | (refine ⟨?_, ?_, ?_, ?_, ?_, ?_⟩ <;> first | omega | assumption | trivial | rfl) | (refine ⟨?_, ?_, ?_, ?_, ?_, ?_, ?_⟩ <;> first | omega | assumption | trivial | rfl) | (refine ⟨?_, ?_, ?_, ?_, ?_, ?_, ?_, ?_⟩ <;> first | omega | assumption | trivial | rfl))
              · refine ok_o2 (sp_X9_done c_t_acts (1 : Int32) ) (fun r113_44 c_t_acts_113_44 h137 => ?_)
                exact ok_s (show FA f_t_forms_94_22 from by first | omega | assumption | trivial | (refine ⟨?_, ?_⟩ <;> first | omega | assumption | trivial | rfl) | (refine ⟨?_, ?_, ?_⟩ <;> first | omega | assumption | trivial | rfl) | (refine ⟨?_, ?_, ?_, ?_⟩ <;> first | omega | assumption | trivial | rfl) | (refine ⟨?_, ?_, ?_, ?_, ?_⟩ <;> first | omega | assumption | trivial | rfl) | (refine ⟨?_, ?_, ?_, ?_, ?_, ?_⟩ <;> first | omega | assumption | trivial | rfl) | (refine ⟨?_, ?_, ?_, ?_, ?_, ?_, ?_⟩ <;> first | omega | assumption | trivial | rfl) | (refine ⟨?_, ?_, ?_, ?_, ?_, ?_, ?_, ?_⟩ <;> first | omega | assumption | trivial | rfl))
            · refine ok_eq (fun c138 => ?_) (fun c138 => ?_)
              · first | unfold J_X9_digit_94 | skip
                refine ok_c (ixo (by omega) (by omega)) ?_
                have hj : DG (x4_48_8 ||| x6_53_8) ≤ 39 := DG_or (by omega) (by omega)
                refine ok_bx (fun f_t_forms_94_23 e_f_t_forms_94_23 => ?_)
                try have t_f_t_forms_94_23 : FA f_t_forms_94_23 := by rw [e_f_t_forms_94_23]; exact FA_upd (by first | assumption | exact FA_0) _ (by first | omega | assumption | trivial)
                refine ok_c (ixo (by omega) (by omega)) ?_
                try have a140 := FA_at (f := f_t_forms_94_23) (by assumption) p0.toNatClampNeg
                refine ok_eqL (fun c139 => ?_) (fun c139 => ?_)
                · refine ok_o2 (sp_X9_done c_t_acts (0 : Int32) ) (fun r113_45 c_t_acts_113_45 h141 => ?_)
                  exact ok_s (show FA f_t_forms_94_23 from by first | omega | assumption | trivial | (refine ⟨?_, ?_⟩ <;> first | omega | assumption | trivial | rfl) | (refine ⟨?_, ?_, ?_⟩ <;> first | omega | assumption | trivial | rfl) | (refine ⟨?_, ?_, ?_, ?_⟩ <;> first | omega | assumption | trivial | rfl) | (refine ⟨?_, ?_, ?_, ?_, ?_⟩ <;> first | omega | assumption | trivial | rfl) | (refine ⟨?_, ?_, ?_, ?_, ?_, ?_⟩ <;> first | omega | assumption | trivial | rfl) | (refine ⟨?_, ?_, ?_, ?_, ?_, ?_, ?_⟩ <;> first | omega | assumption | trivial | rfl) | (refine ⟨?_, ?_, ?_, ?_, ?_, ?_, ?_, ?_⟩ <;> first | omega | assumption | trivial | rfl))
                · refine ok_o2 (sp_X9_done c_t_acts (1 : Int32) ) (fun r113_46 c_t_acts_113_46 h142 => ?_)
                  exact ok_s (show FA f_t_forms_94_23 from by first | omega | assumption | trivial | (refine ⟨?_, ?_⟩ <;> first | omega | assumption | trivial | rfl) | (refine ⟨?_, ?_, ?_⟩ <;> first | omega | assumption | trivial | rfl) | (refine ⟨?_, ?_, ?_, ?_⟩ <;> first | omega | assumption | trivial | rfl) | (refine ⟨?_, ?_, ?_, ?_, ?_⟩ <;> first | omega | assumption | trivial | rfl) | (refine ⟨?_, ?_, ?_, ?_, ?_, ?_⟩ <;> first | omega | assumption | trivial | rfl) | (refine ⟨?_, ?_, ?_, ?_, ?_, ?_, ?_⟩ <;> first | omega | assumption | trivial | rfl) | (refine ⟨?_, ?_, ?_, ?_, ?_, ?_, ?_, ?_⟩ <;> first | omega | assumption | trivial | rfl))
              · first | unfold J_X9_digit_94 | skip
                refine ok_c (ixo (by omega) (by omega)) ?_
                have hj : DG (x4_48_8 ^^^ x6_53_8) ≤ 39 := DG_xor (by omega) (by omega)
                refine ok_bx (fun f_t_forms_94_24 e_f_t_forms_94_24 => ?_)
                try have t_f_t_forms_94_24 : FA f_t_forms_94_24 := by rw [e_f_t_forms_94_24]; exact FA_upd (by first | assumption | exact FA_0) _ (by first | omega | assumption | trivial)
                refine ok_c (ixo (by omega) (by omega)) ?_
                try have a144 := FA_at (f := f_t_forms_94_24) (by assumption) p0.toNatClampNeg
                refine ok_eqL (fun c143 => ?_) (fun c143 => ?_)
                · refine ok_o2 (sp_X9_done c_t_acts (0 : Int32) ) (fun r113_47 c_t_acts_113_47 h145 => ?_)
                  exact ok_s (show FA f_t_forms_94_24 from by first | omega | assumption | trivial | (refine ⟨?_, ?_⟩ <;> first | omega | assumption | trivial | rfl) | (refine ⟨?_, ?_, ?_⟩ <;> first | omega | assumption | trivial | rfl) | (refine ⟨?_, ?_, ?_, ?_⟩ <;> first | omega | assumption | trivial | rfl) | (refine ⟨?_, ?_, ?_, ?_, ?_⟩ <;> first | omega | assumption | trivial | rfl) | (refine ⟨?_, ?_, ?_, ?_, ?_, ?_⟩ <;> first | omega | assumption | trivial | rfl) | (refine ⟨?_, ?_, ?_, ?_, ?_, ?_, ?_⟩ <;> first | omega | assumption | trivial | rfl) | (refine ⟨?_, ?_, ?_, ?_, ?_, ?_, ?_, ?_⟩ <;> first | omega | assumption | trivial | rfl))
                · refine ok_o2 (sp_X9_done c_t_acts (1 : Int32) ) (fun r113_48 c_t_acts_113_48 h146 => ?_)
                  exact ok_s (show FA f_t_forms_94_24 from by first | omega | assumption | trivial | (refine ⟨?_, ?_⟩ <;> first | omega | assumption | trivial | rfl) | (refine ⟨?_, ?_, ?_⟩ <;> first | omega | assumption | trivial | rfl) | (refine ⟨?_, ?_, ?_, ?_⟩ <;> first | omega | assumption | trivial | rfl) | (refine ⟨?_, ?_, ?_, ?_, ?_⟩ <;> first | omega | assumption | trivial | rfl) | (refine ⟨?_, ?_, ?_, ?_, ?_, ?_⟩ <;> first | omega | assumption | trivial | rfl) | (refine ⟨?_, ?_, ?_, ?_, ?_, ?_, ?_⟩ <;> first | omega | assumption | trivial | rfl) | (refine ⟨?_, ?_, ?_, ?_, ?_, ?_, ?_, ?_⟩ <;> first | omega | assumption | trivial | rfl))
          · exact ok_s (show FA f_t_forms from by first | omega | assumption | trivial | (refine ⟨?_, ?_⟩ <;> first | omega | assumption | trivial | rfl) | (refine ⟨?_, ?_, ?_⟩ <;> first | omega | assumption | trivial | rfl) | (refine ⟨?_, ?_, ?_, ?_⟩ <;> first | omega | assumption | trivial | rfl) | (refine ⟨?_, ?_, ?_, ?_, ?_⟩ <;> first | omega | assumption | trivial | rfl) | (refine ⟨?_, ?_, ?_, ?_, ?_, ?_⟩ <;> first | omega | assumption | trivial | rfl) | (refine ⟨?_, ?_, ?_, ?_, ?_, ?_, ?_⟩ <;> first | omega | assumption | trivial | rfl) | (refine ⟨?_, ?_, ?_, ?_, ?_, ?_, ?_, ?_⟩ <;> first | omega | assumption | trivial | rfl))
        · first | unfold J_X9_digit_29 | skip
          first | unfold J_X9_digit_34 | skip
          refine ok_o2 (sp_X9_isThrown (0 : Int32) (1 : Int32) ) (fun r34_9 c_t_thrown_34_9 h147 => ?_)
          have h147 : (r34_9.toInt = 0 ∧ c_t_thrown_34_9.toInt = 0 ∧ (0 : Int32).toInt = 0 ∧ (1 : Int32).toInt = 0) ∨ (r34_9.toInt = 1 ∧ c_t_thrown_34_9.toInt = 1 ∧ (0 : Int32).toInt ≠ 0) ∨ (r34_9.toInt = 1 ∧ c_t_thrown_34_9.toInt = 2 ∧ (0 : Int32).toInt = 0 ∧ (1 : Int32).toInt ≠ 0) := h147
          refine ok_eq (fun c148 => ?_) (fun c148 => ?_)
          · refine ok_c (ixo (by omega) (by omega)) ?_
            try have a149 := FA_at (f := f_t_forms) (by assumption) p0.toNatClampNeg
            refine ok_bx (fun x4_48_9 e_x4_48_9 => ?_)
            try have q_x4_48_9 : DG x4_48_9 = DG (f_t_forms p0.toNatClampNeg) := by rw [e_x4_48_9]
            try have d_x4_48_9 : -1 ≤ DG x4_48_9 ∧ DG x4_48_9 ≤ 39 := by rw [e_x4_48_9]; exact FA_at (by assumption) _
            refine ok_bx (fun x6_53_9 e_x6_53_9 => ?_)
            have d6 : DG x6_53_9 ≤ 39 := by rw [e_x6_53_9]; exact DG_shlx (by omega) (by omega) (by rw [DG_1]; omega) (by decide) (by decide)
            refine ok_eq (fun c150 => ?_) (fun c150 => ?_)
            · first | unfold J_X9_digit_94 | skip
              refine ok_c (ixo (by omega) (by omega)) ?_
              have hj : DG (x4_48_9 &&& (x6_53_9 ^^^ (-1 : Int64))) ≤ 39 := Int.le_trans (DG_and _ _) (by omega)
              refine ok_bx (fun f_t_forms_94_25 e_f_t_forms_94_25 => ?_)
              try have t_f_t_forms_94_25 : FA f_t_forms_94_25 := by rw [e_f_t_forms_94_25]; exact FA_upd (by first | assumption | exact FA_0) _ (by first | omega | assumption | trivial)
              refine ok_c (ixo (by omega) (by omega)) ?_
              try have a152 := FA_at (f := f_t_forms_94_25) (by assumption) p0.toNatClampNeg
              refine ok_eqL (fun c151 => ?_) (fun c151 => ?_)
              · refine ok_o2 (sp_X9_done c_t_acts (0 : Int32) ) (fun r113_49 c_t_acts_113_49 h153 => ?_)
                exact ok_s (show FA f_t_forms_94_25 from by first | omega | assumption | trivial | (refine ⟨?_, ?_⟩ <;> first | omega | assumption | trivial | rfl) | (refine ⟨?_, ?_, ?_⟩ <;> first | omega | assumption | trivial | rfl) | (refine ⟨?_, ?_, ?_, ?_⟩ <;> first | omega | assumption | trivial | rfl) | (refine ⟨?_, ?_, ?_, ?_, ?_⟩ <;> first | omega | assumption | trivial | rfl) | (refine ⟨?_, ?_, ?_, ?_, ?_, ?_⟩ <;> first | omega | assumption | trivial | rfl) | (refine ⟨?_, ?_, ?_, ?_, ?_, ?_, ?_⟩ <;> first | omega | assumption | trivial | rfl) | (refine ⟨?_, ?_, ?_, ?_, ?_, ?_, ?_, ?_⟩ <;> first | omega | assumption | trivial | rfl))
              · refine ok_o2 (sp_X9_done c_t_acts (1 : Int32) ) (fun r113_50 c_t_acts_113_50 h154 => ?_)
                exact ok_s (show FA f_t_forms_94_25 from by first | omega | assumption | trivial | (refine ⟨?_, ?_⟩ <;> first | omega | assumption | trivial | rfl) | (refine ⟨?_, ?_, ?_⟩ <;> first | omega | assumption | trivial | rfl) | (refine ⟨?_, ?_, ?_, ?_⟩ <;> first | omega | assumption | trivial | rfl) | (refine ⟨?_, ?_, ?_, ?_, ?_⟩ <;> first | omega | assumption | trivial | rfl) | (refine ⟨?_, ?_, ?_, ?_, ?_, ?_⟩ <;> first | omega | assumption | trivial | rfl) | (refine ⟨?_, ?_, ?_, ?_, ?_, ?_, ?_⟩ <;> first | omega | assumption | trivial | rfl) | (refine ⟨?_, ?_, ?_, ?_, ?_, ?_, ?_, ?_⟩ <;> first | omega | assumption | trivial | rfl))
            · refine ok_eq (fun c155 => ?_) (fun c155 => ?_)
              · first | unfold J_X9_digit_94 | skip
                refine ok_c (ixo (by omega) (by omega)) ?_
                have hj : DG (x4_48_9 ||| x6_53_9) ≤ 39 := DG_or (by omega) (by omega)
                refine ok_bx (fun f_t_forms_94_26 e_f_t_forms_94_26 => ?_)
                try have t_f_t_forms_94_26 : FA f_t_forms_94_26 := by rw [e_f_t_forms_94_26]; exact FA_upd (by first | assumption | exact FA_0) _ (by first | omega | assumption | trivial)
                refine ok_c (ixo (by omega) (by omega)) ?_
                try have a157 := FA_at (f := f_t_forms_94_26) (by assumption) p0.toNatClampNeg
                refine ok_eqL (fun c156 => ?_) (fun c156 => ?_)
                · refine ok_o2 (sp_X9_done c_t_acts (0 : Int32) ) (fun r113_51 c_t_acts_113_51 h158 => ?_)
                  exact ok_s (show FA f_t_forms_94_26 from by first | omega | assumption | trivial | (refine ⟨?_, ?_⟩ <;> first | omega | assumption | trivial | rfl) | (refine ⟨?_, ?_, ?_⟩ <;> first | omega | assumption | trivial | rfl) | (refine ⟨?_, ?_, ?_, ?_⟩ <;> first | omega | assumption | trivial | rfl) | (refine ⟨?_, ?_, ?_, ?_, ?_⟩ <;> first | omega | assumption | trivial | rfl) | (refine ⟨?_, ?_, ?_, ?_, ?_, ?_⟩ <;> first | omega | assumption | trivial | rfl) | (refine ⟨?_, ?_, ?_, ?_, ?_, ?_, ?_⟩ <;> first | omega | assumption | trivial | rfl) | (refine ⟨?_, ?_, ?_, ?_, ?_, ?_, ?_, ?_⟩ <;> first | omega | assumption | trivial | rfl))
                · refine ok_o2 (sp_X9_done c_t_acts (1 : Int32) ) (fun r113_52 c_t_acts_113_52 h159 => ?_)
                  exact ok_s (show FA f_t_forms_94_26 from by first | omega | assumption | trivial | (refine ⟨?_, ?_⟩ <;> first | omega | assumption | trivial | rfl) | (refine ⟨?_, ?_, ?_⟩ <;> first | omega | assumption | trivial | rfl) | (refine ⟨?_, ?_, ?_, ?_⟩ <;> first | omega | assumption | trivial | rfl) | (refine ⟨?_, ?_, ?_, ?_, ?_⟩ <;> first | omega | assumption | trivial | rfl) | (refine ⟨?_, ?_, ?_, ?_, ?_, ?_⟩ <;> first | omega | assumption | trivial | rfl) | (refine ⟨?_, ?_, ?_, ?_, ?_, ?_, ?_⟩ <;> first | omega | assumption | trivial | rfl) | (refine ⟨?_, ?_, ?_, ?_, ?_, ?_, ?_, ?_⟩ <;> first | omega | assumption | trivial | rfl))
              · first | unfold J_X9_digit_94 | skip
                refine ok_c (ixo (by omega) (by omega)) ?_
                have hj : DG (x4_48_9 ^^^ x6_53_9) ≤ 39 := DG_xor (by omega) (by omega)
                refine ok_bx (fun f_t_forms_94_27 e_f_t_forms_94_27 => ?_)
                try have t_f_t_forms_94_27 : FA f_t_forms_94_27 := by rw [e_f_t_forms_94_27]; exact FA_upd (by first | assumption | exact FA_0) _ (by first | omega | assumption | trivial)
                refine ok_c (ixo (by omega) (by omega)) ?_
                try have a161 := FA_at (f := f_t_forms_94_27) (by assumption) p0.toNatClampNeg
                refine ok_eqL (fun c160 => ?_) (fun c160 => ?_)
                · refine ok_o2 (sp_X9_done c_t_acts (0 : Int32) ) (fun r113_53 c_t_acts_113_53 h162 => ?_)
                  exact ok_s (show FA f_t_forms_94_27 from by first | omega | assumption | trivial | (refine ⟨?_, ?_⟩ <;> first | omega | assumption | trivial | rfl) | (refine ⟨?_, ?_, ?_⟩ <;> first | omega | assumption | trivial | rfl) | (refine ⟨?_, ?_, ?_, ?_⟩ <;> first | omega | assumption | trivial | rfl) | (refine ⟨?_, ?_, ?_, ?_, ?_⟩ <;> first | omega | assumption | trivial | rfl) | (refine ⟨?_, ?_, ?_, ?_, ?_, ?_⟩ <;> first | omega | assumption | trivial | rfl) | (refine ⟨?_, ?_, ?_, ?_, ?_, ?_, ?_⟩ <;> first | omega | assumption | trivial | rfl) | (refine ⟨?_, ?_, ?_, ?_, ?_, ?_, ?_, ?_⟩ <;> first | omega | assumption | trivial | rfl))
                · refine ok_o2 (sp_X9_done c_t_acts (1 : Int32) ) (fun r113_54 c_t_acts_113_54 h163 => ?_)
                  exact ok_s (show FA f_t_forms_94_27 from by first | omega | assumption | trivial | (refine ⟨?_, ?_⟩ <;> first | omega | assumption | trivial | rfl) | (refine ⟨?_, ?_, ?_⟩ <;> first | omega | assumption | trivial | rfl) | (refine ⟨?_, ?_, ?_, ?_⟩ <;> first | omega | assumption | trivial | rfl) | (refine ⟨?_, ?_, ?_, ?_, ?_⟩ <;> first | omega | assumption | trivial | rfl) | (refine ⟨?_, ?_, ?_, ?_, ?_, ?_⟩ <;> first | omega | assumption | trivial | rfl) | (refine ⟨?_, ?_, ?_, ?_, ?_, ?_, ?_⟩ <;> first | omega | assumption | trivial | rfl) | (refine ⟨?_, ?_, ?_, ?_, ?_, ?_, ?_, ?_⟩ <;> first | omega | assumption | trivial | rfl))
          · exact ok_s (show FA f_t_forms from by first | omega | assumption | trivial | (refine ⟨?_, ?_⟩ <;> first | omega | assumption | trivial | rfl) | (refine ⟨?_, ?_, ?_⟩ <;> first | omega | assumption | trivial | rfl) | (refine ⟨?_, ?_, ?_, ?_⟩ <;> first | omega | assumption | trivial | rfl) | (refine ⟨?_, ?_, ?_, ?_, ?_⟩ <;> first | omega | assumption | trivial | rfl) | (refine ⟨?_, ?_, ?_, ?_, ?_, ?_⟩ <;> first | omega | assumption | trivial | rfl) | (refine ⟨?_, ?_, ?_, ?_, ?_, ?_, ?_⟩ <;> first | omega | assumption | trivial | rfl) | (refine ⟨?_, ?_, ?_, ?_, ?_, ?_, ?_, ?_⟩ <;> first | omega | assumption | trivial | rfl))
set_option maxHeartbeats 1000000 in
theorem sp_X9_run (c_t_acts : Int32) (c_t_thrown : Int32) (f_t_forms : Nat → Int64) (p0 : Int32) (p1 : Int32) (p2 : Int32) (hp0 : FA f_t_forms) : ok (F_X9_run c_t_acts c_t_thrown f_t_forms p0 p1 p2) (fun r => FA r.2.2.2) := by
  have l032 : (0 : Int32).toInt = 0 := by decide
  have l132 : (1 : Int32).toInt = 1 := by decide
  have l164 : (1 : Int64).toInt = 1 := by decide
  have l4032 : (40 : Int32).toInt = 40 := by decide
  unfold F_X9_run
  refine ok_o (sp_X9_isForm p0 ) (fun r2 h1 => ?_)
  have h1 : (r2.toInt = 1 ∧ 0 ≤ p0.toInt ∧ p0.toInt ≤ 5) ∨ (r2.toInt = 0 ∧ (p0.toInt < 0 ∨ 6 ≤ p0.toInt)) := h1
  refine ok_eq (fun c2 => ?_) (fun c2 => ?_)
  · first | unfold J_X9_run_13 | skip
    refine ok_lt (fun c3 => ?_) (fun c3 => ?_)
    · first | unfold J_X9_run_28 | skip
      first | unfold J_X9_run_33 | skip
      refine ok_o2 (sp_X9_isThrown (1 : Int32) (1 : Int32) ) (fun r33 c_t_thrown_33 h4 => ?_)
      have h4 : (r33.toInt = 0 ∧ c_t_thrown_33.toInt = 0 ∧ (1 : Int32).toInt = 0 ∧ (1 : Int32).toInt = 0) ∨ (r33.toInt = 1 ∧ c_t_thrown_33.toInt = 1 ∧ (1 : Int32).toInt ≠ 0) ∨ (r33.toInt = 1 ∧ c_t_thrown_33.toInt = 2 ∧ (1 : Int32).toInt = 0 ∧ (1 : Int32).toInt ≠ 0) := h4
      refine ok_eq (fun c5 => ?_) (fun c5 => ?_)
      · refine ok_L2 (fun y4_44 f_t_forms_44 => 0 ≤ y4_44.toInt ∧ FA f_t_forms_44) (fun y4_44 f_t_forms_44 => (p2.toInt - y4_44.toInt + 1).toNat) (fun ih44 y4_44 f_t_forms_44 hI6 hih6 => ?_) 20000 p1 f_t_forms (show 0 ≤ p1.toInt ∧ FA f_t_forms from by first | omega | assumption | trivial | (refine ⟨?_, ?_⟩ <;> first | omega | assumption | trivial | rfl) | (refine ⟨?_, ?_, ?_⟩ <;> first | omega | assumption | trivial | rfl) | (refine ⟨?_, ?_, ?_, ?_⟩ <;> first | omega | assumption | trivial | rfl) | (refine ⟨?_, ?_, ?_, ?_, ?_⟩ <;> first | omega | assumption | trivial | rfl) | (refine ⟨?_, ?_, ?_, ?_, ?_, ?_⟩ <;> first | omega | assumption | trivial | rfl) | (refine ⟨?_, ?_, ?_, ?_, ?_, ?_, ?_⟩ <;> first | omega | assumption | trivial | rfl) | (refine ⟨?_, ?_, ?_, ?_, ?_, ?_, ?_, ?_⟩ <;> first | omega | assumption | trivial | rfl)) (show (p2.toInt - p1.toInt + 1).toNat < 20000 from by omega)
        have hI6 : 0 ≤ y4_44.toInt ∧ FA f_t_forms_44 := hI6
        obtain ⟨hI6_0, hI6_1⟩ := hI6
        unfold S_X9_run_44
        refine ok_le (fun c7 => ?_) (fun c7 => ?_)
        · refine ok_c (ixo (by omega) (by omega)) ?_
          try have a8 := FA_at (f := f_t_forms_44) (by assumption) p0.toNatClampNeg
          refine ok_o (sp_X9_onesOf (f_t_forms_44 p0.toNatClampNeg) ) (fun r76 h9 => ?_)
          have h9 : 0 ≤ r76.toInt ∧ r76.toInt ≤ 127 := h9
          refine ok_o2 (sp_X9_done c_t_acts r76 ) (fun r79 c_t_acts_79 h10 => ?_)
          exact ok_s (show FA f_t_forms_44 from by first | omega | assumption | trivial | (refine ⟨?_, ?_⟩ <;> first | omega | assumption | trivial | rfl) | (refine ⟨?_, ?_, ?_⟩ <;> first | omega | assumption | trivial | rfl) | (refine ⟨?_, ?_, ?_, ?_⟩ <;> first | omega | assumption | trivial | rfl) | (refine ⟨?_, ?_, ?_, ?_, ?_⟩ <;> first | omega | assumption | trivial | rfl) | (refine ⟨?_, ?_, ?_, ?_, ?_, ?_⟩ <;> first | omega | assumption | trivial | rfl) | (refine ⟨?_, ?_, ?_, ?_, ?_, ?_, ?_⟩ <;> first | omega | assumption | trivial | rfl) | (refine ⟨?_, ?_, ?_, ?_, ?_, ?_, ?_, ?_⟩ <;> first | omega | assumption | trivial | rfl))
        · refine ok_c (ixo (by omega) (by omega)) ?_
          refine ok_c (ixo (by omega) (by omega)) ?_
          try have a11 := FA_at (f := f_t_forms_44) (by assumption) p0.toNatClampNeg
          have hx : DG ((f_t_forms_44 p0.toNatClampNeg) ^^^ ((1 : Int64) <<< (y4_44.toInt64 &&& 63))) ≤ 39 := DG_xor (by omega) (DG_shlx (by omega) (by omega) (by rw [DG_1]; omega) (by decide) (by decide))
          refine ok_bx (fun f_t_forms_62 e_f_t_forms_62 => ?_)
          try have t_f_t_forms_62 : FA f_t_forms_62 := by rw [e_f_t_forms_62]; exact FA_upd (by first | assumption | exact FA_0) _ (by first | omega | assumption | trivial)
          refine ok_bx (fun x4_63 e_x4_63 => ?_)
          try have t_x4_63 : x4_63.toInt = y4_44.toInt + 1 := by rw [e_x4_63]; exact addT1 (show (1 : Int32).toInt = 1 from by decide) (by omega) (by omega)
          exact hih6 x4_63 f_t_forms_62 (show 0 ≤ x4_63.toInt ∧ FA f_t_forms_62 from by first | omega | assumption | trivial | (refine ⟨?_, ?_⟩ <;> first | omega | assumption | trivial | rfl) | (refine ⟨?_, ?_, ?_⟩ <;> first | omega | assumption | trivial | rfl) | (refine ⟨?_, ?_, ?_, ?_⟩ <;> first | omega | assumption | trivial | rfl) | (refine ⟨?_, ?_, ?_, ?_, ?_⟩ <;> first | omega | assumption | trivial | rfl) | (refine ⟨?_, ?_, ?_, ?_, ?_, ?_⟩ <;> first | omega | assumption | trivial | rfl) | (refine ⟨?_, ?_, ?_, ?_, ?_, ?_, ?_⟩ <;> first | omega | assumption | trivial | rfl) | (refine ⟨?_, ?_, ?_, ?_, ?_, ?_, ?_, ?_⟩ <;> first | omega | assumption | trivial | rfl)) (show (p2.toInt - x4_63.toInt + 1).toNat < (p2.toInt - y4_44.toInt + 1).toNat from by omega)
      · exact ok_s (show FA f_t_forms from by first | omega | assumption | trivial | (refine ⟨?_, ?_⟩ <;> first | omega | assumption | trivial | rfl) | (refine ⟨?_, ?_, ?_⟩ <;> first | omega | assumption | trivial | rfl) | (refine ⟨?_, ?_, ?_, ?_⟩ <;> first | omega | assumption | trivial | rfl) | (refine ⟨?_, ?_, ?_, ?_, ?_⟩ <;> first | omega | assumption | trivial | rfl) | (refine ⟨?_, ?_, ?_, ?_, ?_, ?_⟩ <;> first | omega | assumption | trivial | rfl) | (refine ⟨?_, ?_, ?_, ?_, ?_, ?_, ?_⟩ <;> first | omega | assumption | trivial | rfl) | (refine ⟨?_, ?_, ?_, ?_, ?_, ?_, ?_, ?_⟩ <;> first | omega | assumption | trivial | rfl))
    · refine ok_lt (fun c12 => ?_) (fun c12 => ?_)
      · first | unfold J_X9_run_28 | skip
        first | unfold J_X9_run_33 | skip
        refine ok_o2 (sp_X9_isThrown (1 : Int32) (1 : Int32) ) (fun r33_2 c_t_thrown_33_2 h13 => ?_)
        have h13 : (r33_2.toInt = 0 ∧ c_t_thrown_33_2.toInt = 0 ∧ (1 : Int32).toInt = 0 ∧ (1 : Int32).toInt = 0) ∨ (r33_2.toInt = 1 ∧ c_t_thrown_33_2.toInt = 1 ∧ (1 : Int32).toInt ≠ 0) ∨ (r33_2.toInt = 1 ∧ c_t_thrown_33_2.toInt = 2 ∧ (1 : Int32).toInt = 0 ∧ (1 : Int32).toInt ≠ 0) := h13
        refine ok_eq (fun c14 => ?_) (fun c14 => ?_)
        · refine ok_L2 (fun y4_44_2 f_t_forms_44_2 => 0 ≤ y4_44_2.toInt ∧ FA f_t_forms_44_2) (fun y4_44_2 f_t_forms_44_2 => (p2.toInt - y4_44_2.toInt + 1).toNat) (fun ih44_2 y4_44_2 f_t_forms_44_2 hI15 hih15 => ?_) 20000 p1 f_t_forms (show 0 ≤ p1.toInt ∧ FA f_t_forms from by first | omega | assumption | trivial | (refine ⟨?_, ?_⟩ <;> first | omega | assumption | trivial | rfl) | (refine ⟨?_, ?_, ?_⟩ <;> first | omega | assumption | trivial | rfl) | (refine ⟨?_, ?_, ?_, ?_⟩ <;> first | omega | assumption | trivial | rfl) | (refine ⟨?_, ?_, ?_, ?_, ?_⟩ <;> first | omega | assumption | trivial | rfl) | (refine ⟨?_, ?_, ?_, ?_, ?_, ?_⟩ <;> first | omega | assumption | trivial | rfl) | (refine ⟨?_, ?_, ?_, ?_, ?_, ?_, ?_⟩ <;> first | omega | assumption | trivial | rfl) | (refine ⟨?_, ?_, ?_, ?_, ?_, ?_, ?_, ?_⟩ <;> first | omega | assumption | trivial | rfl)) (show (p2.toInt - p1.toInt + 1).toNat < 20000 from by omega)
          have hI15 : 0 ≤ y4_44_2.toInt ∧ FA f_t_forms_44_2 := hI15
          obtain ⟨hI15_0, hI15_1⟩ := hI15
          unfold S_X9_run_44
          refine ok_le (fun c16 => ?_) (fun c16 => ?_)
          · refine ok_c (ixo (by omega) (by omega)) ?_
            try have a17 := FA_at (f := f_t_forms_44_2) (by assumption) p0.toNatClampNeg
            refine ok_o (sp_X9_onesOf (f_t_forms_44_2 p0.toNatClampNeg) ) (fun r76_2 h18 => ?_)
            have h18 : 0 ≤ r76_2.toInt ∧ r76_2.toInt ≤ 127 := h18
            refine ok_o2 (sp_X9_done c_t_acts r76_2 ) (fun r79_2 c_t_acts_79_2 h19 => ?_)
            exact ok_s (show FA f_t_forms_44_2 from by first | omega | assumption | trivial | (refine ⟨?_, ?_⟩ <;> first | omega | assumption | trivial | rfl) | (refine ⟨?_, ?_, ?_⟩ <;> first | omega | assumption | trivial | rfl) | (refine ⟨?_, ?_, ?_, ?_⟩ <;> first | omega | assumption | trivial | rfl) | (refine ⟨?_, ?_, ?_, ?_, ?_⟩ <;> first | omega | assumption | trivial | rfl) | (refine ⟨?_, ?_, ?_, ?_, ?_, ?_⟩ <;> first | omega | assumption | trivial | rfl) | (refine ⟨?_, ?_, ?_, ?_, ?_, ?_, ?_⟩ <;> first | omega | assumption | trivial | rfl) | (refine ⟨?_, ?_, ?_, ?_, ?_, ?_, ?_, ?_⟩ <;> first | omega | assumption | trivial | rfl))
          · refine ok_c (ixo (by omega) (by omega)) ?_
            refine ok_c (ixo (by omega) (by omega)) ?_
            try have a20 := FA_at (f := f_t_forms_44_2) (by assumption) p0.toNatClampNeg
            have hx : DG ((f_t_forms_44_2 p0.toNatClampNeg) ^^^ ((1 : Int64) <<< (y4_44_2.toInt64 &&& 63))) ≤ 39 := DG_xor (by omega) (DG_shlx (by omega) (by omega) (by rw [DG_1]; omega) (by decide) (by decide))
            refine ok_bx (fun f_t_forms_62_2 e_f_t_forms_62_2 => ?_)
            try have t_f_t_forms_62_2 : FA f_t_forms_62_2 := by rw [e_f_t_forms_62_2]; exact FA_upd (by first | assumption | exact FA_0) _ (by first | omega | assumption | trivial)
            refine ok_bx (fun x4_63_2 e_x4_63_2 => ?_)
            try have t_x4_63_2 : x4_63_2.toInt = y4_44_2.toInt + 1 := by rw [e_x4_63_2]; exact addT1 (show (1 : Int32).toInt = 1 from by decide) (by omega) (by omega)
            exact hih15 x4_63_2 f_t_forms_62_2 (show 0 ≤ x4_63_2.toInt ∧ FA f_t_forms_62_2 from by first | omega | assumption | trivial | (refine ⟨?_, ?_⟩ <;> first | omega | assumption | trivial | rfl) | (refine ⟨?_, ?_, ?_⟩ <;> first | omega | assumption | trivial | rfl) | (refine ⟨?_, ?_, ?_, ?_⟩ <;> first | omega | assumption | trivial | rfl) | (refine ⟨?_, ?_, ?_, ?_, ?_⟩ <;> first | omega | assumption | trivial | rfl) | (refine ⟨?_, ?_, ?_, ?_, ?_, ?_⟩ <;> first | omega | assumption | trivial | rfl) | (refine ⟨?_, ?_, ?_, ?_, ?_, ?_, ?_⟩ <;> first | omega | assumption | trivial | rfl) | (refine ⟨?_, ?_, ?_, ?_, ?_, ?_, ?_, ?_⟩ <;> first | omega | assumption | trivial | rfl)) (show (p2.toInt - x4_63_2.toInt + 1).toNat < (p2.toInt - y4_44_2.toInt + 1).toNat from by omega)
        · exact ok_s (show FA f_t_forms from by first | omega | assumption | trivial | (refine ⟨?_, ?_⟩ <;> first | omega | assumption | trivial | rfl) | (refine ⟨?_, ?_, ?_⟩ <;> first | omega | assumption | trivial | rfl) | (refine ⟨?_, ?_, ?_, ?_⟩ <;> first | omega | assumption | trivial | rfl) | (refine ⟨?_, ?_, ?_, ?_, ?_⟩ <;> first | omega | assumption | trivial | rfl) | (refine ⟨?_, ?_, ?_, ?_, ?_, ?_⟩ <;> first | omega | assumption | trivial | rfl) | (refine ⟨?_, ?_, ?_, ?_, ?_, ?_, ?_⟩ <;> first | omega | assumption | trivial | rfl) | (refine ⟨?_, ?_, ?_, ?_, ?_, ?_, ?_, ?_⟩ <;> first | omega | assumption | trivial | rfl))
      · refine ok_le (fun c21 => ?_) (fun c21 => ?_)
        · first | unfold J_X9_run_33 | skip
          refine ok_o2 (sp_X9_isThrown (1 : Int32) (0 : Int32) ) (fun r33_3 c_t_thrown_33_3 h22 => ?_)
          have h22 : (r33_3.toInt = 0 ∧ c_t_thrown_33_3.toInt = 0 ∧ (1 : Int32).toInt = 0 ∧ (0 : Int32).toInt = 0) ∨ (r33_3.toInt = 1 ∧ c_t_thrown_33_3.toInt = 1 ∧ (1 : Int32).toInt ≠ 0) ∨ (r33_3.toInt = 1 ∧ c_t_thrown_33_3.toInt = 2 ∧ (1 : Int32).toInt = 0 ∧ (0 : Int32).toInt ≠ 0) := h22
          refine ok_eq (fun c23 => ?_) (fun c23 => ?_)
          · refine ok_L2 (fun y4_44_3 f_t_forms_44_3 => 0 ≤ y4_44_3.toInt ∧ FA f_t_forms_44_3) (fun y4_44_3 f_t_forms_44_3 => (p2.toInt - y4_44_3.toInt + 1).toNat) (fun ih44_3 y4_44_3 f_t_forms_44_3 hI24 hih24 => ?_) 20000 p1 f_t_forms (show 0 ≤ p1.toInt ∧ FA f_t_forms from by first | omega | assumption | trivial | (refine ⟨?_, ?_⟩ <;> first | omega | assumption | trivial | rfl) | (refine ⟨?_, ?_, ?_⟩ <;> first | omega | assumption | trivial | rfl) | (refine ⟨?_, ?_, ?_, ?_⟩ <;> first | omega | assumption | trivial | rfl) | (refine ⟨?_, ?_, ?_, ?_, ?_⟩ <;> first | omega | assumption | trivial | rfl) | (refine ⟨?_, ?_, ?_, ?_, ?_, ?_⟩ <;> first | omega | assumption | trivial | rfl) | (refine ⟨?_, ?_, ?_, ?_, ?_, ?_, ?_⟩ <;> first | omega | assumption | trivial | rfl) | (refine ⟨?_, ?_, ?_, ?_, ?_, ?_, ?_, ?_⟩ <;> first | omega | assumption | trivial | rfl)) (show (p2.toInt - p1.toInt + 1).toNat < 20000 from by omega)
            have hI24 : 0 ≤ y4_44_3.toInt ∧ FA f_t_forms_44_3 := hI24
            obtain ⟨hI24_0, hI24_1⟩ := hI24
            unfold S_X9_run_44
            refine ok_le (fun c25 => ?_) (fun c25 => ?_)
            · refine ok_c (ixo (by omega) (by omega)) ?_
              try have a26 := FA_at (f := f_t_forms_44_3) (by assumption) p0.toNatClampNeg
              refine ok_o (sp_X9_onesOf (f_t_forms_44_3 p0.toNatClampNeg) ) (fun r76_3 h27 => ?_)
              have h27 : 0 ≤ r76_3.toInt ∧ r76_3.toInt ≤ 127 := h27
              refine ok_o2 (sp_X9_done c_t_acts r76_3 ) (fun r79_3 c_t_acts_79_3 h28 => ?_)
              exact ok_s (show FA f_t_forms_44_3 from by first | omega | assumption | trivial | (refine ⟨?_, ?_⟩ <;> first | omega | assumption | trivial | rfl) | (refine ⟨?_, ?_, ?_⟩ <;> first | omega | assumption | trivial | rfl) | (refine ⟨?_, ?_, ?_, ?_⟩ <;> first | omega | assumption | trivial | rfl) | (refine ⟨?_, ?_, ?_, ?_, ?_⟩ <;> first | omega | assumption | trivial | rfl) | (refine ⟨?_, ?_, ?_, ?_, ?_, ?_⟩ <;> first | omega | assumption | trivial | rfl) | (refine ⟨?_, ?_, ?_, ?_, ?_, ?_, ?_⟩ <;> first | omega | assumption | trivial | rfl) | (refine ⟨?_, ?_, ?_, ?_, ?_, ?_, ?_, ?_⟩ <;> first | omega | assumption | trivial | rfl))
            · refine ok_c (ixo (by omega) (by omega)) ?_
              refine ok_c (ixo (by omega) (by omega)) ?_
              try have a29 := FA_at (f := f_t_forms_44_3) (by assumption) p0.toNatClampNeg
              have hx : DG ((f_t_forms_44_3 p0.toNatClampNeg) ^^^ ((1 : Int64) <<< (y4_44_3.toInt64 &&& 63))) ≤ 39 := DG_xor (by omega) (DG_shlx (by omega) (by omega) (by rw [DG_1]; omega) (by decide) (by decide))
              refine ok_bx (fun f_t_forms_62_3 e_f_t_forms_62_3 => ?_)
              try have t_f_t_forms_62_3 : FA f_t_forms_62_3 := by rw [e_f_t_forms_62_3]; exact FA_upd (by first | assumption | exact FA_0) _ (by first | omega | assumption | trivial)
              refine ok_bx (fun x4_63_3 e_x4_63_3 => ?_)
              try have t_x4_63_3 : x4_63_3.toInt = y4_44_3.toInt + 1 := by rw [e_x4_63_3]; exact addT1 (show (1 : Int32).toInt = 1 from by decide) (by omega) (by omega)
              exact hih24 x4_63_3 f_t_forms_62_3 (show 0 ≤ x4_63_3.toInt ∧ FA f_t_forms_62_3 from by first | omega | assumption | trivial | (refine ⟨?_, ?_⟩ <;> first | omega | assumption | trivial | rfl) | (refine ⟨?_, ?_, ?_⟩ <;> first | omega | assumption | trivial | rfl) | (refine ⟨?_, ?_, ?_, ?_⟩ <;> first | omega | assumption | trivial | rfl) | (refine ⟨?_, ?_, ?_, ?_, ?_⟩ <;> first | omega | assumption | trivial | rfl) | (refine ⟨?_, ?_, ?_, ?_, ?_, ?_⟩ <;> first | omega | assumption | trivial | rfl) | (refine ⟨?_, ?_, ?_, ?_, ?_, ?_, ?_⟩ <;> first | omega | assumption | trivial | rfl) | (refine ⟨?_, ?_, ?_, ?_, ?_, ?_, ?_, ?_⟩ <;> first | omega | assumption | trivial | rfl)) (show (p2.toInt - x4_63_3.toInt + 1).toNat < (p2.toInt - y4_44_3.toInt + 1).toNat from by omega)
          · exact ok_s (show FA f_t_forms from by first | omega | assumption | trivial | (refine ⟨?_, ?_⟩ <;> first | omega | assumption | trivial | rfl) | (refine ⟨?_, ?_, ?_⟩ <;> first | omega | assumption | trivial | rfl) | (refine ⟨?_, ?_, ?_, ?_⟩ <;> first | omega | assumption | trivial | rfl) | (refine ⟨?_, ?_, ?_, ?_, ?_⟩ <;> first | omega | assumption | trivial | rfl) | (refine ⟨?_, ?_, ?_, ?_, ?_, ?_⟩ <;> first | omega | assumption | trivial | rfl) | (refine ⟨?_, ?_, ?_, ?_, ?_, ?_, ?_⟩ <;> first | omega | assumption | trivial | rfl) | (refine ⟨?_, ?_, ?_, ?_, ?_, ?_, ?_, ?_⟩ <;> first | omega | assumption | trivial | rfl))
        · first | unfold J_X9_run_28 | skip
          first | unfold J_X9_run_33 | skip
          refine ok_o2 (sp_X9_isThrown (1 : Int32) (1 : Int32) ) (fun r33_4 c_t_thrown_33_4 h30 => ?_)
          have h30 : (r33_4.toInt = 0 ∧ c_t_thrown_33_4.toInt = 0 ∧ (1 : Int32).toInt = 0 ∧ (1 : Int32).toInt = 0) ∨ (r33_4.toInt = 1 ∧ c_t_thrown_33_4.toInt = 1 ∧ (1 : Int32).toInt ≠ 0) ∨ (r33_4.toInt = 1 ∧ c_t_thrown_33_4.toInt = 2 ∧ (1 : Int32).toInt = 0 ∧ (1 : Int32).toInt ≠ 0) := h30
          refine ok_eq (fun c31 => ?_) (fun c31 => ?_)
          · refine ok_L2 (fun y4_44_4 f_t_forms_44_4 => 0 ≤ y4_44_4.toInt ∧ FA f_t_forms_44_4) (fun y4_44_4 f_t_forms_44_4 => (p2.toInt - y4_44_4.toInt + 1).toNat) (fun ih44_4 y4_44_4 f_t_forms_44_4 hI32 hih32 => ?_) 20000 p1 f_t_forms (show 0 ≤ p1.toInt ∧ FA f_t_forms from by first | omega | assumption | trivial | (refine ⟨?_, ?_⟩ <;> first | omega | assumption | trivial | rfl) | (refine ⟨?_, ?_, ?_⟩ <;> first | omega | assumption | trivial | rfl) | (refine ⟨?_, ?_, ?_, ?_⟩ <;> first | omega | assumption | trivial | rfl) | (refine ⟨?_, ?_, ?_, ?_, ?_⟩ <;> first | omega | assumption | trivial | rfl) | (refine ⟨?_, ?_, ?_, ?_, ?_, ?_⟩ <;> first | omega | assumption | trivial | rfl) | (refine ⟨?_, ?_, ?_, ?_, ?_, ?_, ?_⟩ <;> first | omega | assumption | trivial | rfl) | (refine ⟨?_, ?_, ?_, ?_, ?_, ?_, ?_, ?_⟩ <;> first | omega | assumption | trivial | rfl)) (show (p2.toInt - p1.toInt + 1).toNat < 20000 from by omega)
            have hI32 : 0 ≤ y4_44_4.toInt ∧ FA f_t_forms_44_4 := hI32
            obtain ⟨hI32_0, hI32_1⟩ := hI32
            unfold S_X9_run_44
            refine ok_le (fun c33 => ?_) (fun c33 => ?_)
            · refine ok_c (ixo (by omega) (by omega)) ?_
              try have a34 := FA_at (f := f_t_forms_44_4) (by assumption) p0.toNatClampNeg
              refine ok_o (sp_X9_onesOf (f_t_forms_44_4 p0.toNatClampNeg) ) (fun r76_4 h35 => ?_)
              have h35 : 0 ≤ r76_4.toInt ∧ r76_4.toInt ≤ 127 := h35
              refine ok_o2 (sp_X9_done c_t_acts r76_4 ) (fun r79_4 c_t_acts_79_4 h36 => ?_)
              exact ok_s (show FA f_t_forms_44_4 from by first | omega | assumption | trivial | (refine ⟨?_, ?_⟩ <;> first | omega | assumption | trivial | rfl) | (refine ⟨?_, ?_, ?_⟩ <;> first | omega | assumption | trivial | rfl) | (refine ⟨?_, ?_, ?_, ?_⟩ <;> first | omega | assumption | trivial | rfl) | (refine ⟨?_, ?_, ?_, ?_, ?_⟩ <;> first | omega | assumption | trivial | rfl) | (refine ⟨?_, ?_, ?_, ?_, ?_, ?_⟩ <;> first | omega | assumption | trivial | rfl) | (refine ⟨?_, ?_, ?_, ?_, ?_, ?_, ?_⟩ <;> first | omega | assumption | trivial | rfl) | (refine ⟨?_, ?_, ?_, ?_, ?_, ?_, ?_, ?_⟩ <;> first | omega | assumption | trivial | rfl))
            · refine ok_c (ixo (by omega) (by omega)) ?_
              refine ok_c (ixo (by omega) (by omega)) ?_
              try have a37 := FA_at (f := f_t_forms_44_4) (by assumption) p0.toNatClampNeg
              have hx : DG ((f_t_forms_44_4 p0.toNatClampNeg) ^^^ ((1 : Int64) <<< (y4_44_4.toInt64 &&& 63))) ≤ 39 := DG_xor (by omega) (DG_shlx (by omega) (by omega) (by rw [DG_1]; omega) (by decide) (by decide))
              refine ok_bx (fun f_t_forms_62_4 e_f_t_forms_62_4 => ?_)
              try have t_f_t_forms_62_4 : FA f_t_forms_62_4 := by rw [e_f_t_forms_62_4]; exact FA_upd (by first | assumption | exact FA_0) _ (by first | omega | assumption | trivial)
              refine ok_bx (fun x4_63_4 e_x4_63_4 => ?_)
              try have t_x4_63_4 : x4_63_4.toInt = y4_44_4.toInt + 1 := by rw [e_x4_63_4]; exact addT1 (show (1 : Int32).toInt = 1 from by decide) (by omega) (by omega)
              exact hih32 x4_63_4 f_t_forms_62_4 (show 0 ≤ x4_63_4.toInt ∧ FA f_t_forms_62_4 from by first | omega | assumption | trivial | (refine ⟨?_, ?_⟩ <;> first | omega | assumption | trivial | rfl) | (refine ⟨?_, ?_, ?_⟩ <;> first | omega | assumption | trivial | rfl) | (refine ⟨?_, ?_, ?_, ?_⟩ <;> first | omega | assumption | trivial | rfl) | (refine ⟨?_, ?_, ?_, ?_, ?_⟩ <;> first | omega | assumption | trivial | rfl) | (refine ⟨?_, ?_, ?_, ?_, ?_, ?_⟩ <;> first | omega | assumption | trivial | rfl) | (refine ⟨?_, ?_, ?_, ?_, ?_, ?_, ?_⟩ <;> first | omega | assumption | trivial | rfl) | (refine ⟨?_, ?_, ?_, ?_, ?_, ?_, ?_, ?_⟩ <;> first | omega | assumption | trivial | rfl)) (show (p2.toInt - x4_63_4.toInt + 1).toNat < (p2.toInt - y4_44_4.toInt + 1).toNat from by omega)
          · exact ok_s (show FA f_t_forms from by first | omega | assumption | trivial | (refine ⟨?_, ?_⟩ <;> first | omega | assumption | trivial | rfl) | (refine ⟨?_, ?_, ?_⟩ <;> first | omega | assumption | trivial | rfl) | (refine ⟨?_, ?_, ?_, ?_⟩ <;> first | omega | assumption | trivial | rfl) | (refine ⟨?_, ?_, ?_, ?_, ?_⟩ <;> first | omega | assumption | trivial | rfl) | (refine ⟨?_, ?_, ?_, ?_, ?_, ?_⟩ <;> first | omega | assumption | trivial | rfl) | (refine ⟨?_, ?_, ?_, ?_, ?_, ?_, ?_⟩ <;> first | omega | assumption | trivial | rfl) | (refine ⟨?_, ?_, ?_, ?_, ?_, ?_, ?_, ?_⟩ <;> first | omega | assumption | trivial | rfl))
  · first | unfold J_X9_run_13 | skip
    refine ok_lt (fun c38 => ?_) (fun c38 => ?_)
    · first | unfold J_X9_run_28 | skip
      first | unfold J_X9_run_33 | skip
      refine ok_o2 (sp_X9_isThrown (0 : Int32) (1 : Int32) ) (fun r33_5 c_t_thrown_33_5 h39 => ?_)
      have h39 : (r33_5.toInt = 0 ∧ c_t_thrown_33_5.toInt = 0 ∧ (0 : Int32).toInt = 0 ∧ (1 : Int32).toInt = 0) ∨ (r33_5.toInt = 1 ∧ c_t_thrown_33_5.toInt = 1 ∧ (0 : Int32).toInt ≠ 0) ∨ (r33_5.toInt = 1 ∧ c_t_thrown_33_5.toInt = 2 ∧ (0 : Int32).toInt = 0 ∧ (1 : Int32).toInt ≠ 0) := h39
      refine ok_eq (fun c40 => ?_) (fun c40 => ?_)
      · refine ok_L2 (fun y4_44_5 f_t_forms_44_5 => 0 ≤ y4_44_5.toInt ∧ FA f_t_forms_44_5) (fun y4_44_5 f_t_forms_44_5 => (p2.toInt - y4_44_5.toInt + 1).toNat) (fun ih44_5 y4_44_5 f_t_forms_44_5 hI41 hih41 => ?_) 20000 p1 f_t_forms (show 0 ≤ p1.toInt ∧ FA f_t_forms from by first | omega | assumption | trivial | (refine ⟨?_, ?_⟩ <;> first | omega | assumption | trivial | rfl) | (refine ⟨?_, ?_, ?_⟩ <;> first | omega | assumption | trivial | rfl) | (refine ⟨?_, ?_, ?_, ?_⟩ <;> first | omega | assumption | trivial | rfl) | (refine ⟨?_, ?_, ?_, ?_, ?_⟩ <;> first | omega | assumption | trivial | rfl) | (refine ⟨?_, ?_, ?_, ?_, ?_, ?_⟩ <;> first | omega | assumption | trivial | rfl) | (refine ⟨?_, ?_, ?_, ?_, ?_, ?_, ?_⟩ <;> first | omega | assumption | trivial | rfl) | (refine ⟨?_, ?_, ?_, ?_, ?_, ?_, ?_, ?_⟩ <;> first | omega | assumption | trivial | rfl)) (show (p2.toInt - p1.toInt + 1).toNat < 20000 from by omega)
        have hI41 : 0 ≤ y4_44_5.toInt ∧ FA f_t_forms_44_5 := hI41
        obtain ⟨hI41_0, hI41_1⟩ := hI41
        unfold S_X9_run_44
        refine ok_le (fun c42 => ?_) (fun c42 => ?_)
        · refine ok_c (ixo (by omega) (by omega)) ?_
          try have a43 := FA_at (f := f_t_forms_44_5) (by assumption) p0.toNatClampNeg
          refine ok_o (sp_X9_onesOf (f_t_forms_44_5 p0.toNatClampNeg) ) (fun r76_5 h44 => ?_)
          have h44 : 0 ≤ r76_5.toInt ∧ r76_5.toInt ≤ 127 := h44
          refine ok_o2 (sp_X9_done c_t_acts r76_5 ) (fun r79_5 c_t_acts_79_5 h45 => ?_)
          exact ok_s (show FA f_t_forms_44_5 from by first | omega | assumption | trivial | (refine ⟨?_, ?_⟩ <;> first | omega | assumption | trivial | rfl) | (refine ⟨?_, ?_, ?_⟩ <;> first | omega | assumption | trivial | rfl) | (refine ⟨?_, ?_, ?_, ?_⟩ <;> first | omega | assumption | trivial | rfl) | (refine ⟨?_, ?_, ?_, ?_, ?_⟩ <;> first | omega | assumption | trivial | rfl) | (refine ⟨?_, ?_, ?_, ?_, ?_, ?_⟩ <;> first | omega | assumption | trivial | rfl) | (refine ⟨?_, ?_, ?_, ?_, ?_, ?_, ?_⟩ <;> first | omega | assumption | trivial | rfl) | (refine ⟨?_, ?_, ?_, ?_, ?_, ?_, ?_, ?_⟩ <;> first | omega | assumption | trivial | rfl))
        · refine ok_c (ixo (by omega) (by omega)) ?_
          refine ok_c (ixo (by omega) (by omega)) ?_
          try have a46 := FA_at (f := f_t_forms_44_5) (by assumption) p0.toNatClampNeg
          have hx : DG ((f_t_forms_44_5 p0.toNatClampNeg) ^^^ ((1 : Int64) <<< (y4_44_5.toInt64 &&& 63))) ≤ 39 := DG_xor (by omega) (DG_shlx (by omega) (by omega) (by rw [DG_1]; omega) (by decide) (by decide))
          refine ok_bx (fun f_t_forms_62_5 e_f_t_forms_62_5 => ?_)
          try have t_f_t_forms_62_5 : FA f_t_forms_62_5 := by rw [e_f_t_forms_62_5]; exact FA_upd (by first | assumption | exact FA_0) _ (by first | omega | assumption | trivial)
          refine ok_bx (fun x4_63_5 e_x4_63_5 => ?_)
          try have t_x4_63_5 : x4_63_5.toInt = y4_44_5.toInt + 1 := by rw [e_x4_63_5]; exact addT1 (show (1 : Int32).toInt = 1 from by decide) (by omega) (by omega)
          exact hih41 x4_63_5 f_t_forms_62_5 (show 0 ≤ x4_63_5.toInt ∧ FA f_t_forms_62_5 from by first | omega | assumption | trivial | (refine ⟨?_, ?_⟩ <;> first | omega | assumption | trivial | rfl) | (refine ⟨?_, ?_, ?_⟩ <;> first | omega | assumption | trivial | rfl) | (refine ⟨?_, ?_, ?_, ?_⟩ <;> first | omega | assumption | trivial | rfl) | (refine ⟨?_, ?_, ?_, ?_, ?_⟩ <;> first | omega | assumption | trivial | rfl) | (refine ⟨?_, ?_, ?_, ?_, ?_, ?_⟩ <;> first | omega | assumption | trivial | rfl) | (refine ⟨?_, ?_, ?_, ?_, ?_, ?_, ?_⟩ <;> first | omega | assumption | trivial | rfl) | (refine ⟨?_, ?_, ?_, ?_, ?_, ?_, ?_, ?_⟩ <;> first | omega | assumption | trivial | rfl)) (show (p2.toInt - x4_63_5.toInt + 1).toNat < (p2.toInt - y4_44_5.toInt + 1).toNat from by omega)
      · exact ok_s (show FA f_t_forms from by first | omega | assumption | trivial | (refine ⟨?_, ?_⟩ <;> first | omega | assumption | trivial | rfl) | (refine ⟨?_, ?_, ?_⟩ <;> first | omega | assumption | trivial | rfl) | (refine ⟨?_, ?_, ?_, ?_⟩ <;> first | omega | assumption | trivial | rfl) | (refine ⟨?_, ?_, ?_, ?_, ?_⟩ <;> first | omega | assumption | trivial | rfl) | (refine ⟨?_, ?_, ?_, ?_, ?_, ?_⟩ <;> first | omega | assumption | trivial | rfl) | (refine ⟨?_, ?_, ?_, ?_, ?_, ?_, ?_⟩ <;> first | omega | assumption | trivial | rfl) | (refine ⟨?_, ?_, ?_, ?_, ?_, ?_, ?_, ?_⟩ <;> first | omega | assumption | trivial | rfl))
    · refine ok_lt (fun c47 => ?_) (fun c47 => ?_)
      · first | unfold J_X9_run_28 | skip
        first | unfold J_X9_run_33 | skip
        refine ok_o2 (sp_X9_isThrown (0 : Int32) (1 : Int32) ) (fun r33_6 c_t_thrown_33_6 h48 => ?_)
        have h48 : (r33_6.toInt = 0 ∧ c_t_thrown_33_6.toInt = 0 ∧ (0 : Int32).toInt = 0 ∧ (1 : Int32).toInt = 0) ∨ (r33_6.toInt = 1 ∧ c_t_thrown_33_6.toInt = 1 ∧ (0 : Int32).toInt ≠ 0) ∨ (r33_6.toInt = 1 ∧ c_t_thrown_33_6.toInt = 2 ∧ (0 : Int32).toInt = 0 ∧ (1 : Int32).toInt ≠ 0) := h48
        refine ok_eq (fun c49 => ?_) (fun c49 => ?_)
        · refine ok_L2 (fun y4_44_6 f_t_forms_44_6 => 0 ≤ y4_44_6.toInt ∧ FA f_t_forms_44_6) (fun y4_44_6 f_t_forms_44_6 => (p2.toInt - y4_44_6.toInt + 1).toNat) (fun ih44_6 y4_44_6 f_t_forms_44_6 hI50 hih50 => ?_) 20000 p1 f_t_forms (show 0 ≤ p1.toInt ∧ FA f_t_forms from by first | omega | assumption | trivial | (refine ⟨?_, ?_⟩ <;> first | omega | assumption | trivial | rfl) | (refine ⟨?_, ?_, ?_⟩ <;> first | omega | assumption | trivial | rfl) | (refine ⟨?_, ?_, ?_, ?_⟩ <;> first | omega | assumption | trivial | rfl) | (refine ⟨?_, ?_, ?_, ?_, ?_⟩ <;> first | omega | assumption | trivial | rfl) | (refine ⟨?_, ?_, ?_, ?_, ?_, ?_⟩ <;> first | omega | assumption | trivial | rfl) | (refine ⟨?_, ?_, ?_, ?_, ?_, ?_, ?_⟩ <;> first | omega | assumption | trivial | rfl) | (refine ⟨?_, ?_, ?_, ?_, ?_, ?_, ?_, ?_⟩ <;> first | omega | assumption | trivial | rfl)) (show (p2.toInt - p1.toInt + 1).toNat < 20000 from by omega)
          have hI50 : 0 ≤ y4_44_6.toInt ∧ FA f_t_forms_44_6 := hI50
          obtain ⟨hI50_0, hI50_1⟩ := hI50
          unfold S_X9_run_44
          refine ok_le (fun c51 => ?_) (fun c51 => ?_)
          · refine ok_c (ixo (by omega) (by omega)) ?_
            try have a52 := FA_at (f := f_t_forms_44_6) (by assumption) p0.toNatClampNeg
            refine ok_o (sp_X9_onesOf (f_t_forms_44_6 p0.toNatClampNeg) ) (fun r76_6 h53 => ?_)
            have h53 : 0 ≤ r76_6.toInt ∧ r76_6.toInt ≤ 127 := h53
            refine ok_o2 (sp_X9_done c_t_acts r76_6 ) (fun r79_6 c_t_acts_79_6 h54 => ?_)
            exact ok_s (show FA f_t_forms_44_6 from by first | omega | assumption | trivial | (refine ⟨?_, ?_⟩ <;> first | omega | assumption | trivial | rfl) | (refine ⟨?_, ?_, ?_⟩ <;> first | omega | assumption | trivial | rfl) | (refine ⟨?_, ?_, ?_, ?_⟩ <;> first | omega | assumption | trivial | rfl) | (refine ⟨?_, ?_, ?_, ?_, ?_⟩ <;> first | omega | assumption | trivial | rfl) | (refine ⟨?_, ?_, ?_, ?_, ?_, ?_⟩ <;> first | omega | assumption | trivial | rfl) | (refine ⟨?_, ?_, ?_, ?_, ?_, ?_, ?_⟩ <;> first | omega | assumption | trivial | rfl) | (refine ⟨?_, ?_, ?_, ?_, ?_, ?_, ?_, ?_⟩ <;> first | omega | assumption | trivial | rfl))
          · refine ok_c (ixo (by omega) (by omega)) ?_
            refine ok_c (ixo (by omega) (by omega)) ?_
            try have a55 := FA_at (f := f_t_forms_44_6) (by assumption) p0.toNatClampNeg
            have hx : DG ((f_t_forms_44_6 p0.toNatClampNeg) ^^^ ((1 : Int64) <<< (y4_44_6.toInt64 &&& 63))) ≤ 39 := DG_xor (by omega) (DG_shlx (by omega) (by omega) (by rw [DG_1]; omega) (by decide) (by decide))
            refine ok_bx (fun f_t_forms_62_6 e_f_t_forms_62_6 => ?_)
            try have t_f_t_forms_62_6 : FA f_t_forms_62_6 := by rw [e_f_t_forms_62_6]; exact FA_upd (by first | assumption | exact FA_0) _ (by first | omega | assumption | trivial)
            refine ok_bx (fun x4_63_6 e_x4_63_6 => ?_)
            try have t_x4_63_6 : x4_63_6.toInt = y4_44_6.toInt + 1 := by rw [e_x4_63_6]; exact addT1 (show (1 : Int32).toInt = 1 from by decide) (by omega) (by omega)
            exact hih50 x4_63_6 f_t_forms_62_6 (show 0 ≤ x4_63_6.toInt ∧ FA f_t_forms_62_6 from by first | omega | assumption | trivial | (refine ⟨?_, ?_⟩ <;> first | omega | assumption | trivial | rfl) | (refine ⟨?_, ?_, ?_⟩ <;> first | omega | assumption | trivial | rfl) | (refine ⟨?_, ?_, ?_, ?_⟩ <;> first | omega | assumption | trivial | rfl) | (refine ⟨?_, ?_, ?_, ?_, ?_⟩ <;> first | omega | assumption | trivial | rfl) | (refine ⟨?_, ?_, ?_, ?_, ?_, ?_⟩ <;> first | omega | assumption | trivial | rfl) | (refine ⟨?_, ?_, ?_, ?_, ?_, ?_, ?_⟩ <;> first | omega | assumption | trivial | rfl) | (refine ⟨?_, ?_, ?_, ?_, ?_, ?_, ?_, ?_⟩ <;> first | omega | assumption | trivial | rfl)) (show (p2.toInt - x4_63_6.toInt + 1).toNat < (p2.toInt - y4_44_6.toInt + 1).toNat from by omega)
        · exact ok_s (show FA f_t_forms from by first | omega | assumption | trivial | (refine ⟨?_, ?_⟩ <;> first | omega | assumption | trivial | rfl) | (refine ⟨?_, ?_, ?_⟩ <;> first | omega | assumption | trivial | rfl) | (refine ⟨?_, ?_, ?_, ?_⟩ <;> first | omega | assumption | trivial | rfl) | (refine ⟨?_, ?_, ?_, ?_, ?_⟩ <;> first | omega | assumption | trivial | rfl) | (refine ⟨?_, ?_, ?_, ?_, ?_, ?_⟩ <;> first | omega | assumption | trivial | rfl) | (refine ⟨?_, ?_, ?_, ?_, ?_, ?_, ?_⟩ <;> first | omega | assumption | trivial | rfl) | (refine ⟨?_, ?_, ?_, ?_, ?_, ?_, ?_, ?_⟩ <;> first | omega | assumption | trivial | rfl))
      · refine ok_le (fun c56 => ?_) (fun c56 => ?_)
        · first | unfold J_X9_run_33 | skip
          refine ok_o2 (sp_X9_isThrown (0 : Int32) (0 : Int32) ) (fun r33_7 c_t_thrown_33_7 h57 => ?_)
          have h57 : (r33_7.toInt = 0 ∧ c_t_thrown_33_7.toInt = 0 ∧ (0 : Int32).toInt = 0 ∧ (0 : Int32).toInt = 0) ∨ (r33_7.toInt = 1 ∧ c_t_thrown_33_7.toInt = 1 ∧ (0 : Int32).toInt ≠ 0) ∨ (r33_7.toInt = 1 ∧ c_t_thrown_33_7.toInt = 2 ∧ (0 : Int32).toInt = 0 ∧ (0 : Int32).toInt ≠ 0) := h57
          refine ok_eq (fun c58 => ?_) (fun c58 => ?_)
          · refine ok_L2 (fun y4_44_7 f_t_forms_44_7 => 0 ≤ y4_44_7.toInt ∧ FA f_t_forms_44_7) (fun y4_44_7 f_t_forms_44_7 => (p2.toInt - y4_44_7.toInt + 1).toNat) (fun ih44_7 y4_44_7 f_t_forms_44_7 hI59 hih59 => ?_) 20000 p1 f_t_forms (show 0 ≤ p1.toInt ∧ FA f_t_forms from by first | omega | assumption | trivial | (refine ⟨?_, ?_⟩ <;> first | omega | assumption | trivial | rfl) | (refine ⟨?_, ?_, ?_⟩ <;> first | omega | assumption | trivial | rfl) | (refine ⟨?_, ?_, ?_, ?_⟩ <;> first | omega | assumption | trivial | rfl) | (refine ⟨?_, ?_, ?_, ?_, ?_⟩ <;> first | omega | assumption | trivial | rfl) | (refine ⟨?_, ?_, ?_, ?_, ?_, ?_⟩ <;> first | omega | assumption | trivial | rfl) | (refine ⟨?_, ?_, ?_, ?_, ?_, ?_, ?_⟩ <;> first | omega | assumption | trivial | rfl) | (refine ⟨?_, ?_, ?_, ?_, ?_, ?_, ?_, ?_⟩ <;> first | omega | assumption | trivial | rfl)) (show (p2.toInt - p1.toInt + 1).toNat < 20000 from by omega)
            have hI59 : 0 ≤ y4_44_7.toInt ∧ FA f_t_forms_44_7 := hI59
            obtain ⟨hI59_0, hI59_1⟩ := hI59
            unfold S_X9_run_44
            refine ok_le (fun c60 => ?_) (fun c60 => ?_)
            · refine ok_c (ixo (by omega) (by omega)) ?_
              try have a61 := FA_at (f := f_t_forms_44_7) (by assumption) p0.toNatClampNeg
              refine ok_o (sp_X9_onesOf (f_t_forms_44_7 p0.toNatClampNeg) ) (fun r76_7 h62 => ?_)
              have h62 : 0 ≤ r76_7.toInt ∧ r76_7.toInt ≤ 127 := h62
              refine ok_o2 (sp_X9_done c_t_acts r76_7 ) (fun r79_7 c_t_acts_79_7 h63 => ?_)
              exact ok_s (show FA f_t_forms_44_7 from by first | omega | assumption | trivial | (refine ⟨?_, ?_⟩ <;> first | omega | assumption | trivial | rfl) | (refine ⟨?_, ?_, ?_⟩ <;> first | omega | assumption | trivial | rfl) | (refine ⟨?_, ?_, ?_, ?_⟩ <;> first | omega | assumption | trivial | rfl) | (refine ⟨?_, ?_, ?_, ?_, ?_⟩ <;> first | omega | assumption | trivial | rfl) | (refine ⟨?_, ?_, ?_, ?_, ?_, ?_⟩ <;> first | omega | assumption | trivial | rfl) | (refine ⟨?_, ?_, ?_, ?_, ?_, ?_, ?_⟩ <;> first | omega | assumption | trivial | rfl) | (refine ⟨?_, ?_, ?_, ?_, ?_, ?_, ?_, ?_⟩ <;> first | omega | assumption | trivial | rfl))
            · refine ok_c (ixo (by omega) (by omega)) ?_
              refine ok_c (ixo (by omega) (by omega)) ?_
              try have a64 := FA_at (f := f_t_forms_44_7) (by assumption) p0.toNatClampNeg
              have hx : DG ((f_t_forms_44_7 p0.toNatClampNeg) ^^^ ((1 : Int64) <<< (y4_44_7.toInt64 &&& 63))) ≤ 39 := DG_xor (by omega) (DG_shlx (by omega) (by omega) (by rw [DG_1]; omega) (by decide) (by decide))
              refine ok_bx (fun f_t_forms_62_7 e_f_t_forms_62_7 => ?_)
              try have t_f_t_forms_62_7 : FA f_t_forms_62_7 := by rw [e_f_t_forms_62_7]; exact FA_upd (by first | assumption | exact FA_0) _ (by first | omega | assumption | trivial)
              refine ok_bx (fun x4_63_7 e_x4_63_7 => ?_)
              try have t_x4_63_7 : x4_63_7.toInt = y4_44_7.toInt + 1 := by rw [e_x4_63_7]; exact addT1 (show (1 : Int32).toInt = 1 from by decide) (by omega) (by omega)
              exact hih59 x4_63_7 f_t_forms_62_7 (show 0 ≤ x4_63_7.toInt ∧ FA f_t_forms_62_7 from by first | omega | assumption | trivial | (refine ⟨?_, ?_⟩ <;> first | omega | assumption | trivial | rfl) | (refine ⟨?_, ?_, ?_⟩ <;> first | omega | assumption | trivial | rfl) | (refine ⟨?_, ?_, ?_, ?_⟩ <;> first | omega | assumption | trivial | rfl) | (refine ⟨?_, ?_, ?_, ?_, ?_⟩ <;> first | omega | assumption | trivial | rfl) | (refine ⟨?_, ?_, ?_, ?_, ?_, ?_⟩ <;> first | omega | assumption | trivial | rfl) | (refine ⟨?_, ?_, ?_, ?_, ?_, ?_, ?_⟩ <;> first | omega | assumption | trivial | rfl) | (refine ⟨?_, ?_, ?_, ?_, ?_, ?_, ?_, ?_⟩ <;> first | omega | assumption | trivial | rfl)) (show (p2.toInt - x4_63_7.toInt + 1).toNat < (p2.toInt - y4_44_7.toInt + 1).toNat from by omega)
          · exact ok_s (show FA f_t_forms from by first | omega | assumption | trivial | (refine ⟨?_, ?_⟩ <;> first | omega | assumption | trivial | rfl) | (refine ⟨?_, ?_, ?_⟩ <;> first | omega | assumption | trivial | rfl) | (refine ⟨?_, ?_, ?_, ?_⟩ <;> first | omega | assumption | trivial | rfl) | (refine ⟨?_, ?_, ?_, ?_, ?_⟩ <;> first | omega | assumption | trivial | rfl) | (refine ⟨?_, ?_, ?_, ?_, ?_, ?_⟩ <;> first | omega | assumption | trivial | rfl) | (refine ⟨?_, ?_, ?_, ?_, ?_, ?_, ?_⟩ <;> first | omega | assumption | trivial | rfl) | (refine ⟨?_, ?_, ?_, ?_, ?_, ?_, ?_, ?_⟩ <;> first | omega | assumption | trivial | rfl))
        · first | unfold J_X9_run_28 | skip
          first | unfold J_X9_run_33 | skip
          refine ok_o2 (sp_X9_isThrown (0 : Int32) (1 : Int32) ) (fun r33_8 c_t_thrown_33_8 h65 => ?_)
          have h65 : (r33_8.toInt = 0 ∧ c_t_thrown_33_8.toInt = 0 ∧ (0 : Int32).toInt = 0 ∧ (1 : Int32).toInt = 0) ∨ (r33_8.toInt = 1 ∧ c_t_thrown_33_8.toInt = 1 ∧ (0 : Int32).toInt ≠ 0) ∨ (r33_8.toInt = 1 ∧ c_t_thrown_33_8.toInt = 2 ∧ (0 : Int32).toInt = 0 ∧ (1 : Int32).toInt ≠ 0) := h65
          refine ok_eq (fun c66 => ?_) (fun c66 => ?_)
          · refine ok_L2 (fun y4_44_8 f_t_forms_44_8 => 0 ≤ y4_44_8.toInt ∧ FA f_t_forms_44_8) (fun y4_44_8 f_t_forms_44_8 => (p2.toInt - y4_44_8.toInt + 1).toNat) (fun ih44_8 y4_44_8 f_t_forms_44_8 hI67 hih67 => ?_) 20000 p1 f_t_forms (show 0 ≤ p1.toInt ∧ FA f_t_forms from by first | omega | assumption | trivial | (refine ⟨?_, ?_⟩ <;> first | omega | assumption | trivial | rfl) | (refine ⟨?_, ?_, ?_⟩ <;> first | omega | assumption | trivial | rfl) | (refine ⟨?_, ?_, ?_, ?_⟩ <;> first | omega | assumption | trivial | rfl) | (refine ⟨?_, ?_, ?_, ?_, ?_⟩ <;> first | omega | assumption | trivial | rfl) | (refine ⟨?_, ?_, ?_, ?_, ?_, ?_⟩ <;> first | omega | assumption | trivial | rfl) | (refine ⟨?_, ?_, ?_, ?_, ?_, ?_, ?_⟩ <;> first | omega | assumption | trivial | rfl) | (refine ⟨?_, ?_, ?_, ?_, ?_, ?_, ?_, ?_⟩ <;> first | omega | assumption | trivial | rfl)) (show (p2.toInt - p1.toInt + 1).toNat < 20000 from by omega)
            have hI67 : 0 ≤ y4_44_8.toInt ∧ FA f_t_forms_44_8 := hI67
            obtain ⟨hI67_0, hI67_1⟩ := hI67
            unfold S_X9_run_44
            refine ok_le (fun c68 => ?_) (fun c68 => ?_)
            · refine ok_c (ixo (by omega) (by omega)) ?_
              try have a69 := FA_at (f := f_t_forms_44_8) (by assumption) p0.toNatClampNeg
              refine ok_o (sp_X9_onesOf (f_t_forms_44_8 p0.toNatClampNeg) ) (fun r76_8 h70 => ?_)
              have h70 : 0 ≤ r76_8.toInt ∧ r76_8.toInt ≤ 127 := h70
              refine ok_o2 (sp_X9_done c_t_acts r76_8 ) (fun r79_8 c_t_acts_79_8 h71 => ?_)
              exact ok_s (show FA f_t_forms_44_8 from by first | omega | assumption | trivial | (refine ⟨?_, ?_⟩ <;> first | omega | assumption | trivial | rfl) | (refine ⟨?_, ?_, ?_⟩ <;> first | omega | assumption | trivial | rfl) | (refine ⟨?_, ?_, ?_, ?_⟩ <;> first | omega | assumption | trivial | rfl) | (refine ⟨?_, ?_, ?_, ?_, ?_⟩ <;> first | omega | assumption | trivial | rfl) | (refine ⟨?_, ?_, ?_, ?_, ?_, ?_⟩ <;> first | omega | assumption | trivial | rfl) | (refine ⟨?_, ?_, ?_, ?_, ?_, ?_, ?_⟩ <;> first | omega | assumption | trivial | rfl) | (refine ⟨?_, ?_, ?_, ?_, ?_, ?_, ?_, ?_⟩ <;> first | omega | assumption | trivial | rfl))
            · refine ok_c (ixo (by omega) (by omega)) ?_
              refine ok_c (ixo (by omega) (by omega)) ?_
              try have a72 := FA_at (f := f_t_forms_44_8) (by assumption) p0.toNatClampNeg
              have hx : DG ((f_t_forms_44_8 p0.toNatClampNeg) ^^^ ((1 : Int64) <<< (y4_44_8.toInt64 &&& 63))) ≤ 39 := DG_xor (by omega) (DG_shlx (by omega) (by omega) (by rw [DG_1]; omega) (by decide) (by decide))
              refine ok_bx (fun f_t_forms_62_8 e_f_t_forms_62_8 => ?_)
              try have t_f_t_forms_62_8 : FA f_t_forms_62_8 := by rw [e_f_t_forms_62_8]; exact FA_upd (by first | assumption | exact FA_0) _ (by first | omega | assumption | trivial)
              refine ok_bx (fun x4_63_8 e_x4_63_8 => ?_)
              try have t_x4_63_8 : x4_63_8.toInt = y4_44_8.toInt + 1 := by rw [e_x4_63_8]; exact addT1 (show (1 : Int32).toInt = 1 from by decide) (by omega) (by omega)
              exact hih67 x4_63_8 f_t_forms_62_8 (show 0 ≤ x4_63_8.toInt ∧ FA f_t_forms_62_8 from by first | omega | assumption | trivial | (refine ⟨?_, ?_⟩ <;> first | omega | assumption | trivial | rfl) | (refine ⟨?_, ?_, ?_⟩ <;> first | omega | assumption | trivial | rfl) | (refine ⟨?_, ?_, ?_, ?_⟩ <;> first | omega | assumption | trivial | rfl) | (refine ⟨?_, ?_, ?_, ?_, ?_⟩ <;> first | omega | assumption | trivial | rfl) | (refine ⟨?_, ?_, ?_, ?_, ?_, ?_⟩ <;> first | omega | assumption | trivial | rfl) | (refine ⟨?_, ?_, ?_, ?_, ?_, ?_, ?_⟩ <;> first | omega | assumption | trivial | rfl) | (refine ⟨?_, ?_, ?_, ?_, ?_, ?_, ?_, ?_⟩ <;> first | omega | assumption | trivial | rfl)) (show (p2.toInt - x4_63_8.toInt + 1).toNat < (p2.toInt - y4_44_8.toInt + 1).toNat from by omega)
          · exact ok_s (show FA f_t_forms from by first | omega | assumption | trivial | (refine ⟨?_, ?_⟩ <;> first | omega | assumption | trivial | rfl) | (refine ⟨?_, ?_, ?_⟩ <;> first | omega | assumption | trivial | rfl) | (refine ⟨?_, ?_, ?_, ?_⟩ <;> first | omega | assumption | trivial | rfl) | (refine ⟨?_, ?_, ?_, ?_, ?_⟩ <;> first | omega | assumption | trivial | rfl) | (refine ⟨?_, ?_, ?_, ?_, ?_, ?_⟩ <;> first | omega | assumption | trivial | rfl) | (refine ⟨?_, ?_, ?_, ?_, ?_, ?_, ?_⟩ <;> first | omega | assumption | trivial | rfl) | (refine ⟨?_, ?_, ?_, ?_, ?_, ?_, ?_, ?_⟩ <;> first | omega | assumption | trivial | rfl))
set_option maxHeartbeats 1000000 in
theorem sp_X9_copy (c_t_acts : Int32) (f_t_forms : Nat → Int64) (p0 : Int32) (p1 : Int32) (hp0 : FA f_t_forms) : ok (F_X9_copy c_t_acts f_t_forms p0 p1) (fun r => FA r.2.2.2) := by
  have l032 : (0 : Int32).toInt = 0 := by decide
  have l132 : (1 : Int32).toInt = 1 := by decide
  unfold F_X9_copy
  refine ok_o (sp_X9_isForm p0 ) (fun r2 h1 => ?_)
  have h1 : (r2.toInt = 1 ∧ 0 ≤ p0.toInt ∧ p0.toInt ≤ 5) ∨ (r2.toInt = 0 ∧ (p0.toInt < 0 ∨ 6 ≤ p0.toInt)) := h1
  refine ok_eq (fun c2 => ?_) (fun c2 => ?_)
  · refine ok_o2 (sp_X9_isThrown_ (1 : Int32) ) (fun r20 c_t_thrown_20 h3 => ?_)
    have h3 : (r20.toInt = 0 ∧ c_t_thrown_20.toInt = 0 ∧ (1 : Int32).toInt = 0) ∨ (r20.toInt = 1 ∧ c_t_thrown_20.toInt = 1 ∧ (1 : Int32).toInt ≠ 0) := h3
    refine ok_eq (fun c4 => ?_) (fun c4 => ?_)
    · refine ok_c (ixo (by omega) (by omega)) ?_
      try have a5 := FA_at (f := f_t_forms) (by assumption) p0.toNatClampNeg
      refine ok_o3 (sp_X9_give c_t_acts f_t_forms p1 (f_t_forms p0.toNatClampNeg) (by first | omega | assumption | trivial | exact wt_of (by assumption) (by omega)) (by first | omega | assumption | trivial | exact wt_of (by assumption) (by omega)) (by first | omega | assumption | trivial | exact wt_of (by assumption) (by omega)) (by first | omega | assumption | trivial | exact wt_of (by assumption) (by omega))) (fun r38 c_t_acts_38 f_t_forms_38 h6 => ?_)
      have h6 : FA f_t_forms_38 := h6
      exact ok_s (show FA f_t_forms_38 from by first | omega | assumption | trivial | (refine ⟨?_, ?_⟩ <;> first | omega | assumption | trivial | rfl) | (refine ⟨?_, ?_, ?_⟩ <;> first | omega | assumption | trivial | rfl) | (refine ⟨?_, ?_, ?_, ?_⟩ <;> first | omega | assumption | trivial | rfl) | (refine ⟨?_, ?_, ?_, ?_, ?_⟩ <;> first | omega | assumption | trivial | rfl) | (refine ⟨?_, ?_, ?_, ?_, ?_, ?_⟩ <;> first | omega | assumption | trivial | rfl) | (refine ⟨?_, ?_, ?_, ?_, ?_, ?_, ?_⟩ <;> first | omega | assumption | trivial | rfl) | (refine ⟨?_, ?_, ?_, ?_, ?_, ?_, ?_, ?_⟩ <;> first | omega | assumption | trivial | rfl))
    · exact ok_s (show FA f_t_forms from by first | omega | assumption | trivial | (refine ⟨?_, ?_⟩ <;> first | omega | assumption | trivial | rfl) | (refine ⟨?_, ?_, ?_⟩ <;> first | omega | assumption | trivial | rfl) | (refine ⟨?_, ?_, ?_, ?_⟩ <;> first | omega | assumption | trivial | rfl) | (refine ⟨?_, ?_, ?_, ?_, ?_⟩ <;> first | omega | assumption | trivial | rfl) | (refine ⟨?_, ?_, ?_, ?_, ?_, ?_⟩ <;> first | omega | assumption | trivial | rfl) | (refine ⟨?_, ?_, ?_, ?_, ?_, ?_, ?_⟩ <;> first | omega | assumption | trivial | rfl) | (refine ⟨?_, ?_, ?_, ?_, ?_, ?_, ?_, ?_⟩ <;> first | omega | assumption | trivial | rfl))
  · refine ok_o (sp_X9_isForm p1 ) (fun r9 h7 => ?_)
    have h7 : (r9.toInt = 1 ∧ 0 ≤ p1.toInt ∧ p1.toInt ≤ 5) ∨ (r9.toInt = 0 ∧ (p1.toInt < 0 ∨ 6 ≤ p1.toInt)) := h7
    refine ok_eq (fun c8 => ?_) (fun c8 => ?_)
    · refine ok_o2 (sp_X9_isThrown_ (1 : Int32) ) (fun r20_2 c_t_thrown_20_2 h9 => ?_)
      have h9 : (r20_2.toInt = 0 ∧ c_t_thrown_20_2.toInt = 0 ∧ (1 : Int32).toInt = 0) ∨ (r20_2.toInt = 1 ∧ c_t_thrown_20_2.toInt = 1 ∧ (1 : Int32).toInt ≠ 0) := h9
      refine ok_eq (fun c10 => ?_) (fun c10 => ?_)
      · refine ok_c (ixo (by omega) (by omega)) ?_
        try have a11 := FA_at (f := f_t_forms) (by assumption) p0.toNatClampNeg
        refine ok_o3 (sp_X9_give c_t_acts f_t_forms p1 (f_t_forms p0.toNatClampNeg) (by first | omega | assumption | trivial | exact wt_of (by assumption) (by omega)) (by first | omega | assumption | trivial | exact wt_of (by assumption) (by omega)) (by first | omega | assumption | trivial | exact wt_of (by assumption) (by omega)) (by first | omega | assumption | trivial | exact wt_of (by assumption) (by omega))) (fun r38_2 c_t_acts_38_2 f_t_forms_38_2 h12 => ?_)
        have h12 : FA f_t_forms_38_2 := h12
        exact ok_s (show FA f_t_forms_38_2 from by first | omega | assumption | trivial | (refine ⟨?_, ?_⟩ <;> first | omega | assumption | trivial | rfl) | (refine ⟨?_, ?_, ?_⟩ <;> first | omega | assumption | trivial | rfl) | (refine ⟨?_, ?_, ?_, ?_⟩ <;> first | omega | assumption | trivial | rfl) | (refine ⟨?_, ?_, ?_, ?_, ?_⟩ <;> first | omega | assumption | trivial | rfl) | (refine ⟨?_, ?_, ?_, ?_, ?_, ?_⟩ <;> first | omega | assumption | trivial | rfl) | (refine ⟨?_, ?_, ?_, ?_, ?_, ?_, ?_⟩ <;> first | omega | assumption | trivial | rfl) | (refine ⟨?_, ?_, ?_, ?_, ?_, ?_, ?_, ?_⟩ <;> first | omega | assumption | trivial | rfl))
      · exact ok_s (show FA f_t_forms from by first | omega | assumption | trivial | (refine ⟨?_, ?_⟩ <;> first | omega | assumption | trivial | rfl) | (refine ⟨?_, ?_, ?_⟩ <;> first | omega | assumption | trivial | rfl) | (refine ⟨?_, ?_, ?_, ?_⟩ <;> first | omega | assumption | trivial | rfl) | (refine ⟨?_, ?_, ?_, ?_, ?_⟩ <;> first | omega | assumption | trivial | rfl) | (refine ⟨?_, ?_, ?_, ?_, ?_, ?_⟩ <;> first | omega | assumption | trivial | rfl) | (refine ⟨?_, ?_, ?_, ?_, ?_, ?_, ?_⟩ <;> first | omega | assumption | trivial | rfl) | (refine ⟨?_, ?_, ?_, ?_, ?_, ?_, ?_, ?_⟩ <;> first | omega | assumption | trivial | rfl))
    · refine ok_o2 (sp_X9_isThrown_ (0 : Int32) ) (fun r20_3 c_t_thrown_20_3 h13 => ?_)
      have h13 : (r20_3.toInt = 0 ∧ c_t_thrown_20_3.toInt = 0 ∧ (0 : Int32).toInt = 0) ∨ (r20_3.toInt = 1 ∧ c_t_thrown_20_3.toInt = 1 ∧ (0 : Int32).toInt ≠ 0) := h13
      refine ok_eq (fun c14 => ?_) (fun c14 => ?_)
      · refine ok_c (ixo (by omega) (by omega)) ?_
        try have a15 := FA_at (f := f_t_forms) (by assumption) p0.toNatClampNeg
        refine ok_o3 (sp_X9_give c_t_acts f_t_forms p1 (f_t_forms p0.toNatClampNeg) (by first | omega | assumption | trivial | exact wt_of (by assumption) (by omega)) (by first | omega | assumption | trivial | exact wt_of (by assumption) (by omega)) (by first | omega | assumption | trivial | exact wt_of (by assumption) (by omega)) (by first | omega | assumption | trivial | exact wt_of (by assumption) (by omega))) (fun r38_3 c_t_acts_38_3 f_t_forms_38_3 h16 => ?_)
        have h16 : FA f_t_forms_38_3 := h16
        exact ok_s (show FA f_t_forms_38_3 from by first | omega | assumption | trivial | (refine ⟨?_, ?_⟩ <;> first | omega | assumption | trivial | rfl) | (refine ⟨?_, ?_, ?_⟩ <;> first | omega | assumption | trivial | rfl) | (refine ⟨?_, ?_, ?_, ?_⟩ <;> first | omega | assumption | trivial | rfl) | (refine ⟨?_, ?_, ?_, ?_, ?_⟩ <;> first | omega | assumption | trivial | rfl) | (refine ⟨?_, ?_, ?_, ?_, ?_, ?_⟩ <;> first | omega | assumption | trivial | rfl) | (refine ⟨?_, ?_, ?_, ?_, ?_, ?_, ?_⟩ <;> first | omega | assumption | trivial | rfl) | (refine ⟨?_, ?_, ?_, ?_, ?_, ?_, ?_, ?_⟩ <;> first | omega | assumption | trivial | rfl))
      · exact ok_s (show FA f_t_forms from by first | omega | assumption | trivial | (refine ⟨?_, ?_⟩ <;> first | omega | assumption | trivial | rfl) | (refine ⟨?_, ?_, ?_⟩ <;> first | omega | assumption | trivial | rfl) | (refine ⟨?_, ?_, ?_, ?_⟩ <;> first | omega | assumption | trivial | rfl) | (refine ⟨?_, ?_, ?_, ?_, ?_⟩ <;> first | omega | assumption | trivial | rfl) | (refine ⟨?_, ?_, ?_, ?_, ?_, ?_⟩ <;> first | omega | assumption | trivial | rfl) | (refine ⟨?_, ?_, ?_, ?_, ?_, ?_, ?_⟩ <;> first | omega | assumption | trivial | rfl) | (refine ⟨?_, ?_, ?_, ?_, ?_, ?_, ?_, ?_⟩ <;> first | omega | assumption | trivial | rfl))
set_option maxHeartbeats 1000000 in
theorem sp_X9_swap (c_t_acts : Int32) (c_t_thrown : Int32) (f_t_forms : Nat → Int64) (p0 : Int32) (p1 : Int32) (hp0 : FA f_t_forms) : ok (F_X9_swap c_t_acts c_t_thrown f_t_forms p0 p1) (fun r => FA r.2.2.2) := by
  have l032 : (0 : Int32).toInt = 0 := by decide
  have l132 : (1 : Int32).toInt = 1 := by decide
  unfold F_X9_swap
  refine ok_o (sp_X9_isForm p0 ) (fun r2 h1 => ?_)
  have h1 : (r2.toInt = 1 ∧ 0 ≤ p0.toInt ∧ p0.toInt ≤ 5) ∨ (r2.toInt = 0 ∧ (p0.toInt < 0 ∨ 6 ≤ p0.toInt)) := h1
  refine ok_eq (fun c2 => ?_) (fun c2 => ?_)
  · first | unfold J_X9_swap_15 | skip
    first | unfold J_X9_swap_20 | skip
    refine ok_o2 (sp_X9_isThrown_ (1 : Int32) ) (fun r20 c_t_thrown_20 h3 => ?_)
    have h3 : (r20.toInt = 0 ∧ c_t_thrown_20.toInt = 0 ∧ (1 : Int32).toInt = 0) ∨ (r20.toInt = 1 ∧ c_t_thrown_20.toInt = 1 ∧ (1 : Int32).toInt ≠ 0) := h3
    refine ok_eq (fun c4 => ?_) (fun c4 => ?_)
    · refine ok_c (ixo (by omega) (by omega)) ?_
      try have a5 := FA_at (f := f_t_forms) (by assumption) p0.toNatClampNeg
      refine ok_bx (fun x3_34 e_x3_34 => ?_)
      try have q_x3_34 : DG x3_34 = DG (f_t_forms p0.toNatClampNeg) := by rw [e_x3_34]
      try have d_x3_34 : -1 ≤ DG x3_34 ∧ DG x3_34 ≤ 39 := by rw [e_x3_34]; exact FA_at (by assumption) _
      refine ok_c (ixo (by omega) (by omega)) ?_
      try have a7 := FA_at (f := f_t_forms) (by assumption) p1.toNatClampNeg
      refine ok_eqL (fun c6 => ?_) (fun c6 => ?_)
      · first | unfold J_X9_swap_51 | skip
        refine ok_c (ixo (by omega) (by omega)) ?_
        refine ok_c (ixo (by omega) (by omega)) ?_
        try have a8 := FA_at (f := f_t_forms) (by assumption) p1.toNatClampNeg
        refine ok_bx (fun f_t_forms_64 e_f_t_forms_64 => ?_)
        try have t_f_t_forms_64 : FA f_t_forms_64 := by rw [e_f_t_forms_64]; exact FA_upd (by first | assumption | exact FA_0) _ (by first | omega | assumption | trivial)
        refine ok_c (ixo (by omega) (by omega)) ?_
        refine ok_bx (fun f_t_forms_71 e_f_t_forms_71 => ?_)
        try have t_f_t_forms_71 : FA f_t_forms_71 := by rw [e_f_t_forms_71]; exact FA_upd (by first | assumption | exact FA_0) _ (by first | omega | assumption | trivial)
        refine ok_eq (fun c9 => ?_) (fun c9 => ?_)
        · refine ok_o2 (sp_X9_done c_t_acts (1 : Int32) ) (fun r83 c_t_acts_83 h10 => ?_)
          exact ok_s (show FA f_t_forms_71 from by first | omega | assumption | trivial | (refine ⟨?_, ?_⟩ <;> first | omega | assumption | trivial | rfl) | (refine ⟨?_, ?_, ?_⟩ <;> first | omega | assumption | trivial | rfl) | (refine ⟨?_, ?_, ?_, ?_⟩ <;> first | omega | assumption | trivial | rfl) | (refine ⟨?_, ?_, ?_, ?_, ?_⟩ <;> first | omega | assumption | trivial | rfl) | (refine ⟨?_, ?_, ?_, ?_, ?_, ?_⟩ <;> first | omega | assumption | trivial | rfl) | (refine ⟨?_, ?_, ?_, ?_, ?_, ?_, ?_⟩ <;> first | omega | assumption | trivial | rfl) | (refine ⟨?_, ?_, ?_, ?_, ?_, ?_, ?_, ?_⟩ <;> first | omega | assumption | trivial | rfl))
        · refine ok_o2 (sp_X9_done c_t_acts (0 : Int32) ) (fun r83_2 c_t_acts_83_2 h11 => ?_)
          exact ok_s (show FA f_t_forms_71 from by first | omega | assumption | trivial | (refine ⟨?_, ?_⟩ <;> first | omega | assumption | trivial | rfl) | (refine ⟨?_, ?_, ?_⟩ <;> first | omega | assumption | trivial | rfl) | (refine ⟨?_, ?_, ?_, ?_⟩ <;> first | omega | assumption | trivial | rfl) | (refine ⟨?_, ?_, ?_, ?_, ?_⟩ <;> first | omega | assumption | trivial | rfl) | (refine ⟨?_, ?_, ?_, ?_, ?_, ?_⟩ <;> first | omega | assumption | trivial | rfl) | (refine ⟨?_, ?_, ?_, ?_, ?_, ?_, ?_⟩ <;> first | omega | assumption | trivial | rfl) | (refine ⟨?_, ?_, ?_, ?_, ?_, ?_, ?_, ?_⟩ <;> first | omega | assumption | trivial | rfl))
      · first | unfold J_X9_swap_51 | skip
        refine ok_c (ixo (by omega) (by omega)) ?_
        refine ok_c (ixo (by omega) (by omega)) ?_
        try have a12 := FA_at (f := f_t_forms) (by assumption) p1.toNatClampNeg
        refine ok_bx (fun f_t_forms_64_2 e_f_t_forms_64_2 => ?_)
        try have t_f_t_forms_64_2 : FA f_t_forms_64_2 := by rw [e_f_t_forms_64_2]; exact FA_upd (by first | assumption | exact FA_0) _ (by first | omega | assumption | trivial)
        refine ok_c (ixo (by omega) (by omega)) ?_
        refine ok_bx (fun f_t_forms_71_2 e_f_t_forms_71_2 => ?_)
        try have t_f_t_forms_71_2 : FA f_t_forms_71_2 := by rw [e_f_t_forms_71_2]; exact FA_upd (by first | assumption | exact FA_0) _ (by first | omega | assumption | trivial)
        refine ok_eq (fun c13 => ?_) (fun c13 => ?_)
        · refine ok_o2 (sp_X9_done c_t_acts (1 : Int32) ) (fun r83_3 c_t_acts_83_3 h14 => ?_)
          exact ok_s (show FA f_t_forms_71_2 from by first | omega | assumption | trivial | (refine ⟨?_, ?_⟩ <;> first | omega | assumption | trivial | rfl) | (refine ⟨?_, ?_, ?_⟩ <;> first | omega | assumption | trivial | rfl) | (refine ⟨?_, ?_, ?_, ?_⟩ <;> first | omega | assumption | trivial | rfl) | (refine ⟨?_, ?_, ?_, ?_, ?_⟩ <;> first | omega | assumption | trivial | rfl) | (refine ⟨?_, ?_, ?_, ?_, ?_, ?_⟩ <;> first | omega | assumption | trivial | rfl) | (refine ⟨?_, ?_, ?_, ?_, ?_, ?_, ?_⟩ <;> first | omega | assumption | trivial | rfl) | (refine ⟨?_, ?_, ?_, ?_, ?_, ?_, ?_, ?_⟩ <;> first | omega | assumption | trivial | rfl))
        · refine ok_o2 (sp_X9_done c_t_acts (0 : Int32) ) (fun r83_4 c_t_acts_83_4 h15 => ?_)
          exact ok_s (show FA f_t_forms_71_2 from by first | omega | assumption | trivial | (refine ⟨?_, ?_⟩ <;> first | omega | assumption | trivial | rfl) | (refine ⟨?_, ?_, ?_⟩ <;> first | omega | assumption | trivial | rfl) | (refine ⟨?_, ?_, ?_, ?_⟩ <;> first | omega | assumption | trivial | rfl) | (refine ⟨?_, ?_, ?_, ?_, ?_⟩ <;> first | omega | assumption | trivial | rfl) | (refine ⟨?_, ?_, ?_, ?_, ?_, ?_⟩ <;> first | omega | assumption | trivial | rfl) | (refine ⟨?_, ?_, ?_, ?_, ?_, ?_, ?_⟩ <;> first | omega | assumption | trivial | rfl) | (refine ⟨?_, ?_, ?_, ?_, ?_, ?_, ?_, ?_⟩ <;> first | omega | assumption | trivial | rfl))
    · exact ok_s (show FA f_t_forms from by first | omega | assumption | trivial | (refine ⟨?_, ?_⟩ <;> first | omega | assumption | trivial | rfl) | (refine ⟨?_, ?_, ?_⟩ <;> first | omega | assumption | trivial | rfl) | (refine ⟨?_, ?_, ?_, ?_⟩ <;> first | omega | assumption | trivial | rfl) | (refine ⟨?_, ?_, ?_, ?_, ?_⟩ <;> first | omega | assumption | trivial | rfl) | (refine ⟨?_, ?_, ?_, ?_, ?_, ?_⟩ <;> first | omega | assumption | trivial | rfl) | (refine ⟨?_, ?_, ?_, ?_, ?_, ?_, ?_⟩ <;> first | omega | assumption | trivial | rfl) | (refine ⟨?_, ?_, ?_, ?_, ?_, ?_, ?_, ?_⟩ <;> first | omega | assumption | trivial | rfl))
  · refine ok_o (sp_X9_isForm p1 ) (fun r9 h16 => ?_)
    have h16 : (r9.toInt = 1 ∧ 0 ≤ p1.toInt ∧ p1.toInt ≤ 5) ∨ (r9.toInt = 0 ∧ (p1.toInt < 0 ∨ 6 ≤ p1.toInt)) := h16
    refine ok_eq (fun c17 => ?_) (fun c17 => ?_)
    · first | unfold J_X9_swap_15 | skip
      first | unfold J_X9_swap_20 | skip
      refine ok_o2 (sp_X9_isThrown_ (1 : Int32) ) (fun r20_2 c_t_thrown_20_2 h18 => ?_)
      have h18 : (r20_2.toInt = 0 ∧ c_t_thrown_20_2.toInt = 0 ∧ (1 : Int32).toInt = 0) ∨ (r20_2.toInt = 1 ∧ c_t_thrown_20_2.toInt = 1 ∧ (1 : Int32).toInt ≠ 0) := h18
      refine ok_eq (fun c19 => ?_) (fun c19 => ?_)
      · refine ok_c (ixo (by omega) (by omega)) ?_
        try have a20 := FA_at (f := f_t_forms) (by assumption) p0.toNatClampNeg
        refine ok_bx (fun x3_34_2 e_x3_34_2 => ?_)
        try have q_x3_34_2 : DG x3_34_2 = DG (f_t_forms p0.toNatClampNeg) := by rw [e_x3_34_2]
        try have d_x3_34_2 : -1 ≤ DG x3_34_2 ∧ DG x3_34_2 ≤ 39 := by rw [e_x3_34_2]; exact FA_at (by assumption) _
        refine ok_c (ixo (by omega) (by omega)) ?_
        try have a22 := FA_at (f := f_t_forms) (by assumption) p1.toNatClampNeg
        refine ok_eqL (fun c21 => ?_) (fun c21 => ?_)
        · first | unfold J_X9_swap_51 | skip
          refine ok_c (ixo (by omega) (by omega)) ?_
          refine ok_c (ixo (by omega) (by omega)) ?_
          try have a23 := FA_at (f := f_t_forms) (by assumption) p1.toNatClampNeg
          refine ok_bx (fun f_t_forms_64_3 e_f_t_forms_64_3 => ?_)
          try have t_f_t_forms_64_3 : FA f_t_forms_64_3 := by rw [e_f_t_forms_64_3]; exact FA_upd (by first | assumption | exact FA_0) _ (by first | omega | assumption | trivial)
          refine ok_c (ixo (by omega) (by omega)) ?_
          refine ok_bx (fun f_t_forms_71_3 e_f_t_forms_71_3 => ?_)
          try have t_f_t_forms_71_3 : FA f_t_forms_71_3 := by rw [e_f_t_forms_71_3]; exact FA_upd (by first | assumption | exact FA_0) _ (by first | omega | assumption | trivial)
          refine ok_eq (fun c24 => ?_) (fun c24 => ?_)
          · refine ok_o2 (sp_X9_done c_t_acts (1 : Int32) ) (fun r83_5 c_t_acts_83_5 h25 => ?_)
            exact ok_s (show FA f_t_forms_71_3 from by first | omega | assumption | trivial | (refine ⟨?_, ?_⟩ <;> first | omega | assumption | trivial | rfl) | (refine ⟨?_, ?_, ?_⟩ <;> first | omega | assumption | trivial | rfl) | (refine ⟨?_, ?_, ?_, ?_⟩ <;> first | omega | assumption | trivial | rfl) | (refine ⟨?_, ?_, ?_, ?_, ?_⟩ <;> first | omega | assumption | trivial | rfl) | (refine ⟨?_, ?_, ?_, ?_, ?_, ?_⟩ <;> first | omega | assumption | trivial | rfl) | (refine ⟨?_, ?_, ?_, ?_, ?_, ?_, ?_⟩ <;> first | omega | assumption | trivial | rfl) | (refine ⟨?_, ?_, ?_, ?_, ?_, ?_, ?_, ?_⟩ <;> first | omega | assumption | trivial | rfl))
          · refine ok_o2 (sp_X9_done c_t_acts (0 : Int32) ) (fun r83_6 c_t_acts_83_6 h26 => ?_)
            exact ok_s (show FA f_t_forms_71_3 from by first | omega | assumption | trivial | (refine ⟨?_, ?_⟩ <;> first | omega | assumption | trivial | rfl) | (refine ⟨?_, ?_, ?_⟩ <;> first | omega | assumption | trivial | rfl) | (refine ⟨?_, ?_, ?_, ?_⟩ <;> first | omega | assumption | trivial | rfl) | (refine ⟨?_, ?_, ?_, ?_, ?_⟩ <;> first | omega | assumption | trivial | rfl) | (refine ⟨?_, ?_, ?_, ?_, ?_, ?_⟩ <;> first | omega | assumption | trivial | rfl) | (refine ⟨?_, ?_, ?_, ?_, ?_, ?_, ?_⟩ <;> first | omega | assumption | trivial | rfl) | (refine ⟨?_, ?_, ?_, ?_, ?_, ?_, ?_, ?_⟩ <;> first | omega | assumption | trivial | rfl))
        · first | unfold J_X9_swap_51 | skip
          refine ok_c (ixo (by omega) (by omega)) ?_
          refine ok_c (ixo (by omega) (by omega)) ?_
          try have a27 := FA_at (f := f_t_forms) (by assumption) p1.toNatClampNeg
          refine ok_bx (fun f_t_forms_64_4 e_f_t_forms_64_4 => ?_)
          try have t_f_t_forms_64_4 : FA f_t_forms_64_4 := by rw [e_f_t_forms_64_4]; exact FA_upd (by first | assumption | exact FA_0) _ (by first | omega | assumption | trivial)
          refine ok_c (ixo (by omega) (by omega)) ?_
          refine ok_bx (fun f_t_forms_71_4 e_f_t_forms_71_4 => ?_)
          try have t_f_t_forms_71_4 : FA f_t_forms_71_4 := by rw [e_f_t_forms_71_4]; exact FA_upd (by first | assumption | exact FA_0) _ (by first | omega | assumption | trivial)
          refine ok_eq (fun c28 => ?_) (fun c28 => ?_)
          · refine ok_o2 (sp_X9_done c_t_acts (1 : Int32) ) (fun r83_7 c_t_acts_83_7 h29 => ?_)
            exact ok_s (show FA f_t_forms_71_4 from by first | omega | assumption | trivial | (refine ⟨?_, ?_⟩ <;> first | omega | assumption | trivial | rfl) | (refine ⟨?_, ?_, ?_⟩ <;> first | omega | assumption | trivial | rfl) | (refine ⟨?_, ?_, ?_, ?_⟩ <;> first | omega | assumption | trivial | rfl) | (refine ⟨?_, ?_, ?_, ?_, ?_⟩ <;> first | omega | assumption | trivial | rfl) | (refine ⟨?_, ?_, ?_, ?_, ?_, ?_⟩ <;> first | omega | assumption | trivial | rfl) | (refine ⟨?_, ?_, ?_, ?_, ?_, ?_, ?_⟩ <;> first | omega | assumption | trivial | rfl) | (refine ⟨?_, ?_, ?_, ?_, ?_, ?_, ?_, ?_⟩ <;> first | omega | assumption | trivial | rfl))
          · refine ok_o2 (sp_X9_done c_t_acts (0 : Int32) ) (fun r83_8 c_t_acts_83_8 h30 => ?_)
            exact ok_s (show FA f_t_forms_71_4 from by first | omega | assumption | trivial | (refine ⟨?_, ?_⟩ <;> first | omega | assumption | trivial | rfl) | (refine ⟨?_, ?_, ?_⟩ <;> first | omega | assumption | trivial | rfl) | (refine ⟨?_, ?_, ?_, ?_⟩ <;> first | omega | assumption | trivial | rfl) | (refine ⟨?_, ?_, ?_, ?_, ?_⟩ <;> first | omega | assumption | trivial | rfl) | (refine ⟨?_, ?_, ?_, ?_, ?_, ?_⟩ <;> first | omega | assumption | trivial | rfl) | (refine ⟨?_, ?_, ?_, ?_, ?_, ?_, ?_⟩ <;> first | omega | assumption | trivial | rfl) | (refine ⟨?_, ?_, ?_, ?_, ?_, ?_, ?_, ?_⟩ <;> first | omega | assumption | trivial | rfl))
      · exact ok_s (show FA f_t_forms from by first | omega | assumption | trivial | (refine ⟨?_, ?_⟩ <;> first | omega | assumption | trivial | rfl) | (refine ⟨?_, ?_, ?_⟩ <;> first | omega | assumption | trivial | rfl) | (refine ⟨?_, ?_, ?_, ?_⟩ <;> first | omega | assumption | trivial | rfl) | (refine ⟨?_, ?_, ?_, ?_, ?_⟩ <;> first | omega | assumption | trivial | rfl) | (refine ⟨?_, ?_, ?_, ?_, ?_, ?_⟩ <;> first | omega | assumption | trivial | rfl) | (refine ⟨?_, ?_, ?_, ?_, ?_, ?_, ?_⟩ <;> first | omega | assumption | trivial | rfl) | (refine ⟨?_, ?_, ?_, ?_, ?_, ?_, ?_, ?_⟩ <;> first | omega | assumption | trivial | rfl))
    · first | unfold J_X9_swap_20 | skip
      refine ok_o2 (sp_X9_isThrown_ (0 : Int32) ) (fun r20_3 c_t_thrown_20_3 h31 => ?_)
      have h31 : (r20_3.toInt = 0 ∧ c_t_thrown_20_3.toInt = 0 ∧ (0 : Int32).toInt = 0) ∨ (r20_3.toInt = 1 ∧ c_t_thrown_20_3.toInt = 1 ∧ (0 : Int32).toInt ≠ 0) := h31
      refine ok_eq (fun c32 => ?_) (fun c32 => ?_)
      · refine ok_c (ixo (by omega) (by omega)) ?_
        try have a33 := FA_at (f := f_t_forms) (by assumption) p0.toNatClampNeg
        refine ok_bx (fun x3_34_3 e_x3_34_3 => ?_)
        try have q_x3_34_3 : DG x3_34_3 = DG (f_t_forms p0.toNatClampNeg) := by rw [e_x3_34_3]
        try have d_x3_34_3 : -1 ≤ DG x3_34_3 ∧ DG x3_34_3 ≤ 39 := by rw [e_x3_34_3]; exact FA_at (by assumption) _
        refine ok_c (ixo (by omega) (by omega)) ?_
        try have a35 := FA_at (f := f_t_forms) (by assumption) p1.toNatClampNeg
        refine ok_eqL (fun c34 => ?_) (fun c34 => ?_)
        · first | unfold J_X9_swap_51 | skip
          refine ok_c (ixo (by omega) (by omega)) ?_
          refine ok_c (ixo (by omega) (by omega)) ?_
          try have a36 := FA_at (f := f_t_forms) (by assumption) p1.toNatClampNeg
          refine ok_bx (fun f_t_forms_64_5 e_f_t_forms_64_5 => ?_)
          try have t_f_t_forms_64_5 : FA f_t_forms_64_5 := by rw [e_f_t_forms_64_5]; exact FA_upd (by first | assumption | exact FA_0) _ (by first | omega | assumption | trivial)
          refine ok_c (ixo (by omega) (by omega)) ?_
          refine ok_bx (fun f_t_forms_71_5 e_f_t_forms_71_5 => ?_)
          try have t_f_t_forms_71_5 : FA f_t_forms_71_5 := by rw [e_f_t_forms_71_5]; exact FA_upd (by first | assumption | exact FA_0) _ (by first | omega | assumption | trivial)
          refine ok_eq (fun c37 => ?_) (fun c37 => ?_)
          · refine ok_o2 (sp_X9_done c_t_acts (1 : Int32) ) (fun r83_9 c_t_acts_83_9 h38 => ?_)
            exact ok_s (show FA f_t_forms_71_5 from by first | omega | assumption | trivial | (refine ⟨?_, ?_⟩ <;> first | omega | assumption | trivial | rfl) | (refine ⟨?_, ?_, ?_⟩ <;> first | omega | assumption | trivial | rfl) | (refine ⟨?_, ?_, ?_, ?_⟩ <;> first | omega | assumption | trivial | rfl) | (refine ⟨?_, ?_, ?_, ?_, ?_⟩ <;> first | omega | assumption | trivial | rfl) | (refine ⟨?_, ?_, ?_, ?_, ?_, ?_⟩ <;> first | omega | assumption | trivial | rfl) | (refine ⟨?_, ?_, ?_, ?_, ?_, ?_, ?_⟩ <;> first | omega | assumption | trivial | rfl) | (refine ⟨?_, ?_, ?_, ?_, ?_, ?_, ?_, ?_⟩ <;> first | omega | assumption | trivial | rfl))
          · refine ok_o2 (sp_X9_done c_t_acts (0 : Int32) ) (fun r83_10 c_t_acts_83_10 h39 => ?_)
            exact ok_s (show FA f_t_forms_71_5 from by first | omega | assumption | trivial | (refine ⟨?_, ?_⟩ <;> first | omega | assumption | trivial | rfl) | (refine ⟨?_, ?_, ?_⟩ <;> first | omega | assumption | trivial | rfl) | (refine ⟨?_, ?_, ?_, ?_⟩ <;> first | omega | assumption | trivial | rfl) | (refine ⟨?_, ?_, ?_, ?_, ?_⟩ <;> first | omega | assumption | trivial | rfl) | (refine ⟨?_, ?_, ?_, ?_, ?_, ?_⟩ <;> first | omega | assumption | trivial | rfl) | (refine ⟨?_, ?_, ?_, ?_, ?_, ?_, ?_⟩ <;> first | omega | assumption | trivial | rfl) | (refine ⟨?_, ?_, ?_, ?_, ?_, ?_, ?_, ?_⟩ <;> first | omega | assumption | trivial | rfl))
        · first | unfold J_X9_swap_51 | skip
          refine ok_c (ixo (by omega) (by omega)) ?_
          refine ok_c (ixo (by omega) (by omega)) ?_
          try have a40 := FA_at (f := f_t_forms) (by assumption) p1.toNatClampNeg
          refine ok_bx (fun f_t_forms_64_6 e_f_t_forms_64_6 => ?_)
          try have t_f_t_forms_64_6 : FA f_t_forms_64_6 := by rw [e_f_t_forms_64_6]; exact FA_upd (by first | assumption | exact FA_0) _ (by first | omega | assumption | trivial)
          refine ok_c (ixo (by omega) (by omega)) ?_
          refine ok_bx (fun f_t_forms_71_6 e_f_t_forms_71_6 => ?_)
          try have t_f_t_forms_71_6 : FA f_t_forms_71_6 := by rw [e_f_t_forms_71_6]; exact FA_upd (by first | assumption | exact FA_0) _ (by first | omega | assumption | trivial)
          refine ok_eq (fun c41 => ?_) (fun c41 => ?_)
          · refine ok_o2 (sp_X9_done c_t_acts (1 : Int32) ) (fun r83_11 c_t_acts_83_11 h42 => ?_)
            exact ok_s (show FA f_t_forms_71_6 from by first | omega | assumption | trivial | (refine ⟨?_, ?_⟩ <;> first | omega | assumption | trivial | rfl) | (refine ⟨?_, ?_, ?_⟩ <;> first | omega | assumption | trivial | rfl) | (refine ⟨?_, ?_, ?_, ?_⟩ <;> first | omega | assumption | trivial | rfl) | (refine ⟨?_, ?_, ?_, ?_, ?_⟩ <;> first | omega | assumption | trivial | rfl) | (refine ⟨?_, ?_, ?_, ?_, ?_, ?_⟩ <;> first | omega | assumption | trivial | rfl) | (refine ⟨?_, ?_, ?_, ?_, ?_, ?_, ?_⟩ <;> first | omega | assumption | trivial | rfl) | (refine ⟨?_, ?_, ?_, ?_, ?_, ?_, ?_, ?_⟩ <;> first | omega | assumption | trivial | rfl))
          · refine ok_o2 (sp_X9_done c_t_acts (0 : Int32) ) (fun r83_12 c_t_acts_83_12 h43 => ?_)
            exact ok_s (show FA f_t_forms_71_6 from by first | omega | assumption | trivial | (refine ⟨?_, ?_⟩ <;> first | omega | assumption | trivial | rfl) | (refine ⟨?_, ?_, ?_⟩ <;> first | omega | assumption | trivial | rfl) | (refine ⟨?_, ?_, ?_, ?_⟩ <;> first | omega | assumption | trivial | rfl) | (refine ⟨?_, ?_, ?_, ?_, ?_⟩ <;> first | omega | assumption | trivial | rfl) | (refine ⟨?_, ?_, ?_, ?_, ?_, ?_⟩ <;> first | omega | assumption | trivial | rfl) | (refine ⟨?_, ?_, ?_, ?_, ?_, ?_, ?_⟩ <;> first | omega | assumption | trivial | rfl) | (refine ⟨?_, ?_, ?_, ?_, ?_, ?_, ?_, ?_⟩ <;> first | omega | assumption | trivial | rfl))
      · exact ok_s (show FA f_t_forms from by first | omega | assumption | trivial | (refine ⟨?_, ?_⟩ <;> first | omega | assumption | trivial | rfl) | (refine ⟨?_, ?_, ?_⟩ <;> first | omega | assumption | trivial | rfl) | (refine ⟨?_, ?_, ?_, ?_⟩ <;> first | omega | assumption | trivial | rfl) | (refine ⟨?_, ?_, ?_, ?_, ?_⟩ <;> first | omega | assumption | trivial | rfl) | (refine ⟨?_, ?_, ?_, ?_, ?_, ?_⟩ <;> first | omega | assumption | trivial | rfl) | (refine ⟨?_, ?_, ?_, ?_, ?_, ?_, ?_⟩ <;> first | omega | assumption | trivial | rfl) | (refine ⟨?_, ?_, ?_, ?_, ?_, ?_, ?_, ?_⟩ <;> first | omega | assumption | trivial | rfl))
set_option maxHeartbeats 1000000 in
theorem sp_X9_shift (c_t_acts : Int32) (c_t_refused : Int32) (c_t_thrown : Int32) (f_t_forms : Nat → Int64) (p0 : Int32) (p1 : Int32) (hp0 : FA f_t_forms) : ok (F_X9_shift c_t_acts c_t_refused c_t_thrown f_t_forms p0 p1) (fun r => FA r.2.2.2.2) := by
  have lm4032 : (-40 : Int32).toInt = -40 := by decide
  have l032 : (0 : Int32).toInt = 0 := by decide
  have l064 : (0 : Int64).toInt = 0 := by decide
  have l132 : (1 : Int32).toInt = 1 := by decide
  have l4032 : (40 : Int32).toInt = 40 := by decide
  unfold F_X9_shift
  refine ok_o (sp_X9_isForm p0 ) (fun r2 h1 => ?_)
  have h1 : (r2.toInt = 1 ∧ 0 ≤ p0.toInt ∧ p0.toInt ≤ 5) ∨ (r2.toInt = 0 ∧ (p0.toInt < 0 ∨ 6 ≤ p0.toInt)) := h1
  refine ok_eq (fun c2 => ?_) (fun c2 => ?_)
  · first | unfold J_X9_shift_13 | skip
    refine ok_le (fun c3 => ?_) (fun c3 => ?_)
    · first | unfold J_X9_shift_25 | skip
      first | unfold J_X9_shift_30 | skip
      refine ok_o2 (sp_X9_isThrown (1 : Int32) (1 : Int32) ) (fun r30 c_t_thrown_30 h4 => ?_)
      have h4 : (r30.toInt = 0 ∧ c_t_thrown_30.toInt = 0 ∧ (1 : Int32).toInt = 0 ∧ (1 : Int32).toInt = 0) ∨ (r30.toInt = 1 ∧ c_t_thrown_30.toInt = 1 ∧ (1 : Int32).toInt ≠ 0) ∨ (r30.toInt = 1 ∧ c_t_thrown_30.toInt = 2 ∧ (1 : Int32).toInt = 0 ∧ (1 : Int32).toInt ≠ 0) := h4
      refine ok_eq (fun c5 => ?_) (fun c5 => ?_)
      · refine ok_c (ixo (by omega) (by omega)) ?_
        try have a7 := FA_at (f := f_t_forms) (by assumption) p0.toNatClampNeg
        have z_c6 := DG_z (f_t_forms p0.toNatClampNeg)
        refine ok_eqL (fun c6 => ?_) (fun c6 => ?_)
        · first | unfold J_X9_shift_70 | skip
          refine ok_le (fun c8 => ?_) (fun c8 => ?_)
          · refine ok_c (ixo (by omega) (by omega)) ?_
            try have a9 := FA_at (f := f_t_forms) (by assumption) p0.toNatClampNeg
            try have hs : DG ((f_t_forms p0.toNatClampNeg) <<< (p1.toInt64 &&& 63)) ≤ 39 := DG_shlx (by omega) (by omega) (by omega) (by decide) (by decide)
            try have hn := negT (a := p1) (by omega)
            try have hs : DG ((f_t_forms p0.toNatClampNeg) >>> ((-p1).toInt64 &&& 63)) ≤ 39 := Int.le_trans (DG_shr (by rw [hn]; omega) (by rw [hn]; omega) (by omega)) (by omega)
            refine ok_o3 (sp_X9_give c_t_acts f_t_forms p0 ((f_t_forms p0.toNatClampNeg) <<< (p1.toInt64 &&& 63)) (by first | omega | assumption | trivial | exact wt_of (by assumption) (by omega)) (by first | omega | assumption | trivial | exact wt_of (by assumption) (by omega)) (by first | omega | assumption | trivial | exact wt_of (by assumption) (by omega)) (by first | omega | assumption | trivial | exact wt_of (by assumption) (by omega))) (fun r96 c_t_acts_96 f_t_forms_96 h10 => ?_)
            have h10 : FA f_t_forms_96 := h10
            exact ok_s (show FA f_t_forms_96 from by first | omega | assumption | trivial | (refine ⟨?_, ?_⟩ <;> first | omega | assumption | trivial | rfl) | (refine ⟨?_, ?_, ?_⟩ <;> first | omega | assumption | trivial | rfl) | (refine ⟨?_, ?_, ?_, ?_⟩ <;> first | omega | assumption | trivial | rfl) | (refine ⟨?_, ?_, ?_, ?_, ?_⟩ <;> first | omega | assumption | trivial | rfl) | (refine ⟨?_, ?_, ?_, ?_, ?_, ?_⟩ <;> first | omega | assumption | trivial | rfl) | (refine ⟨?_, ?_, ?_, ?_, ?_, ?_, ?_⟩ <;> first | omega | assumption | trivial | rfl) | (refine ⟨?_, ?_, ?_, ?_, ?_, ?_, ?_, ?_⟩ <;> first | omega | assumption | trivial | rfl))
          · refine ok_c (ixo (by omega) (by omega)) ?_
            try have a11 := FA_at (f := f_t_forms) (by assumption) p0.toNatClampNeg
            try have hs : DG ((f_t_forms p0.toNatClampNeg) <<< (p1.toInt64 &&& 63)) ≤ 39 := DG_shlx (by omega) (by omega) (by omega) (by decide) (by decide)
            try have hn := negT (a := p1) (by omega)
            try have hs : DG ((f_t_forms p0.toNatClampNeg) >>> ((-p1).toInt64 &&& 63)) ≤ 39 := Int.le_trans (DG_shr (by rw [hn]; omega) (by rw [hn]; omega) (by omega)) (by omega)
            refine ok_o3 (sp_X9_give c_t_acts f_t_forms p0 ((f_t_forms p0.toNatClampNeg) >>> ((-p1).toInt64 &&& 63)) (by first | omega | assumption | trivial | exact wt_of (by assumption) (by omega)) (by first | omega | assumption | trivial | exact wt_of (by assumption) (by omega)) (by first | omega | assumption | trivial | exact wt_of (by assumption) (by omega)) (by first | omega | assumption | trivial | exact wt_of (by assumption) (by omega))) (fun r96_2 c_t_acts_96_2 f_t_forms_96_2 h12 => ?_)
            have h12 : FA f_t_forms_96_2 := h12
            exact ok_s (show FA f_t_forms_96_2 from by first | omega | assumption | trivial | (refine ⟨?_, ?_⟩ <;> first | omega | assumption | trivial | rfl) | (refine ⟨?_, ?_, ?_⟩ <;> first | omega | assumption | trivial | rfl) | (refine ⟨?_, ?_, ?_, ?_⟩ <;> first | omega | assumption | trivial | rfl) | (refine ⟨?_, ?_, ?_, ?_, ?_⟩ <;> first | omega | assumption | trivial | rfl) | (refine ⟨?_, ?_, ?_, ?_, ?_, ?_⟩ <;> first | omega | assumption | trivial | rfl) | (refine ⟨?_, ?_, ?_, ?_, ?_, ?_, ?_⟩ <;> first | omega | assumption | trivial | rfl) | (refine ⟨?_, ?_, ?_, ?_, ?_, ?_, ?_, ?_⟩ <;> first | omega | assumption | trivial | rfl))
        · refine ok_c (ixo (by omega) (by omega)) ?_
          try have a13 := FA_at (f := f_t_forms) (by assumption) p0.toNatClampNeg
          refine ok_o (sp_X9_degreeOf (f_t_forms p0.toNatClampNeg) ) (fun r55 h14 => ?_)
          have h14 : r55.toInt = DG (f_t_forms p0.toNatClampNeg) ∧ -1 ≤ r55.toInt ∧ r55.toInt ≤ 63 := h14
          obtain ⟨w15, e_w15⟩ : ∃ w : Int32, w = r55 + p1 := ⟨_, rfl⟩
          try have t_w15 : w15.toInt = r55.toInt + p1.toInt := by rw [e_w15]; exact addT1 (Eq.refl _) (by omega) (by omega)
          try rw [← e_w15]
          refine ok_lt (fun c16 => ?_) (fun c16 => ?_)
          · first | unfold J_X9_shift_70 | skip
            try rw [← e_w15]
            refine ok_le (fun c17 => ?_) (fun c17 => ?_)
            · refine ok_c (ixo (by omega) (by omega)) ?_
              try have a18 := FA_at (f := f_t_forms) (by assumption) p0.toNatClampNeg
              try have hs : DG ((f_t_forms p0.toNatClampNeg) <<< (p1.toInt64 &&& 63)) ≤ 39 := DG_shlx (by omega) (by omega) (by omega) (by decide) (by decide)
              try have hn := negT (a := p1) (by omega)
              try have hs : DG ((f_t_forms p0.toNatClampNeg) >>> ((-p1).toInt64 &&& 63)) ≤ 39 := Int.le_trans (DG_shr (by rw [hn]; omega) (by rw [hn]; omega) (by omega)) (by omega)
              refine ok_o3 (sp_X9_give c_t_acts f_t_forms p0 ((f_t_forms p0.toNatClampNeg) <<< (p1.toInt64 &&& 63)) (by first | omega | assumption | trivial | exact wt_of (by assumption) (by omega)) (by first | omega | assumption | trivial | exact wt_of (by assumption) (by omega)) (by first | omega | assumption | trivial | exact wt_of (by assumption) (by omega)) (by first | omega | assumption | trivial | exact wt_of (by assumption) (by omega))) (fun r96_3 c_t_acts_96_3 f_t_forms_96_3 h19 => ?_)
              have h19 : FA f_t_forms_96_3 := h19
              exact ok_s (show FA f_t_forms_96_3 from by first | omega | assumption | trivial | (refine ⟨?_, ?_⟩ <;> first | omega | assumption | trivial | rfl) | (refine ⟨?_, ?_, ?_⟩ <;> first | omega | assumption | trivial | rfl) | (refine ⟨?_, ?_, ?_, ?_⟩ <;> first | omega | assumption | trivial | rfl) | (refine ⟨?_, ?_, ?_, ?_, ?_⟩ <;> first | omega | assumption | trivial | rfl) | (refine ⟨?_, ?_, ?_, ?_, ?_, ?_⟩ <;> first | omega | assumption | trivial | rfl) | (refine ⟨?_, ?_, ?_, ?_, ?_, ?_, ?_⟩ <;> first | omega | assumption | trivial | rfl) | (refine ⟨?_, ?_, ?_, ?_, ?_, ?_, ?_, ?_⟩ <;> first | omega | assumption | trivial | rfl))
            · refine ok_c (ixo (by omega) (by omega)) ?_
              try have a20 := FA_at (f := f_t_forms) (by assumption) p0.toNatClampNeg
              try have hs : DG ((f_t_forms p0.toNatClampNeg) <<< (p1.toInt64 &&& 63)) ≤ 39 := DG_shlx (by omega) (by omega) (by omega) (by decide) (by decide)
              try have hn := negT (a := p1) (by omega)
              try have hs : DG ((f_t_forms p0.toNatClampNeg) >>> ((-p1).toInt64 &&& 63)) ≤ 39 := Int.le_trans (DG_shr (by rw [hn]; omega) (by rw [hn]; omega) (by omega)) (by omega)
              refine ok_o3 (sp_X9_give c_t_acts f_t_forms p0 ((f_t_forms p0.toNatClampNeg) >>> ((-p1).toInt64 &&& 63)) (by first | omega | assumption | trivial | exact wt_of (by assumption) (by omega)) (by first | omega | assumption | trivial | exact wt_of (by assumption) (by omega)) (by first | omega | assumption | trivial | exact wt_of (by assumption) (by omega)) (by first | omega | assumption | trivial | exact wt_of (by assumption) (by omega))) (fun r96_4 c_t_acts_96_4 f_t_forms_96_4 h21 => ?_)
              have h21 : FA f_t_forms_96_4 := h21
              exact ok_s (show FA f_t_forms_96_4 from by first | omega | assumption | trivial | (refine ⟨?_, ?_⟩ <;> first | omega | assumption | trivial | rfl) | (refine ⟨?_, ?_, ?_⟩ <;> first | omega | assumption | trivial | rfl) | (refine ⟨?_, ?_, ?_, ?_⟩ <;> first | omega | assumption | trivial | rfl) | (refine ⟨?_, ?_, ?_, ?_, ?_⟩ <;> first | omega | assumption | trivial | rfl) | (refine ⟨?_, ?_, ?_, ?_, ?_, ?_⟩ <;> first | omega | assumption | trivial | rfl) | (refine ⟨?_, ?_, ?_, ?_, ?_, ?_, ?_⟩ <;> first | omega | assumption | trivial | rfl) | (refine ⟨?_, ?_, ?_, ?_, ?_, ?_, ?_, ?_⟩ <;> first | omega | assumption | trivial | rfl))
          · refine ok_o2 (sp_X9_no c_t_refused ) (fun r66 c_t_refused_66 h22 => ?_)
            exact ok_s (show FA f_t_forms from by first | omega | assumption | trivial | (refine ⟨?_, ?_⟩ <;> first | omega | assumption | trivial | rfl) | (refine ⟨?_, ?_, ?_⟩ <;> first | omega | assumption | trivial | rfl) | (refine ⟨?_, ?_, ?_, ?_⟩ <;> first | omega | assumption | trivial | rfl) | (refine ⟨?_, ?_, ?_, ?_, ?_⟩ <;> first | omega | assumption | trivial | rfl) | (refine ⟨?_, ?_, ?_, ?_, ?_, ?_⟩ <;> first | omega | assumption | trivial | rfl) | (refine ⟨?_, ?_, ?_, ?_, ?_, ?_, ?_⟩ <;> first | omega | assumption | trivial | rfl) | (refine ⟨?_, ?_, ?_, ?_, ?_, ?_, ?_, ?_⟩ <;> first | omega | assumption | trivial | rfl))
      · exact ok_s (show FA f_t_forms from by first | omega | assumption | trivial | (refine ⟨?_, ?_⟩ <;> first | omega | assumption | trivial | rfl) | (refine ⟨?_, ?_, ?_⟩ <;> first | omega | assumption | trivial | rfl) | (refine ⟨?_, ?_, ?_, ?_⟩ <;> first | omega | assumption | trivial | rfl) | (refine ⟨?_, ?_, ?_, ?_, ?_⟩ <;> first | omega | assumption | trivial | rfl) | (refine ⟨?_, ?_, ?_, ?_, ?_, ?_⟩ <;> first | omega | assumption | trivial | rfl) | (refine ⟨?_, ?_, ?_, ?_, ?_, ?_, ?_⟩ <;> first | omega | assumption | trivial | rfl) | (refine ⟨?_, ?_, ?_, ?_, ?_, ?_, ?_, ?_⟩ <;> first | omega | assumption | trivial | rfl))
    · refine ok_lt (fun c23 => ?_) (fun c23 => ?_)
      · first | unfold J_X9_shift_30 | skip
        refine ok_o2 (sp_X9_isThrown (1 : Int32) (0 : Int32) ) (fun r30_2 c_t_thrown_30_2 h24 => ?_)
        have h24 : (r30_2.toInt = 0 ∧ c_t_thrown_30_2.toInt = 0 ∧ (1 : Int32).toInt = 0 ∧ (0 : Int32).toInt = 0) ∨ (r30_2.toInt = 1 ∧ c_t_thrown_30_2.toInt = 1 ∧ (1 : Int32).toInt ≠ 0) ∨ (r30_2.toInt = 1 ∧ c_t_thrown_30_2.toInt = 2 ∧ (1 : Int32).toInt = 0 ∧ (0 : Int32).toInt ≠ 0) := h24
        refine ok_eq (fun c25 => ?_) (fun c25 => ?_)
        · refine ok_c (ixo (by omega) (by omega)) ?_
          try have a27 := FA_at (f := f_t_forms) (by assumption) p0.toNatClampNeg
          have z_c26 := DG_z (f_t_forms p0.toNatClampNeg)
          refine ok_eqL (fun c26 => ?_) (fun c26 => ?_)
          · first | unfold J_X9_shift_70 | skip
            refine ok_le (fun c28 => ?_) (fun c28 => ?_)
            · refine ok_c (ixo (by omega) (by omega)) ?_
              try have a29 := FA_at (f := f_t_forms) (by assumption) p0.toNatClampNeg
              try have hs : DG ((f_t_forms p0.toNatClampNeg) <<< (p1.toInt64 &&& 63)) ≤ 39 := DG_shlx (by omega) (by omega) (by omega) (by decide) (by decide)
              try have hn := negT (a := p1) (by omega)
              try have hs : DG ((f_t_forms p0.toNatClampNeg) >>> ((-p1).toInt64 &&& 63)) ≤ 39 := Int.le_trans (DG_shr (by rw [hn]; omega) (by rw [hn]; omega) (by omega)) (by omega)
              refine ok_o3 (sp_X9_give c_t_acts f_t_forms p0 ((f_t_forms p0.toNatClampNeg) <<< (p1.toInt64 &&& 63)) (by first | omega | assumption | trivial | exact wt_of (by assumption) (by omega)) (by first | omega | assumption | trivial | exact wt_of (by assumption) (by omega)) (by first | omega | assumption | trivial | exact wt_of (by assumption) (by omega)) (by first | omega | assumption | trivial | exact wt_of (by assumption) (by omega))) (fun r96_5 c_t_acts_96_5 f_t_forms_96_5 h30 => ?_)
              have h30 : FA f_t_forms_96_5 := h30
              exact ok_s (show FA f_t_forms_96_5 from by first | omega | assumption | trivial | (refine ⟨?_, ?_⟩ <;> first | omega | assumption | trivial | rfl) | (refine ⟨?_, ?_, ?_⟩ <;> first | omega | assumption | trivial | rfl) | (refine ⟨?_, ?_, ?_, ?_⟩ <;> first | omega | assumption | trivial | rfl) | (refine ⟨?_, ?_, ?_, ?_, ?_⟩ <;> first | omega | assumption | trivial | rfl) | (refine ⟨?_, ?_, ?_, ?_, ?_, ?_⟩ <;> first | omega | assumption | trivial | rfl) | (refine ⟨?_, ?_, ?_, ?_, ?_, ?_, ?_⟩ <;> first | omega | assumption | trivial | rfl) | (refine ⟨?_, ?_, ?_, ?_, ?_, ?_, ?_, ?_⟩ <;> first | omega | assumption | trivial | rfl))
            · refine ok_c (ixo (by omega) (by omega)) ?_
              try have a31 := FA_at (f := f_t_forms) (by assumption) p0.toNatClampNeg
              try have hs : DG ((f_t_forms p0.toNatClampNeg) <<< (p1.toInt64 &&& 63)) ≤ 39 := DG_shlx (by omega) (by omega) (by omega) (by decide) (by decide)
              try have hn := negT (a := p1) (by omega)
              try have hs : DG ((f_t_forms p0.toNatClampNeg) >>> ((-p1).toInt64 &&& 63)) ≤ 39 := Int.le_trans (DG_shr (by rw [hn]; omega) (by rw [hn]; omega) (by omega)) (by omega)
              refine ok_o3 (sp_X9_give c_t_acts f_t_forms p0 ((f_t_forms p0.toNatClampNeg) >>> ((-p1).toInt64 &&& 63)) (by first | omega | assumption | trivial | exact wt_of (by assumption) (by omega)) (by first | omega | assumption | trivial | exact wt_of (by assumption) (by omega)) (by first | omega | assumption | trivial | exact wt_of (by assumption) (by omega)) (by first | omega | assumption | trivial | exact wt_of (by assumption) (by omega))) (fun r96_6 c_t_acts_96_6 f_t_forms_96_6 h32 => ?_)
              have h32 : FA f_t_forms_96_6 := h32
              exact ok_s (show FA f_t_forms_96_6 from by first | omega | assumption | trivial | (refine ⟨?_, ?_⟩ <;> first | omega | assumption | trivial | rfl) | (refine ⟨?_, ?_, ?_⟩ <;> first | omega | assumption | trivial | rfl) | (refine ⟨?_, ?_, ?_, ?_⟩ <;> first | omega | assumption | trivial | rfl) | (refine ⟨?_, ?_, ?_, ?_, ?_⟩ <;> first | omega | assumption | trivial | rfl) | (refine ⟨?_, ?_, ?_, ?_, ?_, ?_⟩ <;> first | omega | assumption | trivial | rfl) | (refine ⟨?_, ?_, ?_, ?_, ?_, ?_, ?_⟩ <;> first | omega | assumption | trivial | rfl) | (refine ⟨?_, ?_, ?_, ?_, ?_, ?_, ?_, ?_⟩ <;> first | omega | assumption | trivial | rfl))
          · refine ok_c (ixo (by omega) (by omega)) ?_
            try have a33 := FA_at (f := f_t_forms) (by assumption) p0.toNatClampNeg
            refine ok_o (sp_X9_degreeOf (f_t_forms p0.toNatClampNeg) ) (fun r55_2 h34 => ?_)
            have h34 : r55_2.toInt = DG (f_t_forms p0.toNatClampNeg) ∧ -1 ≤ r55_2.toInt ∧ r55_2.toInt ≤ 63 := h34
            obtain ⟨w35, e_w35⟩ : ∃ w : Int32, w = r55_2 + p1 := ⟨_, rfl⟩
            try have t_w35 : w35.toInt = r55_2.toInt + p1.toInt := by rw [e_w35]; exact addT1 (Eq.refl _) (by omega) (by omega)
            try rw [← e_w35]
            refine ok_lt (fun c36 => ?_) (fun c36 => ?_)
            · first | unfold J_X9_shift_70 | skip
              try rw [← e_w35]
              refine ok_le (fun c37 => ?_) (fun c37 => ?_)
              · refine ok_c (ixo (by omega) (by omega)) ?_
                try have a38 := FA_at (f := f_t_forms) (by assumption) p0.toNatClampNeg
                try have hs : DG ((f_t_forms p0.toNatClampNeg) <<< (p1.toInt64 &&& 63)) ≤ 39 := DG_shlx (by omega) (by omega) (by omega) (by decide) (by decide)
                try have hn := negT (a := p1) (by omega)
                try have hs : DG ((f_t_forms p0.toNatClampNeg) >>> ((-p1).toInt64 &&& 63)) ≤ 39 := Int.le_trans (DG_shr (by rw [hn]; omega) (by rw [hn]; omega) (by omega)) (by omega)
                refine ok_o3 (sp_X9_give c_t_acts f_t_forms p0 ((f_t_forms p0.toNatClampNeg) <<< (p1.toInt64 &&& 63)) (by first | omega | assumption | trivial | exact wt_of (by assumption) (by omega)) (by first | omega | assumption | trivial | exact wt_of (by assumption) (by omega)) (by first | omega | assumption | trivial | exact wt_of (by assumption) (by omega)) (by first | omega | assumption | trivial | exact wt_of (by assumption) (by omega))) (fun r96_7 c_t_acts_96_7 f_t_forms_96_7 h39 => ?_)
                have h39 : FA f_t_forms_96_7 := h39
                exact ok_s (show FA f_t_forms_96_7 from by first | omega | assumption | trivial | (refine ⟨?_, ?_⟩ <;> first | omega | assumption | trivial | rfl) | (refine ⟨?_, ?_, ?_⟩ <;> first | omega | assumption | trivial | rfl) | (refine ⟨?_, ?_, ?_, ?_⟩ <;> first | omega | assumption | trivial | rfl) | (refine ⟨?_, ?_, ?_, ?_, ?_⟩ <;> first | omega | assumption | trivial | rfl) | (refine ⟨?_, ?_, ?_, ?_, ?_, ?_⟩ <;> first | omega | assumption | trivial | rfl) | (refine ⟨?_, ?_, ?_, ?_, ?_, ?_, ?_⟩ <;> first | omega | assumption | trivial | rfl) | (refine ⟨?_, ?_, ?_, ?_, ?_, ?_, ?_, ?_⟩ <;> first | omega | assumption | trivial | rfl))
              · refine ok_c (ixo (by omega) (by omega)) ?_
                try have a40 := FA_at (f := f_t_forms) (by assumption) p0.toNatClampNeg
                try have hs : DG ((f_t_forms p0.toNatClampNeg) <<< (p1.toInt64 &&& 63)) ≤ 39 := DG_shlx (by omega) (by omega) (by omega) (by decide) (by decide)
                try have hn := negT (a := p1) (by omega)
                try have hs : DG ((f_t_forms p0.toNatClampNeg) >>> ((-p1).toInt64 &&& 63)) ≤ 39 := Int.le_trans (DG_shr (by rw [hn]; omega) (by rw [hn]; omega) (by omega)) (by omega)
                refine ok_o3 (sp_X9_give c_t_acts f_t_forms p0 ((f_t_forms p0.toNatClampNeg) >>> ((-p1).toInt64 &&& 63)) (by first | omega | assumption | trivial | exact wt_of (by assumption) (by omega)) (by first | omega | assumption | trivial | exact wt_of (by assumption) (by omega)) (by first | omega | assumption | trivial | exact wt_of (by assumption) (by omega)) (by first | omega | assumption | trivial | exact wt_of (by assumption) (by omega))) (fun r96_8 c_t_acts_96_8 f_t_forms_96_8 h41 => ?_)
                have h41 : FA f_t_forms_96_8 := h41
                exact ok_s (show FA f_t_forms_96_8 from by first | omega | assumption | trivial | (refine ⟨?_, ?_⟩ <;> first | omega | assumption | trivial | rfl) | (refine ⟨?_, ?_, ?_⟩ <;> first | omega | assumption | trivial | rfl) | (refine ⟨?_, ?_, ?_, ?_⟩ <;> first | omega | assumption | trivial | rfl) | (refine ⟨?_, ?_, ?_, ?_, ?_⟩ <;> first | omega | assumption | trivial | rfl) | (refine ⟨?_, ?_, ?_, ?_, ?_, ?_⟩ <;> first | omega | assumption | trivial | rfl) | (refine ⟨?_, ?_, ?_, ?_, ?_, ?_, ?_⟩ <;> first | omega | assumption | trivial | rfl) | (refine ⟨?_, ?_, ?_, ?_, ?_, ?_, ?_, ?_⟩ <;> first | omega | assumption | trivial | rfl))
            · refine ok_o2 (sp_X9_no c_t_refused ) (fun r66_2 c_t_refused_66_2 h42 => ?_)
              exact ok_s (show FA f_t_forms from by first | omega | assumption | trivial | (refine ⟨?_, ?_⟩ <;> first | omega | assumption | trivial | rfl) | (refine ⟨?_, ?_, ?_⟩ <;> first | omega | assumption | trivial | rfl) | (refine ⟨?_, ?_, ?_, ?_⟩ <;> first | omega | assumption | trivial | rfl) | (refine ⟨?_, ?_, ?_, ?_, ?_⟩ <;> first | omega | assumption | trivial | rfl) | (refine ⟨?_, ?_, ?_, ?_, ?_, ?_⟩ <;> first | omega | assumption | trivial | rfl) | (refine ⟨?_, ?_, ?_, ?_, ?_, ?_, ?_⟩ <;> first | omega | assumption | trivial | rfl) | (refine ⟨?_, ?_, ?_, ?_, ?_, ?_, ?_, ?_⟩ <;> first | omega | assumption | trivial | rfl))
        · exact ok_s (show FA f_t_forms from by first | omega | assumption | trivial | (refine ⟨?_, ?_⟩ <;> first | omega | assumption | trivial | rfl) | (refine ⟨?_, ?_, ?_⟩ <;> first | omega | assumption | trivial | rfl) | (refine ⟨?_, ?_, ?_, ?_⟩ <;> first | omega | assumption | trivial | rfl) | (refine ⟨?_, ?_, ?_, ?_, ?_⟩ <;> first | omega | assumption | trivial | rfl) | (refine ⟨?_, ?_, ?_, ?_, ?_, ?_⟩ <;> first | omega | assumption | trivial | rfl) | (refine ⟨?_, ?_, ?_, ?_, ?_, ?_, ?_⟩ <;> first | omega | assumption | trivial | rfl) | (refine ⟨?_, ?_, ?_, ?_, ?_, ?_, ?_, ?_⟩ <;> first | omega | assumption | trivial | rfl))
      · first | unfold J_X9_shift_25 | skip
        first | unfold J_X9_shift_30 | skip
        refine ok_o2 (sp_X9_isThrown (1 : Int32) (1 : Int32) ) (fun r30_3 c_t_thrown_30_3 h43 => ?_)
        have h43 : (r30_3.toInt = 0 ∧ c_t_thrown_30_3.toInt = 0 ∧ (1 : Int32).toInt = 0 ∧ (1 : Int32).toInt = 0) ∨ (r30_3.toInt = 1 ∧ c_t_thrown_30_3.toInt = 1 ∧ (1 : Int32).toInt ≠ 0) ∨ (r30_3.toInt = 1 ∧ c_t_thrown_30_3.toInt = 2 ∧ (1 : Int32).toInt = 0 ∧ (1 : Int32).toInt ≠ 0) := h43
        refine ok_eq (fun c44 => ?_) (fun c44 => ?_)
        · refine ok_c (ixo (by omega) (by omega)) ?_
          try have a46 := FA_at (f := f_t_forms) (by assumption) p0.toNatClampNeg
          have z_c45 := DG_z (f_t_forms p0.toNatClampNeg)
          refine ok_eqL (fun c45 => ?_) (fun c45 => ?_)
          · first | unfold J_X9_shift_70 | skip
            refine ok_le (fun c47 => ?_) (fun c47 => ?_)
            · refine ok_c (ixo (by omega) (by omega)) ?_
              try have a48 := FA_at (f := f_t_forms) (by assumption) p0.toNatClampNeg
              try have hs : DG ((f_t_forms p0.toNatClampNeg) <<< (p1.toInt64 &&& 63)) ≤ 39 := DG_shlx (by omega) (by omega) (by omega) (by decide) (by decide)
              try have hn := negT (a := p1) (by omega)
              try have hs : DG ((f_t_forms p0.toNatClampNeg) >>> ((-p1).toInt64 &&& 63)) ≤ 39 := Int.le_trans (DG_shr (by rw [hn]; omega) (by rw [hn]; omega) (by omega)) (by omega)
              refine ok_o3 (sp_X9_give c_t_acts f_t_forms p0 ((f_t_forms p0.toNatClampNeg) <<< (p1.toInt64 &&& 63)) (by first | omega | assumption | trivial | exact wt_of (by assumption) (by omega)) (by first | omega | assumption | trivial | exact wt_of (by assumption) (by omega)) (by first | omega | assumption | trivial | exact wt_of (by assumption) (by omega)) (by first | omega | assumption | trivial | exact wt_of (by assumption) (by omega))) (fun r96_9 c_t_acts_96_9 f_t_forms_96_9 h49 => ?_)
              have h49 : FA f_t_forms_96_9 := h49
              exact ok_s (show FA f_t_forms_96_9 from by first | omega | assumption | trivial | (refine ⟨?_, ?_⟩ <;> first | omega | assumption | trivial | rfl) | (refine ⟨?_, ?_, ?_⟩ <;> first | omega | assumption | trivial | rfl) | (refine ⟨?_, ?_, ?_, ?_⟩ <;> first | omega | assumption | trivial | rfl) | (refine ⟨?_, ?_, ?_, ?_, ?_⟩ <;> first | omega | assumption | trivial | rfl) | (refine ⟨?_, ?_, ?_, ?_, ?_, ?_⟩ <;> first | omega | assumption | trivial | rfl) | (refine ⟨?_, ?_, ?_, ?_, ?_, ?_, ?_⟩ <;> first | omega | assumption | trivial | rfl) | (refine ⟨?_, ?_, ?_, ?_, ?_, ?_, ?_, ?_⟩ <;> first | omega | assumption | trivial | rfl))
            · refine ok_c (ixo (by omega) (by omega)) ?_
              try have a50 := FA_at (f := f_t_forms) (by assumption) p0.toNatClampNeg
              try have hs : DG ((f_t_forms p0.toNatClampNeg) <<< (p1.toInt64 &&& 63)) ≤ 39 := DG_shlx (by omega) (by omega) (by omega) (by decide) (by decide)
              try have hn := negT (a := p1) (by omega)
              try have hs : DG ((f_t_forms p0.toNatClampNeg) >>> ((-p1).toInt64 &&& 63)) ≤ 39 := Int.le_trans (DG_shr (by rw [hn]; omega) (by rw [hn]; omega) (by omega)) (by omega)
              refine ok_o3 (sp_X9_give c_t_acts f_t_forms p0 ((f_t_forms p0.toNatClampNeg) >>> ((-p1).toInt64 &&& 63)) (by first | omega | assumption | trivial | exact wt_of (by assumption) (by omega)) (by first | omega | assumption | trivial | exact wt_of (by assumption) (by omega)) (by first | omega | assumption | trivial | exact wt_of (by assumption) (by omega)) (by first | omega | assumption | trivial | exact wt_of (by assumption) (by omega))) (fun r96_10 c_t_acts_96_10 f_t_forms_96_10 h51 => ?_)
              have h51 : FA f_t_forms_96_10 := h51
              exact ok_s (show FA f_t_forms_96_10 from by first | omega | assumption | trivial | (refine ⟨?_, ?_⟩ <;> first | omega | assumption | trivial | rfl) | (refine ⟨?_, ?_, ?_⟩ <;> first | omega | assumption | trivial | rfl) | (refine ⟨?_, ?_, ?_, ?_⟩ <;> first | omega | assumption | trivial | rfl) | (refine ⟨?_, ?_, ?_, ?_, ?_⟩ <;> first | omega | assumption | trivial | rfl) | (refine ⟨?_, ?_, ?_, ?_, ?_, ?_⟩ <;> first | omega | assumption | trivial | rfl) | (refine ⟨?_, ?_, ?_, ?_, ?_, ?_, ?_⟩ <;> first | omega | assumption | trivial | rfl) | (refine ⟨?_, ?_, ?_, ?_, ?_, ?_, ?_, ?_⟩ <;> first | omega | assumption | trivial | rfl))
          · refine ok_c (ixo (by omega) (by omega)) ?_
            try have a52 := FA_at (f := f_t_forms) (by assumption) p0.toNatClampNeg
            refine ok_o (sp_X9_degreeOf (f_t_forms p0.toNatClampNeg) ) (fun r55_3 h53 => ?_)
            have h53 : r55_3.toInt = DG (f_t_forms p0.toNatClampNeg) ∧ -1 ≤ r55_3.toInt ∧ r55_3.toInt ≤ 63 := h53
            obtain ⟨w54, e_w54⟩ : ∃ w : Int32, w = r55_3 + p1 := ⟨_, rfl⟩
            try have t_w54 : w54.toInt = r55_3.toInt + p1.toInt := by rw [e_w54]; exact addT1 (Eq.refl _) (by omega) (by omega)
            try rw [← e_w54]
            refine ok_lt (fun c55 => ?_) (fun c55 => ?_)
            · first | unfold J_X9_shift_70 | skip
              try rw [← e_w54]
              refine ok_le (fun c56 => ?_) (fun c56 => ?_)
              · refine ok_c (ixo (by omega) (by omega)) ?_
                try have a57 := FA_at (f := f_t_forms) (by assumption) p0.toNatClampNeg
                try have hs : DG ((f_t_forms p0.toNatClampNeg) <<< (p1.toInt64 &&& 63)) ≤ 39 := DG_shlx (by omega) (by omega) (by omega) (by decide) (by decide)
                try have hn := negT (a := p1) (by omega)
                try have hs : DG ((f_t_forms p0.toNatClampNeg) >>> ((-p1).toInt64 &&& 63)) ≤ 39 := Int.le_trans (DG_shr (by rw [hn]; omega) (by rw [hn]; omega) (by omega)) (by omega)
                refine ok_o3 (sp_X9_give c_t_acts f_t_forms p0 ((f_t_forms p0.toNatClampNeg) <<< (p1.toInt64 &&& 63)) (by first | omega | assumption | trivial | exact wt_of (by assumption) (by omega)) (by first | omega | assumption | trivial | exact wt_of (by assumption) (by omega)) (by first | omega | assumption | trivial | exact wt_of (by assumption) (by omega)) (by first | omega | assumption | trivial | exact wt_of (by assumption) (by omega))) (fun r96_11 c_t_acts_96_11 f_t_forms_96_11 h58 => ?_)
                have h58 : FA f_t_forms_96_11 := h58
                exact ok_s (show FA f_t_forms_96_11 from by first | omega | assumption | trivial | (refine ⟨?_, ?_⟩ <;> first | omega | assumption | trivial | rfl) | (refine ⟨?_, ?_, ?_⟩ <;> first | omega | assumption | trivial | rfl) | (refine ⟨?_, ?_, ?_, ?_⟩ <;> first | omega | assumption | trivial | rfl) | (refine ⟨?_, ?_, ?_, ?_, ?_⟩ <;> first | omega | assumption | trivial | rfl) | (refine ⟨?_, ?_, ?_, ?_, ?_, ?_⟩ <;> first | omega | assumption | trivial | rfl) | (refine ⟨?_, ?_, ?_, ?_, ?_, ?_, ?_⟩ <;> first | omega | assumption | trivial | rfl) | (refine ⟨?_, ?_, ?_, ?_, ?_, ?_, ?_, ?_⟩ <;> first | omega | assumption | trivial | rfl))
              · refine ok_c (ixo (by omega) (by omega)) ?_
                try have a59 := FA_at (f := f_t_forms) (by assumption) p0.toNatClampNeg
                try have hs : DG ((f_t_forms p0.toNatClampNeg) <<< (p1.toInt64 &&& 63)) ≤ 39 := DG_shlx (by omega) (by omega) (by omega) (by decide) (by decide)
                try have hn := negT (a := p1) (by omega)
                try have hs : DG ((f_t_forms p0.toNatClampNeg) >>> ((-p1).toInt64 &&& 63)) ≤ 39 := Int.le_trans (DG_shr (by rw [hn]; omega) (by rw [hn]; omega) (by omega)) (by omega)
                refine ok_o3 (sp_X9_give c_t_acts f_t_forms p0 ((f_t_forms p0.toNatClampNeg) >>> ((-p1).toInt64 &&& 63)) (by first | omega | assumption | trivial | exact wt_of (by assumption) (by omega)) (by first | omega | assumption | trivial | exact wt_of (by assumption) (by omega)) (by first | omega | assumption | trivial | exact wt_of (by assumption) (by omega)) (by first | omega | assumption | trivial | exact wt_of (by assumption) (by omega))) (fun r96_12 c_t_acts_96_12 f_t_forms_96_12 h60 => ?_)
                have h60 : FA f_t_forms_96_12 := h60
                exact ok_s (show FA f_t_forms_96_12 from by first | omega | assumption | trivial | (refine ⟨?_, ?_⟩ <;> first | omega | assumption | trivial | rfl) | (refine ⟨?_, ?_, ?_⟩ <;> first | omega | assumption | trivial | rfl) | (refine ⟨?_, ?_, ?_, ?_⟩ <;> first | omega | assumption | trivial | rfl) | (refine ⟨?_, ?_, ?_, ?_, ?_⟩ <;> first | omega | assumption | trivial | rfl) | (refine ⟨?_, ?_, ?_, ?_, ?_, ?_⟩ <;> first | omega | assumption | trivial | rfl) | (refine ⟨?_, ?_, ?_, ?_, ?_, ?_, ?_⟩ <;> first | omega | assumption | trivial | rfl) | (refine ⟨?_, ?_, ?_, ?_, ?_, ?_, ?_, ?_⟩ <;> first | omega | assumption | trivial | rfl))
            · refine ok_o2 (sp_X9_no c_t_refused ) (fun r66_3 c_t_refused_66_3 h61 => ?_)
              exact ok_s (show FA f_t_forms from by first | omega | assumption | trivial | (refine ⟨?_, ?_⟩ <;> first | omega | assumption | trivial | rfl) | (refine ⟨?_, ?_, ?_⟩ <;> first | omega | assumption | trivial | rfl) | (refine ⟨?_, ?_, ?_, ?_⟩ <;> first | omega | assumption | trivial | rfl) | (refine ⟨?_, ?_, ?_, ?_, ?_⟩ <;> first | omega | assumption | trivial | rfl) | (refine ⟨?_, ?_, ?_, ?_, ?_, ?_⟩ <;> first | omega | assumption | trivial | rfl) | (refine ⟨?_, ?_, ?_, ?_, ?_, ?_, ?_⟩ <;> first | omega | assumption | trivial | rfl) | (refine ⟨?_, ?_, ?_, ?_, ?_, ?_, ?_, ?_⟩ <;> first | omega | assumption | trivial | rfl))
        · exact ok_s (show FA f_t_forms from by first | omega | assumption | trivial | (refine ⟨?_, ?_⟩ <;> first | omega | assumption | trivial | rfl) | (refine ⟨?_, ?_, ?_⟩ <;> first | omega | assumption | trivial | rfl) | (refine ⟨?_, ?_, ?_, ?_⟩ <;> first | omega | assumption | trivial | rfl) | (refine ⟨?_, ?_, ?_, ?_, ?_⟩ <;> first | omega | assumption | trivial | rfl) | (refine ⟨?_, ?_, ?_, ?_, ?_, ?_⟩ <;> first | omega | assumption | trivial | rfl) | (refine ⟨?_, ?_, ?_, ?_, ?_, ?_, ?_⟩ <;> first | omega | assumption | trivial | rfl) | (refine ⟨?_, ?_, ?_, ?_, ?_, ?_, ?_, ?_⟩ <;> first | omega | assumption | trivial | rfl))
  · first | unfold J_X9_shift_13 | skip
    refine ok_le (fun c62 => ?_) (fun c62 => ?_)
    · first | unfold J_X9_shift_25 | skip
      first | unfold J_X9_shift_30 | skip
      refine ok_o2 (sp_X9_isThrown (0 : Int32) (1 : Int32) ) (fun r30_4 c_t_thrown_30_4 h63 => ?_)
      have h63 : (r30_4.toInt = 0 ∧ c_t_thrown_30_4.toInt = 0 ∧ (0 : Int32).toInt = 0 ∧ (1 : Int32).toInt = 0) ∨ (r30_4.toInt = 1 ∧ c_t_thrown_30_4.toInt = 1 ∧ (0 : Int32).toInt ≠ 0) ∨ (r30_4.toInt = 1 ∧ c_t_thrown_30_4.toInt = 2 ∧ (0 : Int32).toInt = 0 ∧ (1 : Int32).toInt ≠ 0) := h63
      refine ok_eq (fun c64 => ?_) (fun c64 => ?_)
      · refine ok_c (ixo (by omega) (by omega)) ?_
        try have a66 := FA_at (f := f_t_forms) (by assumption) p0.toNatClampNeg
        have z_c65 := DG_z (f_t_forms p0.toNatClampNeg)
        refine ok_eqL (fun c65 => ?_) (fun c65 => ?_)
        · first | unfold J_X9_shift_70 | skip
          refine ok_le (fun c67 => ?_) (fun c67 => ?_)
          · refine ok_c (ixo (by omega) (by omega)) ?_
            try have a68 := FA_at (f := f_t_forms) (by assumption) p0.toNatClampNeg
            try have hs : DG ((f_t_forms p0.toNatClampNeg) <<< (p1.toInt64 &&& 63)) ≤ 39 := DG_shlx (by omega) (by omega) (by omega) (by decide) (by decide)
            try have hn := negT (a := p1) (by omega)
            try have hs : DG ((f_t_forms p0.toNatClampNeg) >>> ((-p1).toInt64 &&& 63)) ≤ 39 := Int.le_trans (DG_shr (by rw [hn]; omega) (by rw [hn]; omega) (by omega)) (by omega)
            refine ok_o3 (sp_X9_give c_t_acts f_t_forms p0 ((f_t_forms p0.toNatClampNeg) <<< (p1.toInt64 &&& 63)) (by first | omega | assumption | trivial | exact wt_of (by assumption) (by omega)) (by first | omega | assumption | trivial | exact wt_of (by assumption) (by omega)) (by first | omega | assumption | trivial | exact wt_of (by assumption) (by omega)) (by first | omega | assumption | trivial | exact wt_of (by assumption) (by omega))) (fun r96_13 c_t_acts_96_13 f_t_forms_96_13 h69 => ?_)
            have h69 : FA f_t_forms_96_13 := h69
            exact ok_s (show FA f_t_forms_96_13 from by first | omega | assumption | trivial | (refine ⟨?_, ?_⟩ <;> first | omega | assumption | trivial | rfl) | (refine ⟨?_, ?_, ?_⟩ <;> first | omega | assumption | trivial | rfl) | (refine ⟨?_, ?_, ?_, ?_⟩ <;> first | omega | assumption | trivial | rfl) | (refine ⟨?_, ?_, ?_, ?_, ?_⟩ <;> first | omega | assumption | trivial | rfl) | (refine ⟨?_, ?_, ?_, ?_, ?_, ?_⟩ <;> first | omega | assumption | trivial | rfl) | (refine ⟨?_, ?_, ?_, ?_, ?_, ?_, ?_⟩ <;> first | omega | assumption | trivial | rfl) | (refine ⟨?_, ?_, ?_, ?_, ?_, ?_, ?_, ?_⟩ <;> first | omega | assumption | trivial | rfl))
          · refine ok_c (ixo (by omega) (by omega)) ?_
            try have a70 := FA_at (f := f_t_forms) (by assumption) p0.toNatClampNeg
            try have hs : DG ((f_t_forms p0.toNatClampNeg) <<< (p1.toInt64 &&& 63)) ≤ 39 := DG_shlx (by omega) (by omega) (by omega) (by decide) (by decide)
            try have hn := negT (a := p1) (by omega)
            try have hs : DG ((f_t_forms p0.toNatClampNeg) >>> ((-p1).toInt64 &&& 63)) ≤ 39 := Int.le_trans (DG_shr (by rw [hn]; omega) (by rw [hn]; omega) (by omega)) (by omega)
            refine ok_o3 (sp_X9_give c_t_acts f_t_forms p0 ((f_t_forms p0.toNatClampNeg) >>> ((-p1).toInt64 &&& 63)) (by first | omega | assumption | trivial | exact wt_of (by assumption) (by omega)) (by first | omega | assumption | trivial | exact wt_of (by assumption) (by omega)) (by first | omega | assumption | trivial | exact wt_of (by assumption) (by omega)) (by first | omega | assumption | trivial | exact wt_of (by assumption) (by omega))) (fun r96_14 c_t_acts_96_14 f_t_forms_96_14 h71 => ?_)
            have h71 : FA f_t_forms_96_14 := h71
            exact ok_s (show FA f_t_forms_96_14 from by first | omega | assumption | trivial | (refine ⟨?_, ?_⟩ <;> first | omega | assumption | trivial | rfl) | (refine ⟨?_, ?_, ?_⟩ <;> first | omega | assumption | trivial | rfl) | (refine ⟨?_, ?_, ?_, ?_⟩ <;> first | omega | assumption | trivial | rfl) | (refine ⟨?_, ?_, ?_, ?_, ?_⟩ <;> first | omega | assumption | trivial | rfl) | (refine ⟨?_, ?_, ?_, ?_, ?_, ?_⟩ <;> first | omega | assumption | trivial | rfl) | (refine ⟨?_, ?_, ?_, ?_, ?_, ?_, ?_⟩ <;> first | omega | assumption | trivial | rfl) | (refine ⟨?_, ?_, ?_, ?_, ?_, ?_, ?_, ?_⟩ <;> first | omega | assumption | trivial | rfl))
        · refine ok_c (ixo (by omega) (by omega)) ?_
          try have a72 := FA_at (f := f_t_forms) (by assumption) p0.toNatClampNeg
          refine ok_o (sp_X9_degreeOf (f_t_forms p0.toNatClampNeg) ) (fun r55_4 h73 => ?_)
          have h73 : r55_4.toInt = DG (f_t_forms p0.toNatClampNeg) ∧ -1 ≤ r55_4.toInt ∧ r55_4.toInt ≤ 63 := h73
          obtain ⟨w74, e_w74⟩ : ∃ w : Int32, w = r55_4 + p1 := ⟨_, rfl⟩
          try have t_w74 : w74.toInt = r55_4.toInt + p1.toInt := by rw [e_w74]; exact addT1 (Eq.refl _) (by omega) (by omega)
          try rw [← e_w74]
          refine ok_lt (fun c75 => ?_) (fun c75 => ?_)
          · first | unfold J_X9_shift_70 | skip
            try rw [← e_w74]
            refine ok_le (fun c76 => ?_) (fun c76 => ?_)
            · refine ok_c (ixo (by omega) (by omega)) ?_
              try have a77 := FA_at (f := f_t_forms) (by assumption) p0.toNatClampNeg
              try have hs : DG ((f_t_forms p0.toNatClampNeg) <<< (p1.toInt64 &&& 63)) ≤ 39 := DG_shlx (by omega) (by omega) (by omega) (by decide) (by decide)
              try have hn := negT (a := p1) (by omega)
              try have hs : DG ((f_t_forms p0.toNatClampNeg) >>> ((-p1).toInt64 &&& 63)) ≤ 39 := Int.le_trans (DG_shr (by rw [hn]; omega) (by rw [hn]; omega) (by omega)) (by omega)
              refine ok_o3 (sp_X9_give c_t_acts f_t_forms p0 ((f_t_forms p0.toNatClampNeg) <<< (p1.toInt64 &&& 63)) (by first | omega | assumption | trivial | exact wt_of (by assumption) (by omega)) (by first | omega | assumption | trivial | exact wt_of (by assumption) (by omega)) (by first | omega | assumption | trivial | exact wt_of (by assumption) (by omega)) (by first | omega | assumption | trivial | exact wt_of (by assumption) (by omega))) (fun r96_15 c_t_acts_96_15 f_t_forms_96_15 h78 => ?_)
              have h78 : FA f_t_forms_96_15 := h78
              exact ok_s (show FA f_t_forms_96_15 from by first | omega | assumption | trivial | (refine ⟨?_, ?_⟩ <;> first | omega | assumption | trivial | rfl) | (refine ⟨?_, ?_, ?_⟩ <;> first | omega | assumption | trivial | rfl) | (refine ⟨?_, ?_, ?_, ?_⟩ <;> first | omega | assumption | trivial | rfl) | (refine ⟨?_, ?_, ?_, ?_, ?_⟩ <;> first | omega | assumption | trivial | rfl) | (refine ⟨?_, ?_, ?_, ?_, ?_, ?_⟩ <;> first | omega | assumption | trivial | rfl) | (refine ⟨?_, ?_, ?_, ?_, ?_, ?_, ?_⟩ <;> first | omega | assumption | trivial | rfl) | (refine ⟨?_, ?_, ?_, ?_, ?_, ?_, ?_, ?_⟩ <;> first | omega | assumption | trivial | rfl))
            · refine ok_c (ixo (by omega) (by omega)) ?_
              try have a79 := FA_at (f := f_t_forms) (by assumption) p0.toNatClampNeg
              try have hs : DG ((f_t_forms p0.toNatClampNeg) <<< (p1.toInt64 &&& 63)) ≤ 39 := DG_shlx (by omega) (by omega) (by omega) (by decide) (by decide)
              try have hn := negT (a := p1) (by omega)
              try have hs : DG ((f_t_forms p0.toNatClampNeg) >>> ((-p1).toInt64 &&& 63)) ≤ 39 := Int.le_trans (DG_shr (by rw [hn]; omega) (by rw [hn]; omega) (by omega)) (by omega)
              refine ok_o3 (sp_X9_give c_t_acts f_t_forms p0 ((f_t_forms p0.toNatClampNeg) >>> ((-p1).toInt64 &&& 63)) (by first | omega | assumption | trivial | exact wt_of (by assumption) (by omega)) (by first | omega | assumption | trivial | exact wt_of (by assumption) (by omega)) (by first | omega | assumption | trivial | exact wt_of (by assumption) (by omega)) (by first | omega | assumption | trivial | exact wt_of (by assumption) (by omega))) (fun r96_16 c_t_acts_96_16 f_t_forms_96_16 h80 => ?_)
              have h80 : FA f_t_forms_96_16 := h80
              exact ok_s (show FA f_t_forms_96_16 from by first | omega | assumption | trivial | (refine ⟨?_, ?_⟩ <;> first | omega | assumption | trivial | rfl) | (refine ⟨?_, ?_, ?_⟩ <;> first | omega | assumption | trivial | rfl) | (refine ⟨?_, ?_, ?_, ?_⟩ <;> first | omega | assumption | trivial | rfl) | (refine ⟨?_, ?_, ?_, ?_, ?_⟩ <;> first | omega | assumption | trivial | rfl) | (refine ⟨?_, ?_, ?_, ?_, ?_, ?_⟩ <;> first | omega | assumption | trivial | rfl) | (refine ⟨?_, ?_, ?_, ?_, ?_, ?_, ?_⟩ <;> first | omega | assumption | trivial | rfl) | (refine ⟨?_, ?_, ?_, ?_, ?_, ?_, ?_, ?_⟩ <;> first | omega | assumption | trivial | rfl))
          · refine ok_o2 (sp_X9_no c_t_refused ) (fun r66_4 c_t_refused_66_4 h81 => ?_)
            exact ok_s (show FA f_t_forms from by first | omega | assumption | trivial | (refine ⟨?_, ?_⟩ <;> first | omega | assumption | trivial | rfl) | (refine ⟨?_, ?_, ?_⟩ <;> first | omega | assumption | trivial | rfl) | (refine ⟨?_, ?_, ?_, ?_⟩ <;> first | omega | assumption | trivial | rfl) | (refine ⟨?_, ?_, ?_, ?_, ?_⟩ <;> first | omega | assumption | trivial | rfl) | (refine ⟨?_, ?_, ?_, ?_, ?_, ?_⟩ <;> first | omega | assumption | trivial | rfl) | (refine ⟨?_, ?_, ?_, ?_, ?_, ?_, ?_⟩ <;> first | omega | assumption | trivial | rfl) | (refine ⟨?_, ?_, ?_, ?_, ?_, ?_, ?_, ?_⟩ <;> first | omega | assumption | trivial | rfl))
      · exact ok_s (show FA f_t_forms from by first | omega | assumption | trivial | (refine ⟨?_, ?_⟩ <;> first | omega | assumption | trivial | rfl) | (refine ⟨?_, ?_, ?_⟩ <;> first | omega | assumption | trivial | rfl) | (refine ⟨?_, ?_, ?_, ?_⟩ <;> first | omega | assumption | trivial | rfl) | (refine ⟨?_, ?_, ?_, ?_, ?_⟩ <;> first | omega | assumption | trivial | rfl) | (refine ⟨?_, ?_, ?_, ?_, ?_, ?_⟩ <;> first | omega | assumption | trivial | rfl) | (refine ⟨?_, ?_, ?_, ?_, ?_, ?_, ?_⟩ <;> first | omega | assumption | trivial | rfl) | (refine ⟨?_, ?_, ?_, ?_, ?_, ?_, ?_, ?_⟩ <;> first | omega | assumption | trivial | rfl))
    · refine ok_lt (fun c82 => ?_) (fun c82 => ?_)
      · first | unfold J_X9_shift_30 | skip
        refine ok_o2 (sp_X9_isThrown (0 : Int32) (0 : Int32) ) (fun r30_5 c_t_thrown_30_5 h83 => ?_)
        have h83 : (r30_5.toInt = 0 ∧ c_t_thrown_30_5.toInt = 0 ∧ (0 : Int32).toInt = 0 ∧ (0 : Int32).toInt = 0) ∨ (r30_5.toInt = 1 ∧ c_t_thrown_30_5.toInt = 1 ∧ (0 : Int32).toInt ≠ 0) ∨ (r30_5.toInt = 1 ∧ c_t_thrown_30_5.toInt = 2 ∧ (0 : Int32).toInt = 0 ∧ (0 : Int32).toInt ≠ 0) := h83
        refine ok_eq (fun c84 => ?_) (fun c84 => ?_)
        · refine ok_c (ixo (by omega) (by omega)) ?_
          try have a86 := FA_at (f := f_t_forms) (by assumption) p0.toNatClampNeg
          have z_c85 := DG_z (f_t_forms p0.toNatClampNeg)
          refine ok_eqL (fun c85 => ?_) (fun c85 => ?_)
          · first | unfold J_X9_shift_70 | skip
            refine ok_le (fun c87 => ?_) (fun c87 => ?_)
            · refine ok_c (ixo (by omega) (by omega)) ?_
              try have a88 := FA_at (f := f_t_forms) (by assumption) p0.toNatClampNeg
              try have hs : DG ((f_t_forms p0.toNatClampNeg) <<< (p1.toInt64 &&& 63)) ≤ 39 := DG_shlx (by omega) (by omega) (by omega) (by decide) (by decide)
              try have hn := negT (a := p1) (by omega)
              try have hs : DG ((f_t_forms p0.toNatClampNeg) >>> ((-p1).toInt64 &&& 63)) ≤ 39 := Int.le_trans (DG_shr (by rw [hn]; omega) (by rw [hn]; omega) (by omega)) (by omega)
              refine ok_o3 (sp_X9_give c_t_acts f_t_forms p0 ((f_t_forms p0.toNatClampNeg) <<< (p1.toInt64 &&& 63)) (by first | omega | assumption | trivial | exact wt_of (by assumption) (by omega)) (by first | omega | assumption | trivial | exact wt_of (by assumption) (by omega)) (by first | omega | assumption | trivial | exact wt_of (by assumption) (by omega)) (by first | omega | assumption | trivial | exact wt_of (by assumption) (by omega))) (fun r96_17 c_t_acts_96_17 f_t_forms_96_17 h89 => ?_)
              have h89 : FA f_t_forms_96_17 := h89
              exact ok_s (show FA f_t_forms_96_17 from by first | omega | assumption | trivial | (refine ⟨?_, ?_⟩ <;> first | omega | assumption | trivial | rfl) | (refine ⟨?_, ?_, ?_⟩ <;> first | omega | assumption | trivial | rfl) | (refine ⟨?_, ?_, ?_, ?_⟩ <;> first | omega | assumption | trivial | rfl) | (refine ⟨?_, ?_, ?_, ?_, ?_⟩ <;> first | omega | assumption | trivial | rfl) | (refine ⟨?_, ?_, ?_, ?_, ?_, ?_⟩ <;> first | omega | assumption | trivial | rfl) | (refine ⟨?_, ?_, ?_, ?_, ?_, ?_, ?_⟩ <;> first | omega | assumption | trivial | rfl) | (refine ⟨?_, ?_, ?_, ?_, ?_, ?_, ?_, ?_⟩ <;> first | omega | assumption | trivial | rfl))
            · refine ok_c (ixo (by omega) (by omega)) ?_
              try have a90 := FA_at (f := f_t_forms) (by assumption) p0.toNatClampNeg
              try have hs : DG ((f_t_forms p0.toNatClampNeg) <<< (p1.toInt64 &&& 63)) ≤ 39 := DG_shlx (by omega) (by omega) (by omega) (by decide) (by decide)
              try have hn := negT (a := p1) (by omega)
              try have hs : DG ((f_t_forms p0.toNatClampNeg) >>> ((-p1).toInt64 &&& 63)) ≤ 39 := Int.le_trans (DG_shr (by rw [hn]; omega) (by rw [hn]; omega) (by omega)) (by omega)
              refine ok_o3 (sp_X9_give c_t_acts f_t_forms p0 ((f_t_forms p0.toNatClampNeg) >>> ((-p1).toInt64 &&& 63)) (by first | omega | assumption | trivial | exact wt_of (by assumption) (by omega)) (by first | omega | assumption | trivial | exact wt_of (by assumption) (by omega)) (by first | omega | assumption | trivial | exact wt_of (by assumption) (by omega)) (by first | omega | assumption | trivial | exact wt_of (by assumption) (by omega))) (fun r96_18 c_t_acts_96_18 f_t_forms_96_18 h91 => ?_)
              have h91 : FA f_t_forms_96_18 := h91
              exact ok_s (show FA f_t_forms_96_18 from by first | omega | assumption | trivial | (refine ⟨?_, ?_⟩ <;> first | omega | assumption | trivial | rfl) | (refine ⟨?_, ?_, ?_⟩ <;> first | omega | assumption | trivial | rfl) | (refine ⟨?_, ?_, ?_, ?_⟩ <;> first | omega | assumption | trivial | rfl) | (refine ⟨?_, ?_, ?_, ?_, ?_⟩ <;> first | omega | assumption | trivial | rfl) | (refine ⟨?_, ?_, ?_, ?_, ?_, ?_⟩ <;> first | omega | assumption | trivial | rfl) | (refine ⟨?_, ?_, ?_, ?_, ?_, ?_, ?_⟩ <;> first | omega | assumption | trivial | rfl) | (refine ⟨?_, ?_, ?_, ?_, ?_, ?_, ?_, ?_⟩ <;> first | omega | assumption | trivial | rfl))
          · refine ok_c (ixo (by omega) (by omega)) ?_
            try have a92 := FA_at (f := f_t_forms) (by assumption) p0.toNatClampNeg
            refine ok_o (sp_X9_degreeOf (f_t_forms p0.toNatClampNeg) ) (fun r55_5 h93 => ?_)
            have h93 : r55_5.toInt = DG (f_t_forms p0.toNatClampNeg) ∧ -1 ≤ r55_5.toInt ∧ r55_5.toInt ≤ 63 := h93
            obtain ⟨w94, e_w94⟩ : ∃ w : Int32, w = r55_5 + p1 := ⟨_, rfl⟩
            try have t_w94 : w94.toInt = r55_5.toInt + p1.toInt := by rw [e_w94]; exact addT1 (Eq.refl _) (by omega) (by omega)
            try rw [← e_w94]
            refine ok_lt (fun c95 => ?_) (fun c95 => ?_)
            · first | unfold J_X9_shift_70 | skip
              try rw [← e_w94]
              refine ok_le (fun c96 => ?_) (fun c96 => ?_)
              · refine ok_c (ixo (by omega) (by omega)) ?_
                try have a97 := FA_at (f := f_t_forms) (by assumption) p0.toNatClampNeg
                try have hs : DG ((f_t_forms p0.toNatClampNeg) <<< (p1.toInt64 &&& 63)) ≤ 39 := DG_shlx (by omega) (by omega) (by omega) (by decide) (by decide)
                try have hn := negT (a := p1) (by omega)
                try have hs : DG ((f_t_forms p0.toNatClampNeg) >>> ((-p1).toInt64 &&& 63)) ≤ 39 := Int.le_trans (DG_shr (by rw [hn]; omega) (by rw [hn]; omega) (by omega)) (by omega)
                refine ok_o3 (sp_X9_give c_t_acts f_t_forms p0 ((f_t_forms p0.toNatClampNeg) <<< (p1.toInt64 &&& 63)) (by first | omega | assumption | trivial | exact wt_of (by assumption) (by omega)) (by first | omega | assumption | trivial | exact wt_of (by assumption) (by omega)) (by first | omega | assumption | trivial | exact wt_of (by assumption) (by omega)) (by first | omega | assumption | trivial | exact wt_of (by assumption) (by omega))) (fun r96_19 c_t_acts_96_19 f_t_forms_96_19 h98 => ?_)
                have h98 : FA f_t_forms_96_19 := h98
                exact ok_s (show FA f_t_forms_96_19 from by first | omega | assumption | trivial | (refine ⟨?_, ?_⟩ <;> first | omega | assumption | trivial | rfl) | (refine ⟨?_, ?_, ?_⟩ <;> first | omega | assumption | trivial | rfl) | (refine ⟨?_, ?_, ?_, ?_⟩ <;> first | omega | assumption | trivial | rfl) | (refine ⟨?_, ?_, ?_, ?_, ?_⟩ <;> first | omega | assumption | trivial | rfl) | (refine ⟨?_, ?_, ?_, ?_, ?_, ?_⟩ <;> first | omega | assumption | trivial | rfl) | (refine ⟨?_, ?_, ?_, ?_, ?_, ?_, ?_⟩ <;> first | omega | assumption | trivial | rfl) | (refine ⟨?_, ?_, ?_, ?_, ?_, ?_, ?_, ?_⟩ <;> first | omega | assumption | trivial | rfl))
              · refine ok_c (ixo (by omega) (by omega)) ?_
                try have a99 := FA_at (f := f_t_forms) (by assumption) p0.toNatClampNeg
                try have hs : DG ((f_t_forms p0.toNatClampNeg) <<< (p1.toInt64 &&& 63)) ≤ 39 := DG_shlx (by omega) (by omega) (by omega) (by decide) (by decide)
                try have hn := negT (a := p1) (by omega)
                try have hs : DG ((f_t_forms p0.toNatClampNeg) >>> ((-p1).toInt64 &&& 63)) ≤ 39 := Int.le_trans (DG_shr (by rw [hn]; omega) (by rw [hn]; omega) (by omega)) (by omega)
                refine ok_o3 (sp_X9_give c_t_acts f_t_forms p0 ((f_t_forms p0.toNatClampNeg) >>> ((-p1).toInt64 &&& 63)) (by first | omega | assumption | trivial | exact wt_of (by assumption) (by omega)) (by first | omega | assumption | trivial | exact wt_of (by assumption) (by omega)) (by first | omega | assumption | trivial | exact wt_of (by assumption) (by omega)) (by first | omega | assumption | trivial | exact wt_of (by assumption) (by omega))) (fun r96_20 c_t_acts_96_20 f_t_forms_96_20 h100 => ?_)
                have h100 : FA f_t_forms_96_20 := h100
                exact ok_s (show FA f_t_forms_96_20 from by first | omega | assumption | trivial | (refine ⟨?_, ?_⟩ <;> first | omega | assumption | trivial | rfl) | (refine ⟨?_, ?_, ?_⟩ <;> first | omega | assumption | trivial | rfl) | (refine ⟨?_, ?_, ?_, ?_⟩ <;> first | omega | assumption | trivial | rfl) | (refine ⟨?_, ?_, ?_, ?_, ?_⟩ <;> first | omega | assumption | trivial | rfl) | (refine ⟨?_, ?_, ?_, ?_, ?_, ?_⟩ <;> first | omega | assumption | trivial | rfl) | (refine ⟨?_, ?_, ?_, ?_, ?_, ?_, ?_⟩ <;> first | omega | assumption | trivial | rfl) | (refine ⟨?_, ?_, ?_, ?_, ?_, ?_, ?_, ?_⟩ <;> first | omega | assumption | trivial | rfl))
            · refine ok_o2 (sp_X9_no c_t_refused ) (fun r66_5 c_t_refused_66_5 h101 => ?_)
              exact ok_s (show FA f_t_forms from by first | omega | assumption | trivial | (refine ⟨?_, ?_⟩ <;> first | omega | assumption | trivial | rfl) | (refine ⟨?_, ?_, ?_⟩ <;> first | omega | assumption | trivial | rfl) | (refine ⟨?_, ?_, ?_, ?_⟩ <;> first | omega | assumption | trivial | rfl) | (refine ⟨?_, ?_, ?_, ?_, ?_⟩ <;> first | omega | assumption | trivial | rfl) | (refine ⟨?_, ?_, ?_, ?_, ?_, ?_⟩ <;> first | omega | assumption | trivial | rfl) | (refine ⟨?_, ?_, ?_, ?_, ?_, ?_, ?_⟩ <;> first | omega | assumption | trivial | rfl) | (refine ⟨?_, ?_, ?_, ?_, ?_, ?_, ?_, ?_⟩ <;> first | omega | assumption | trivial | rfl))
        · exact ok_s (show FA f_t_forms from by first | omega | assumption | trivial | (refine ⟨?_, ?_⟩ <;> first | omega | assumption | trivial | rfl) | (refine ⟨?_, ?_, ?_⟩ <;> first | omega | assumption | trivial | rfl) | (refine ⟨?_, ?_, ?_, ?_⟩ <;> first | omega | assumption | trivial | rfl) | (refine ⟨?_, ?_, ?_, ?_, ?_⟩ <;> first | omega | assumption | trivial | rfl) | (refine ⟨?_, ?_, ?_, ?_, ?_, ?_⟩ <;> first | omega | assumption | trivial | rfl) | (refine ⟨?_, ?_, ?_, ?_, ?_, ?_, ?_⟩ <;> first | omega | assumption | trivial | rfl) | (refine ⟨?_, ?_, ?_, ?_, ?_, ?_, ?_, ?_⟩ <;> first | omega | assumption | trivial | rfl))
      · first | unfold J_X9_shift_25 | skip
        first | unfold J_X9_shift_30 | skip
        refine ok_o2 (sp_X9_isThrown (0 : Int32) (1 : Int32) ) (fun r30_6 c_t_thrown_30_6 h102 => ?_)
        have h102 : (r30_6.toInt = 0 ∧ c_t_thrown_30_6.toInt = 0 ∧ (0 : Int32).toInt = 0 ∧ (1 : Int32).toInt = 0) ∨ (r30_6.toInt = 1 ∧ c_t_thrown_30_6.toInt = 1 ∧ (0 : Int32).toInt ≠ 0) ∨ (r30_6.toInt = 1 ∧ c_t_thrown_30_6.toInt = 2 ∧ (0 : Int32).toInt = 0 ∧ (1 : Int32).toInt ≠ 0) := h102
        refine ok_eq (fun c103 => ?_) (fun c103 => ?_)
        · refine ok_c (ixo (by omega) (by omega)) ?_
          try have a105 := FA_at (f := f_t_forms) (by assumption) p0.toNatClampNeg
          have z_c104 := DG_z (f_t_forms p0.toNatClampNeg)
          refine ok_eqL (fun c104 => ?_) (fun c104 => ?_)
          · first | unfold J_X9_shift_70 | skip
            refine ok_le (fun c106 => ?_) (fun c106 => ?_)
            · refine ok_c (ixo (by omega) (by omega)) ?_
              try have a107 := FA_at (f := f_t_forms) (by assumption) p0.toNatClampNeg
              try have hs : DG ((f_t_forms p0.toNatClampNeg) <<< (p1.toInt64 &&& 63)) ≤ 39 := DG_shlx (by omega) (by omega) (by omega) (by decide) (by decide)
              try have hn := negT (a := p1) (by omega)
              try have hs : DG ((f_t_forms p0.toNatClampNeg) >>> ((-p1).toInt64 &&& 63)) ≤ 39 := Int.le_trans (DG_shr (by rw [hn]; omega) (by rw [hn]; omega) (by omega)) (by omega)
              refine ok_o3 (sp_X9_give c_t_acts f_t_forms p0 ((f_t_forms p0.toNatClampNeg) <<< (p1.toInt64 &&& 63)) (by first | omega | assumption | trivial | exact wt_of (by assumption) (by omega)) (by first | omega | assumption | trivial | exact wt_of (by assumption) (by omega)) (by first | omega | assumption | trivial | exact wt_of (by assumption) (by omega)) (by first | omega | assumption | trivial | exact wt_of (by assumption) (by omega))) (fun r96_21 c_t_acts_96_21 f_t_forms_96_21 h108 => ?_)
              have h108 : FA f_t_forms_96_21 := h108
              exact ok_s (show FA f_t_forms_96_21 from by first | omega | assumption | trivial | (refine ⟨?_, ?_⟩ <;> first | omega | assumption | trivial | rfl) | (refine ⟨?_, ?_, ?_⟩ <;> first | omega | assumption | trivial | rfl) | (refine ⟨?_, ?_, ?_, ?_⟩ <;> first | omega | assumption | trivial | rfl) | (refine ⟨?_, ?_, ?_, ?_, ?_⟩ <;> first | omega | assumption | trivial | rfl) | (refine ⟨?_, ?_, ?_, ?_, ?_, ?_⟩ <;> first | omega | assumption | trivial | rfl) | (refine ⟨?_, ?_, ?_, ?_, ?_, ?_, ?_⟩ <;> first | omega | assumption | trivial | rfl) | (refine ⟨?_, ?_, ?_, ?_, ?_, ?_, ?_, ?_⟩ <;> first | omega | assumption | trivial | rfl))
            · refine ok_c (ixo (by omega) (by omega)) ?_
              try have a109 := FA_at (f := f_t_forms) (by assumption) p0.toNatClampNeg
              try have hs : DG ((f_t_forms p0.toNatClampNeg) <<< (p1.toInt64 &&& 63)) ≤ 39 := DG_shlx (by omega) (by omega) (by omega) (by decide) (by decide)
              try have hn := negT (a := p1) (by omega)
              try have hs : DG ((f_t_forms p0.toNatClampNeg) >>> ((-p1).toInt64 &&& 63)) ≤ 39 := Int.le_trans (DG_shr (by rw [hn]; omega) (by rw [hn]; omega) (by omega)) (by omega)
              refine ok_o3 (sp_X9_give c_t_acts f_t_forms p0 ((f_t_forms p0.toNatClampNeg) >>> ((-p1).toInt64 &&& 63)) (by first | omega | assumption | trivial | exact wt_of (by assumption) (by omega)) (by first | omega | assumption | trivial | exact wt_of (by assumption) (by omega)) (by first | omega | assumption | trivial | exact wt_of (by assumption) (by omega)) (by first | omega | assumption | trivial | exact wt_of (by assumption) (by omega))) (fun r96_22 c_t_acts_96_22 f_t_forms_96_22 h110 => ?_)
              have h110 : FA f_t_forms_96_22 := h110
              exact ok_s (show FA f_t_forms_96_22 from by first | omega | assumption | trivial | (refine ⟨?_, ?_⟩ <;> first | omega | assumption | trivial | rfl) | (refine ⟨?_, ?_, ?_⟩ <;> first | omega | assumption | trivial | rfl) | (refine ⟨?_, ?_, ?_, ?_⟩ <;> first | omega | assumption | trivial | rfl) | (refine ⟨?_, ?_, ?_, ?_, ?_⟩ <;> first | omega | assumption | trivial | rfl) | (refine ⟨?_, ?_, ?_, ?_, ?_, ?_⟩ <;> first | omega | assumption | trivial | rfl) | (refine ⟨?_, ?_, ?_, ?_, ?_, ?_, ?_⟩ <;> first | omega | assumption | trivial | rfl) | (refine ⟨?_, ?_, ?_, ?_, ?_, ?_, ?_, ?_⟩ <;> first | omega | assumption | trivial | rfl))
          · refine ok_c (ixo (by omega) (by omega)) ?_
            try have a111 := FA_at (f := f_t_forms) (by assumption) p0.toNatClampNeg
            refine ok_o (sp_X9_degreeOf (f_t_forms p0.toNatClampNeg) ) (fun r55_6 h112 => ?_)
            have h112 : r55_6.toInt = DG (f_t_forms p0.toNatClampNeg) ∧ -1 ≤ r55_6.toInt ∧ r55_6.toInt ≤ 63 := h112
            obtain ⟨w113, e_w113⟩ : ∃ w : Int32, w = r55_6 + p1 := ⟨_, rfl⟩
            try have t_w113 : w113.toInt = r55_6.toInt + p1.toInt := by rw [e_w113]; exact addT1 (Eq.refl _) (by omega) (by omega)
            try rw [← e_w113]
            refine ok_lt (fun c114 => ?_) (fun c114 => ?_)
            · first | unfold J_X9_shift_70 | skip
              try rw [← e_w113]
              refine ok_le (fun c115 => ?_) (fun c115 => ?_)
              · refine ok_c (ixo (by omega) (by omega)) ?_
                try have a116 := FA_at (f := f_t_forms) (by assumption) p0.toNatClampNeg
                try have hs : DG ((f_t_forms p0.toNatClampNeg) <<< (p1.toInt64 &&& 63)) ≤ 39 := DG_shlx (by omega) (by omega) (by omega) (by decide) (by decide)
                try have hn := negT (a := p1) (by omega)
                try have hs : DG ((f_t_forms p0.toNatClampNeg) >>> ((-p1).toInt64 &&& 63)) ≤ 39 := Int.le_trans (DG_shr (by rw [hn]; omega) (by rw [hn]; omega) (by omega)) (by omega)
                refine ok_o3 (sp_X9_give c_t_acts f_t_forms p0 ((f_t_forms p0.toNatClampNeg) <<< (p1.toInt64 &&& 63)) (by first | omega | assumption | trivial | exact wt_of (by assumption) (by omega)) (by first | omega | assumption | trivial | exact wt_of (by assumption) (by omega)) (by first | omega | assumption | trivial | exact wt_of (by assumption) (by omega)) (by first | omega | assumption | trivial | exact wt_of (by assumption) (by omega))) (fun r96_23 c_t_acts_96_23 f_t_forms_96_23 h117 => ?_)
                have h117 : FA f_t_forms_96_23 := h117
                exact ok_s (show FA f_t_forms_96_23 from by first | omega | assumption | trivial | (refine ⟨?_, ?_⟩ <;> first | omega | assumption | trivial | rfl) | (refine ⟨?_, ?_, ?_⟩ <;> first | omega | assumption | trivial | rfl) | (refine ⟨?_, ?_, ?_, ?_⟩ <;> first | omega | assumption | trivial | rfl) | (refine ⟨?_, ?_, ?_, ?_, ?_⟩ <;> first | omega | assumption | trivial | rfl) | (refine ⟨?_, ?_, ?_, ?_, ?_, ?_⟩ <;> first | omega | assumption | trivial | rfl) | (refine ⟨?_, ?_, ?_, ?_, ?_, ?_, ?_⟩ <;> first | omega | assumption | trivial | rfl) | (refine ⟨?_, ?_, ?_, ?_, ?_, ?_, ?_, ?_⟩ <;> first | omega | assumption | trivial | rfl))
              · refine ok_c (ixo (by omega) (by omega)) ?_
                try have a118 := FA_at (f := f_t_forms) (by assumption) p0.toNatClampNeg
                try have hs : DG ((f_t_forms p0.toNatClampNeg) <<< (p1.toInt64 &&& 63)) ≤ 39 := DG_shlx (by omega) (by omega) (by omega) (by decide) (by decide)
                try have hn := negT (a := p1) (by omega)
                try have hs : DG ((f_t_forms p0.toNatClampNeg) >>> ((-p1).toInt64 &&& 63)) ≤ 39 := Int.le_trans (DG_shr (by rw [hn]; omega) (by rw [hn]; omega) (by omega)) (by omega)
                refine ok_o3 (sp_X9_give c_t_acts f_t_forms p0 ((f_t_forms p0.toNatClampNeg) >>> ((-p1).toInt64 &&& 63)) (by first | omega | assumption | trivial | exact wt_of (by assumption) (by omega)) (by first | omega | assumption | trivial | exact wt_of (by assumption) (by omega)) (by first | omega | assumption | trivial | exact wt_of (by assumption) (by omega)) (by first | omega | assumption | trivial | exact wt_of (by assumption) (by omega))) (fun r96_24 c_t_acts_96_24 f_t_forms_96_24 h119 => ?_)
                have h119 : FA f_t_forms_96_24 := h119
                exact ok_s (show FA f_t_forms_96_24 from by first | omega | assumption | trivial | (refine ⟨?_, ?_⟩ <;> first | omega | assumption | trivial | rfl) | (refine ⟨?_, ?_, ?_⟩ <;> first | omega | assumption | trivial | rfl) | (refine ⟨?_, ?_, ?_, ?_⟩ <;> first | omega | assumption | trivial | rfl) | (refine ⟨?_, ?_, ?_, ?_, ?_⟩ <;> first | omega | assumption | trivial | rfl) | (refine ⟨?_, ?_, ?_, ?_, ?_, ?_⟩ <;> first | omega | assumption | trivial | rfl) | (refine ⟨?_, ?_, ?_, ?_, ?_, ?_, ?_⟩ <;> first | omega | assumption | trivial | rfl) | (refine ⟨?_, ?_, ?_, ?_, ?_, ?_, ?_, ?_⟩ <;> first | omega | assumption | trivial | rfl))
            · refine ok_o2 (sp_X9_no c_t_refused ) (fun r66_6 c_t_refused_66_6 h120 => ?_)
              exact ok_s (show FA f_t_forms from by first | omega | assumption | trivial | (refine ⟨?_, ?_⟩ <;> first | omega | assumption | trivial | rfl) | (refine ⟨?_, ?_, ?_⟩ <;> first | omega | assumption | trivial | rfl) | (refine ⟨?_, ?_, ?_, ?_⟩ <;> first | omega | assumption | trivial | rfl) | (refine ⟨?_, ?_, ?_, ?_, ?_⟩ <;> first | omega | assumption | trivial | rfl) | (refine ⟨?_, ?_, ?_, ?_, ?_, ?_⟩ <;> first | omega | assumption | trivial | rfl) | (refine ⟨?_, ?_, ?_, ?_, ?_, ?_, ?_⟩ <;> first | omega | assumption | trivial | rfl) | (refine ⟨?_, ?_, ?_, ?_, ?_, ?_, ?_, ?_⟩ <;> first | omega | assumption | trivial | rfl))
        · exact ok_s (show FA f_t_forms from by first | omega | assumption | trivial | (refine ⟨?_, ?_⟩ <;> first | omega | assumption | trivial | rfl) | (refine ⟨?_, ?_, ?_⟩ <;> first | omega | assumption | trivial | rfl) | (refine ⟨?_, ?_, ?_, ?_⟩ <;> first | omega | assumption | trivial | rfl) | (refine ⟨?_, ?_, ?_, ?_, ?_⟩ <;> first | omega | assumption | trivial | rfl) | (refine ⟨?_, ?_, ?_, ?_, ?_, ?_⟩ <;> first | omega | assumption | trivial | rfl) | (refine ⟨?_, ?_, ?_, ?_, ?_, ?_, ?_⟩ <;> first | omega | assumption | trivial | rfl) | (refine ⟨?_, ?_, ?_, ?_, ?_, ?_, ?_, ?_⟩ <;> first | omega | assumption | trivial | rfl))
set_option maxHeartbeats 1000000 in
theorem sp_X9_turn (c_t_acts : Int32) (f_t_forms : Nat → Int64) (p0 : Int32) (hp0 : FA f_t_forms) : ok (F_X9_turn c_t_acts f_t_forms p0) (fun r => FA r.2.2.2) := by
  have l032 : (0 : Int32).toInt = 0 := by decide
  have l132 : (1 : Int32).toInt = 1 := by decide
  unfold F_X9_turn
  refine ok_o (sp_X9_isForm p0 ) (fun r2 h1 => ?_)
  have h1 : (r2.toInt = 1 ∧ 0 ≤ p0.toInt ∧ p0.toInt ≤ 5) ∨ (r2.toInt = 0 ∧ (p0.toInt < 0 ∨ 6 ≤ p0.toInt)) := h1
  refine ok_eq (fun c2 => ?_) (fun c2 => ?_)
  · refine ok_o2 (sp_X9_isThrown_ (1 : Int32) ) (fun r13 c_t_thrown_13 h3 => ?_)
    have h3 : (r13.toInt = 0 ∧ c_t_thrown_13.toInt = 0 ∧ (1 : Int32).toInt = 0) ∨ (r13.toInt = 1 ∧ c_t_thrown_13.toInt = 1 ∧ (1 : Int32).toInt ≠ 0) := h3
    refine ok_eq (fun c4 => ?_) (fun c4 => ?_)
    · refine ok_c (ixo (by omega) (by omega)) ?_
      try have a5 := FA_at (f := f_t_forms) (by assumption) p0.toNatClampNeg
      refine ok_o (sp_X9_turnedOf (f_t_forms p0.toNatClampNeg) (by first | omega | assumption | trivial | exact wt_of (by assumption) (by omega))) (fun r31 h6 => ?_)
      have h6 : DG r31 ≤ 39 := h6
      refine ok_o3 (sp_X9_give c_t_acts f_t_forms p0 r31 (by first | omega | assumption | trivial | exact wt_of (by assumption) (by omega)) (by first | omega | assumption | trivial | exact wt_of (by assumption) (by omega)) (by first | omega | assumption | trivial | exact wt_of (by assumption) (by omega)) (by first | omega | assumption | trivial | exact wt_of (by assumption) (by omega))) (fun r34 c_t_acts_34 f_t_forms_34 h7 => ?_)
      have h7 : FA f_t_forms_34 := h7
      exact ok_s (show FA f_t_forms_34 from by first | omega | assumption | trivial | (refine ⟨?_, ?_⟩ <;> first | omega | assumption | trivial | rfl) | (refine ⟨?_, ?_, ?_⟩ <;> first | omega | assumption | trivial | rfl) | (refine ⟨?_, ?_, ?_, ?_⟩ <;> first | omega | assumption | trivial | rfl) | (refine ⟨?_, ?_, ?_, ?_, ?_⟩ <;> first | omega | assumption | trivial | rfl) | (refine ⟨?_, ?_, ?_, ?_, ?_, ?_⟩ <;> first | omega | assumption | trivial | rfl) | (refine ⟨?_, ?_, ?_, ?_, ?_, ?_, ?_⟩ <;> first | omega | assumption | trivial | rfl) | (refine ⟨?_, ?_, ?_, ?_, ?_, ?_, ?_, ?_⟩ <;> first | omega | assumption | trivial | rfl))
    · exact ok_s (show FA f_t_forms from by first | omega | assumption | trivial | (refine ⟨?_, ?_⟩ <;> first | omega | assumption | trivial | rfl) | (refine ⟨?_, ?_, ?_⟩ <;> first | omega | assumption | trivial | rfl) | (refine ⟨?_, ?_, ?_, ?_⟩ <;> first | omega | assumption | trivial | rfl) | (refine ⟨?_, ?_, ?_, ?_, ?_⟩ <;> first | omega | assumption | trivial | rfl) | (refine ⟨?_, ?_, ?_, ?_, ?_, ?_⟩ <;> first | omega | assumption | trivial | rfl) | (refine ⟨?_, ?_, ?_, ?_, ?_, ?_, ?_⟩ <;> first | omega | assumption | trivial | rfl) | (refine ⟨?_, ?_, ?_, ?_, ?_, ?_, ?_, ?_⟩ <;> first | omega | assumption | trivial | rfl))
  · refine ok_o2 (sp_X9_isThrown_ (0 : Int32) ) (fun r13_2 c_t_thrown_13_2 h8 => ?_)
    have h8 : (r13_2.toInt = 0 ∧ c_t_thrown_13_2.toInt = 0 ∧ (0 : Int32).toInt = 0) ∨ (r13_2.toInt = 1 ∧ c_t_thrown_13_2.toInt = 1 ∧ (0 : Int32).toInt ≠ 0) := h8
    refine ok_eq (fun c9 => ?_) (fun c9 => ?_)
    · refine ok_c (ixo (by omega) (by omega)) ?_
      try have a10 := FA_at (f := f_t_forms) (by assumption) p0.toNatClampNeg
      refine ok_o (sp_X9_turnedOf (f_t_forms p0.toNatClampNeg) (by first | omega | assumption | trivial | exact wt_of (by assumption) (by omega))) (fun r31_2 h11 => ?_)
      have h11 : DG r31_2 ≤ 39 := h11
      refine ok_o3 (sp_X9_give c_t_acts f_t_forms p0 r31_2 (by first | omega | assumption | trivial | exact wt_of (by assumption) (by omega)) (by first | omega | assumption | trivial | exact wt_of (by assumption) (by omega)) (by first | omega | assumption | trivial | exact wt_of (by assumption) (by omega)) (by first | omega | assumption | trivial | exact wt_of (by assumption) (by omega))) (fun r34_2 c_t_acts_34_2 f_t_forms_34_2 h12 => ?_)
      have h12 : FA f_t_forms_34_2 := h12
      exact ok_s (show FA f_t_forms_34_2 from by first | omega | assumption | trivial | (refine ⟨?_, ?_⟩ <;> first | omega | assumption | trivial | rfl) | (refine ⟨?_, ?_, ?_⟩ <;> first | omega | assumption | trivial | rfl) | (refine ⟨?_, ?_, ?_, ?_⟩ <;> first | omega | assumption | trivial | rfl) | (refine ⟨?_, ?_, ?_, ?_, ?_⟩ <;> first | omega | assumption | trivial | rfl) | (refine ⟨?_, ?_, ?_, ?_, ?_, ?_⟩ <;> first | omega | assumption | trivial | rfl) | (refine ⟨?_, ?_, ?_, ?_, ?_, ?_, ?_⟩ <;> first | omega | assumption | trivial | rfl) | (refine ⟨?_, ?_, ?_, ?_, ?_, ?_, ?_, ?_⟩ <;> first | omega | assumption | trivial | rfl))
    · exact ok_s (show FA f_t_forms from by first | omega | assumption | trivial | (refine ⟨?_, ?_⟩ <;> first | omega | assumption | trivial | rfl) | (refine ⟨?_, ?_, ?_⟩ <;> first | omega | assumption | trivial | rfl) | (refine ⟨?_, ?_, ?_, ?_⟩ <;> first | omega | assumption | trivial | rfl) | (refine ⟨?_, ?_, ?_, ?_, ?_⟩ <;> first | omega | assumption | trivial | rfl) | (refine ⟨?_, ?_, ?_, ?_, ?_, ?_⟩ <;> first | omega | assumption | trivial | rfl) | (refine ⟨?_, ?_, ?_, ?_, ?_, ?_, ?_⟩ <;> first | omega | assumption | trivial | rfl) | (refine ⟨?_, ?_, ?_, ?_, ?_, ?_, ?_, ?_⟩ <;> first | omega | assumption | trivial | rfl))
set_option maxHeartbeats 1000000 in
theorem sp_X9_slope (c_t_acts : Int32) (f_t_forms : Nat → Int64) (p0 : Int32) (hp0 : FA f_t_forms) : ok (F_X9_slope c_t_acts f_t_forms p0) (fun r => FA r.2.2.2) := by
  have l032 : (0 : Int32).toInt = 0 := by decide
  have l064 : (0 : Int64).toInt = 0 := by decide
  have l132 : (1 : Int32).toInt = 1 := by decide
  have l164 : (1 : Int64).toInt = 1 := by decide
  have l232 : (2 : Int32).toInt = 2 := by decide
  have l4032 : (40 : Int32).toInt = 40 := by decide
  have g0 := DG_0
  unfold F_X9_slope
  refine ok_o (sp_X9_isForm p0 ) (fun r2 h1 => ?_)
  have h1 : (r2.toInt = 1 ∧ 0 ≤ p0.toInt ∧ p0.toInt ≤ 5) ∨ (r2.toInt = 0 ∧ (p0.toInt < 0 ∨ 6 ≤ p0.toInt)) := h1
  refine ok_eq (fun c2 => ?_) (fun c2 => ?_)
  · refine ok_o2 (sp_X9_isThrown_ (1 : Int32) ) (fun r13 c_t_thrown_13 h3 => ?_)
    have h3 : (r13.toInt = 0 ∧ c_t_thrown_13.toInt = 0 ∧ (1 : Int32).toInt = 0) ∨ (r13.toInt = 1 ∧ c_t_thrown_13.toInt = 1 ∧ (1 : Int32).toInt ≠ 0) := h3
    refine ok_eq (fun c4 => ?_) (fun c4 => ?_)
    · refine ok_L2 (fun y2_26 y4_26 => 0 ≤ y4_26.toInt ∧ DG y2_26 ≤ 39) (fun y2_26 y4_26 => (42 - y4_26.toInt).toNat) (fun ih26 y2_26 y4_26 hI5 hih5 => ?_) 20000 (0 : Int64) (0 : Int32) (show 0 ≤ (0 : Int32).toInt ∧ DG (0 : Int64) ≤ 39 from by first | omega | assumption | trivial | (refine ⟨?_, ?_⟩ <;> first | omega | assumption | trivial | rfl) | (refine ⟨?_, ?_, ?_⟩ <;> first | omega | assumption | trivial | rfl) | (refine ⟨?_, ?_, ?_, ?_⟩ <;> first | omega | assumption | trivial | rfl) | (refine ⟨?_, ?_, ?_, ?_, ?_⟩ <;> first | omega | assumption | trivial | rfl) | (refine ⟨?_, ?_, ?_, ?_, ?_, ?_⟩ <;> first | omega | assumption | trivial | rfl) | (refine ⟨?_, ?_, ?_, ?_, ?_, ?_, ?_⟩ <;> first | omega | assumption | trivial | rfl) | (refine ⟨?_, ?_, ?_, ?_, ?_, ?_, ?_, ?_⟩ <;> first | omega | assumption | trivial | rfl)) (show (42 - (0 : Int32).toInt).toNat < 20000 from by omega)
      have hI5 : 0 ≤ y4_26.toInt ∧ DG y2_26 ≤ 39 := hI5
      unfold S_X9_slope_26
      refine ok_le (fun c6 => ?_) (fun c6 => ?_)
      · refine ok_o3 (sp_X9_give c_t_acts f_t_forms p0 y2_26 (by first | omega | assumption | trivial | exact wt_of (by assumption) (by omega)) (by first | omega | assumption | trivial | exact wt_of (by assumption) (by omega)) (by first | omega | assumption | trivial | exact wt_of (by assumption) (by omega)) (by first | omega | assumption | trivial | exact wt_of (by assumption) (by omega))) (fun r61 c_t_acts_61 f_t_forms_61 h7 => ?_)
        have h7 : FA f_t_forms_61 := h7
        exact ok_s (show FA f_t_forms_61 from by first | omega | assumption | trivial | (refine ⟨?_, ?_⟩ <;> first | omega | assumption | trivial | rfl) | (refine ⟨?_, ?_, ?_⟩ <;> first | omega | assumption | trivial | rfl) | (refine ⟨?_, ?_, ?_, ?_⟩ <;> first | omega | assumption | trivial | rfl) | (refine ⟨?_, ?_, ?_, ?_, ?_⟩ <;> first | omega | assumption | trivial | rfl) | (refine ⟨?_, ?_, ?_, ?_, ?_, ?_⟩ <;> first | omega | assumption | trivial | rfl) | (refine ⟨?_, ?_, ?_, ?_, ?_, ?_, ?_⟩ <;> first | omega | assumption | trivial | rfl) | (refine ⟨?_, ?_, ?_, ?_, ?_, ?_, ?_, ?_⟩ <;> first | omega | assumption | trivial | rfl))
      · refine ok_c (ixo (by omega) (by omega)) ?_
        try have a8 := FA_at (f := f_t_forms) (by assumption) p0.toNatClampNeg
        have hk : DG ((((f_t_forms p0.toNatClampNeg) >>> ((y4_26 + (1 : Int32)).toInt64 &&& 63)) &&& (1 : Int64)) <<< (y4_26.toInt64 &&& 63)) ≤ 39 := DG_shlx (by omega) (by omega) (by have := DG_a1 ((f_t_forms p0.toNatClampNeg) >>> ((y4_26 + (1 : Int32)).toInt64 &&& 63)); omega) (by decide) (by decide)
        refine ok_bx (fun x2_51 e_x2_51 => ?_)
        have d_x2 : DG x2_51 ≤ 39 := by rw [e_x2_51]; exact DG_or (by omega) hk
        refine ok_bx (fun x4_52 e_x4_52 => ?_)
        try have t_x4_52 : x4_52.toInt = y4_26.toInt + 2 := by rw [e_x4_52]; exact addT1 (show (2 : Int32).toInt = 2 from by decide) (by omega) (by omega)
        exact hih5 x2_51 x4_52 (show 0 ≤ x4_52.toInt ∧ DG x2_51 ≤ 39 from by first | omega | assumption | trivial | (refine ⟨?_, ?_⟩ <;> first | omega | assumption | trivial | rfl) | (refine ⟨?_, ?_, ?_⟩ <;> first | omega | assumption | trivial | rfl) | (refine ⟨?_, ?_, ?_, ?_⟩ <;> first | omega | assumption | trivial | rfl) | (refine ⟨?_, ?_, ?_, ?_, ?_⟩ <;> first | omega | assumption | trivial | rfl) | (refine ⟨?_, ?_, ?_, ?_, ?_, ?_⟩ <;> first | omega | assumption | trivial | rfl) | (refine ⟨?_, ?_, ?_, ?_, ?_, ?_, ?_⟩ <;> first | omega | assumption | trivial | rfl) | (refine ⟨?_, ?_, ?_, ?_, ?_, ?_, ?_, ?_⟩ <;> first | omega | assumption | trivial | rfl)) (show (42 - x4_52.toInt).toNat < (42 - y4_26.toInt).toNat from by omega)
    · exact ok_s (show FA f_t_forms from by first | omega | assumption | trivial | (refine ⟨?_, ?_⟩ <;> first | omega | assumption | trivial | rfl) | (refine ⟨?_, ?_, ?_⟩ <;> first | omega | assumption | trivial | rfl) | (refine ⟨?_, ?_, ?_, ?_⟩ <;> first | omega | assumption | trivial | rfl) | (refine ⟨?_, ?_, ?_, ?_, ?_⟩ <;> first | omega | assumption | trivial | rfl) | (refine ⟨?_, ?_, ?_, ?_, ?_, ?_⟩ <;> first | omega | assumption | trivial | rfl) | (refine ⟨?_, ?_, ?_, ?_, ?_, ?_, ?_⟩ <;> first | omega | assumption | trivial | rfl) | (refine ⟨?_, ?_, ?_, ?_, ?_, ?_, ?_, ?_⟩ <;> first | omega | assumption | trivial | rfl))
  · refine ok_o2 (sp_X9_isThrown_ (0 : Int32) ) (fun r13_2 c_t_thrown_13_2 h9 => ?_)
    have h9 : (r13_2.toInt = 0 ∧ c_t_thrown_13_2.toInt = 0 ∧ (0 : Int32).toInt = 0) ∨ (r13_2.toInt = 1 ∧ c_t_thrown_13_2.toInt = 1 ∧ (0 : Int32).toInt ≠ 0) := h9
    refine ok_eq (fun c10 => ?_) (fun c10 => ?_)
    · refine ok_L2 (fun y2_26_2 y4_26_2 => 0 ≤ y4_26_2.toInt ∧ DG y2_26_2 ≤ 39) (fun y2_26_2 y4_26_2 => (42 - y4_26_2.toInt).toNat) (fun ih26_2 y2_26_2 y4_26_2 hI11 hih11 => ?_) 20000 (0 : Int64) (0 : Int32) (show 0 ≤ (0 : Int32).toInt ∧ DG (0 : Int64) ≤ 39 from by first | omega | assumption | trivial | (refine ⟨?_, ?_⟩ <;> first | omega | assumption | trivial | rfl) | (refine ⟨?_, ?_, ?_⟩ <;> first | omega | assumption | trivial | rfl) | (refine ⟨?_, ?_, ?_, ?_⟩ <;> first | omega | assumption | trivial | rfl) | (refine ⟨?_, ?_, ?_, ?_, ?_⟩ <;> first | omega | assumption | trivial | rfl) | (refine ⟨?_, ?_, ?_, ?_, ?_, ?_⟩ <;> first | omega | assumption | trivial | rfl) | (refine ⟨?_, ?_, ?_, ?_, ?_, ?_, ?_⟩ <;> first | omega | assumption | trivial | rfl) | (refine ⟨?_, ?_, ?_, ?_, ?_, ?_, ?_, ?_⟩ <;> first | omega | assumption | trivial | rfl)) (show (42 - (0 : Int32).toInt).toNat < 20000 from by omega)
      have hI11 : 0 ≤ y4_26_2.toInt ∧ DG y2_26_2 ≤ 39 := hI11
      unfold S_X9_slope_26
      refine ok_le (fun c12 => ?_) (fun c12 => ?_)
      · refine ok_o3 (sp_X9_give c_t_acts f_t_forms p0 y2_26_2 (by first | omega | assumption | trivial | exact wt_of (by assumption) (by omega)) (by first | omega | assumption | trivial | exact wt_of (by assumption) (by omega)) (by first | omega | assumption | trivial | exact wt_of (by assumption) (by omega)) (by first | omega | assumption | trivial | exact wt_of (by assumption) (by omega))) (fun r61_2 c_t_acts_61_2 f_t_forms_61_2 h13 => ?_)
        have h13 : FA f_t_forms_61_2 := h13
        exact ok_s (show FA f_t_forms_61_2 from by first | omega | assumption | trivial | (refine ⟨?_, ?_⟩ <;> first | omega | assumption | trivial | rfl) | (refine ⟨?_, ?_, ?_⟩ <;> first | omega | assumption | trivial | rfl) | (refine ⟨?_, ?_, ?_, ?_⟩ <;> first | omega | assumption | trivial | rfl) | (refine ⟨?_, ?_, ?_, ?_, ?_⟩ <;> first | omega | assumption | trivial | rfl) | (refine ⟨?_, ?_, ?_, ?_, ?_, ?_⟩ <;> first | omega | assumption | trivial | rfl) | (refine ⟨?_, ?_, ?_, ?_, ?_, ?_, ?_⟩ <;> first | omega | assumption | trivial | rfl) | (refine ⟨?_, ?_, ?_, ?_, ?_, ?_, ?_, ?_⟩ <;> first | omega | assumption | trivial | rfl))
      · refine ok_c (ixo (by omega) (by omega)) ?_
        try have a14 := FA_at (f := f_t_forms) (by assumption) p0.toNatClampNeg
        have hk : DG ((((f_t_forms p0.toNatClampNeg) >>> ((y4_26_2 + (1 : Int32)).toInt64 &&& 63)) &&& (1 : Int64)) <<< (y4_26_2.toInt64 &&& 63)) ≤ 39 := DG_shlx (by omega) (by omega) (by have := DG_a1 ((f_t_forms p0.toNatClampNeg) >>> ((y4_26_2 + (1 : Int32)).toInt64 &&& 63)); omega) (by decide) (by decide)
        refine ok_bx (fun x2_51_2 e_x2_51_2 => ?_)
        have d_x2 : DG x2_51_2 ≤ 39 := by rw [e_x2_51_2]; exact DG_or (by omega) hk
        refine ok_bx (fun x4_52_2 e_x4_52_2 => ?_)
        try have t_x4_52_2 : x4_52_2.toInt = y4_26_2.toInt + 2 := by rw [e_x4_52_2]; exact addT1 (show (2 : Int32).toInt = 2 from by decide) (by omega) (by omega)
        exact hih11 x2_51_2 x4_52_2 (show 0 ≤ x4_52_2.toInt ∧ DG x2_51_2 ≤ 39 from by first | omega | assumption | trivial | (refine ⟨?_, ?_⟩ <;> first | omega | assumption | trivial | rfl) | (refine ⟨?_, ?_, ?_⟩ <;> first | omega | assumption | trivial | rfl) | (refine ⟨?_, ?_, ?_, ?_⟩ <;> first | omega | assumption | trivial | rfl) | (refine ⟨?_, ?_, ?_, ?_, ?_⟩ <;> first | omega | assumption | trivial | rfl) | (refine ⟨?_, ?_, ?_, ?_, ?_, ?_⟩ <;> first | omega | assumption | trivial | rfl) | (refine ⟨?_, ?_, ?_, ?_, ?_, ?_, ?_⟩ <;> first | omega | assumption | trivial | rfl) | (refine ⟨?_, ?_, ?_, ?_, ?_, ?_, ?_, ?_⟩ <;> first | omega | assumption | trivial | rfl)) (show (42 - x4_52_2.toInt).toNat < (42 - y4_26_2.toInt).toNat from by omega)
    · exact ok_s (show FA f_t_forms from by first | omega | assumption | trivial | (refine ⟨?_, ?_⟩ <;> first | omega | assumption | trivial | rfl) | (refine ⟨?_, ?_, ?_⟩ <;> first | omega | assumption | trivial | rfl) | (refine ⟨?_, ?_, ?_, ?_⟩ <;> first | omega | assumption | trivial | rfl) | (refine ⟨?_, ?_, ?_, ?_, ?_⟩ <;> first | omega | assumption | trivial | rfl) | (refine ⟨?_, ?_, ?_, ?_, ?_, ?_⟩ <;> first | omega | assumption | trivial | rfl) | (refine ⟨?_, ?_, ?_, ?_, ?_, ?_, ?_⟩ <;> first | omega | assumption | trivial | rfl) | (refine ⟨?_, ?_, ?_, ?_, ?_, ?_, ?_, ?_⟩ <;> first | omega | assumption | trivial | rfl))
set_option maxHeartbeats 1000000 in
theorem sp_X9_add (c_t_acts : Int32) (f_t_forms : Nat → Int64) (p0 : Int32) (p1 : Int32) (p2 : Int32) (hp0 : FA f_t_forms) : ok (F_X9_add c_t_acts f_t_forms p0 p1 p2) (fun r => FA r.2.2.2) := by
  have l032 : (0 : Int32).toInt = 0 := by decide
  unfold F_X9_add
  refine ok_o2 (sp_X9_areNot p0 p1 p2 ) (fun r4 c_t_thrown_4 h1 => ?_)
  have h1 : (r4.toInt = 0 ∧ c_t_thrown_4.toInt = 0 ∧ 0 ≤ p0.toInt ∧ p0.toInt ≤ 5 ∧ 0 ≤ p1.toInt ∧ p1.toInt ≤ 5 ∧ 0 ≤ p2.toInt ∧ p2.toInt ≤ 5) ∨ (r4.toInt = 1 ∧ c_t_thrown_4.toInt = 1) := h1
  refine ok_eq (fun c2 => ?_) (fun c2 => ?_)
  · refine ok_c (ixo (by omega) (by omega)) ?_
    refine ok_c (ixo (by omega) (by omega)) ?_
    try have a3 := FA_at (f := f_t_forms) (by assumption) p0.toNatClampNeg
    try have a4 := FA_at (f := f_t_forms) (by assumption) p1.toNatClampNeg
    have hx : DG ((f_t_forms p0.toNatClampNeg) ^^^ (f_t_forms p1.toNatClampNeg)) ≤ 39 := DG_xor (by omega) (by omega)
    refine ok_o3 (sp_X9_give c_t_acts f_t_forms p2 ((f_t_forms p0.toNatClampNeg) ^^^ (f_t_forms p1.toNatClampNeg)) (by first | omega | assumption | trivial | exact wt_of (by assumption) (by omega)) (by first | omega | assumption | trivial | exact wt_of (by assumption) (by omega)) (by first | omega | assumption | trivial | exact wt_of (by assumption) (by omega)) (by first | omega | assumption | trivial | exact wt_of (by assumption) (by omega))) (fun r29 c_t_acts_29 f_t_forms_29 h5 => ?_)
    have h5 : FA f_t_forms_29 := h5
    exact ok_s (show FA f_t_forms_29 from by first | omega | assumption | trivial | (refine ⟨?_, ?_⟩ <;> first | omega | assumption | trivial | rfl) | (refine ⟨?_, ?_, ?_⟩ <;> first | omega | assumption | trivial | rfl) | (refine ⟨?_, ?_, ?_, ?_⟩ <;> first | omega | assumption | trivial | rfl) | (refine ⟨?_, ?_, ?_, ?_, ?_⟩ <;> first | omega | assumption | trivial | rfl) | (refine ⟨?_, ?_, ?_, ?_, ?_, ?_⟩ <;> first | omega | assumption | trivial | rfl) | (refine ⟨?_, ?_, ?_, ?_, ?_, ?_, ?_⟩ <;> first | omega | assumption | trivial | rfl) | (refine ⟨?_, ?_, ?_, ?_, ?_, ?_, ?_, ?_⟩ <;> first | omega | assumption | trivial | rfl))
  · exact ok_s (show FA f_t_forms from by first | omega | assumption | trivial | (refine ⟨?_, ?_⟩ <;> first | omega | assumption | trivial | rfl) | (refine ⟨?_, ?_, ?_⟩ <;> first | omega | assumption | trivial | rfl) | (refine ⟨?_, ?_, ?_, ?_⟩ <;> first | omega | assumption | trivial | rfl) | (refine ⟨?_, ?_, ?_, ?_, ?_⟩ <;> first | omega | assumption | trivial | rfl) | (refine ⟨?_, ?_, ?_, ?_, ?_, ?_⟩ <;> first | omega | assumption | trivial | rfl) | (refine ⟨?_, ?_, ?_, ?_, ?_, ?_, ?_⟩ <;> first | omega | assumption | trivial | rfl) | (refine ⟨?_, ?_, ?_, ?_, ?_, ?_, ?_, ?_⟩ <;> first | omega | assumption | trivial | rfl))
set_option maxHeartbeats 1000000 in
theorem sp_X9_isTooHigh (p0 : Int64) (p1 : Int64) (hp0 : DG p0 ≤ 39) (hp1 : DG p1 ≤ 39) : ok (F_X9_isTooHigh p0 p1) (fun r => (r.toInt = 0 ∧ (DG p0 = -1 ∨ DG p1 = -1 ∨ DG p0 + DG p1 ≤ 39)) ∨ (r.toInt = 1 ∧ 0 ≤ DG p0 ∧ 0 ≤ DG p1 ∧ 40 ≤ DG p0 + DG p1)) := by
  have l032 : (0 : Int32).toInt = 0 := by decide
  have l064 : (0 : Int64).toInt = 0 := by decide
  have l132 : (1 : Int32).toInt = 1 := by decide
  have l4032 : (40 : Int32).toInt = 40 := by decide
  unfold F_X9_isTooHigh
  have z_c1 := DG_z p0
  refine ok_eqL (fun c1 => ?_) (fun c1 => ?_)
  · exact ok_s (show ((0 : Int32).toInt = 0 ∧ (DG p0 = -1 ∨ DG p1 = -1 ∨ DG p0 + DG p1 ≤ 39)) ∨ ((0 : Int32).toInt = 1 ∧ 0 ≤ DG p0 ∧ 0 ≤ DG p1 ∧ 40 ≤ DG p0 + DG p1) from by first | omega | assumption | trivial | (refine ⟨?_, ?_⟩ <;> first | omega | assumption | trivial | rfl) | (refine ⟨?_, ?_, ?_⟩ <;> first | omega | assumption | trivial | rfl) | (refine ⟨?_, ?_, ?_, ?_⟩ <;> first | omega | assumption | trivial | rfl) | (refine ⟨?_, ?_, ?_, ?_, ?_⟩ <;> first | omega | assumption | trivial | rfl) | (refine ⟨?_, ?_, ?_, ?_, ?_, ?_⟩ <;> first | omega | assumption | trivial | rfl) | (refine ⟨?_, ?_, ?_, ?_, ?_, ?_, ?_⟩ <;> first | omega | assumption | trivial | rfl) | (refine ⟨?_, ?_, ?_, ?_, ?_, ?_, ?_, ?_⟩ <;> first | omega | assumption | trivial | rfl))
  · have z_c2 := DG_z p1
    refine ok_eqL (fun c2 => ?_) (fun c2 => ?_)
    · exact ok_s (show ((0 : Int32).toInt = 0 ∧ (DG p0 = -1 ∨ DG p1 = -1 ∨ DG p0 + DG p1 ≤ 39)) ∨ ((0 : Int32).toInt = 1 ∧ 0 ≤ DG p0 ∧ 0 ≤ DG p1 ∧ 40 ≤ DG p0 + DG p1) from by first | omega | assumption | trivial | (refine ⟨?_, ?_⟩ <;> first | omega | assumption | trivial | rfl) | (refine ⟨?_, ?_, ?_⟩ <;> first | omega | assumption | trivial | rfl) | (refine ⟨?_, ?_, ?_, ?_⟩ <;> first | omega | assumption | trivial | rfl) | (refine ⟨?_, ?_, ?_, ?_, ?_⟩ <;> first | omega | assumption | trivial | rfl) | (refine ⟨?_, ?_, ?_, ?_, ?_, ?_⟩ <;> first | omega | assumption | trivial | rfl) | (refine ⟨?_, ?_, ?_, ?_, ?_, ?_, ?_⟩ <;> first | omega | assumption | trivial | rfl) | (refine ⟨?_, ?_, ?_, ?_, ?_, ?_, ?_, ?_⟩ <;> first | omega | assumption | trivial | rfl))
    · refine ok_o (sp_X9_degreeOf p0 ) (fun r13 h3 => ?_)
      have h3 : r13.toInt = DG p0 ∧ -1 ≤ r13.toInt ∧ r13.toInt ≤ 63 := h3
      refine ok_o (sp_X9_degreeOf p1 ) (fun r17 h4 => ?_)
      have h4 : r17.toInt = DG p1 ∧ -1 ≤ r17.toInt ∧ r17.toInt ≤ 63 := h4
      obtain ⟨w5, e_w5⟩ : ∃ w : Int32, w = r13 + r17 := ⟨_, rfl⟩
      try have t_w5 : w5.toInt = r13.toInt + r17.toInt := by rw [e_w5]; exact addT1 (Eq.refl _) (by omega) (by omega)
      try rw [← e_w5]
      refine ok_lt (fun c6 => ?_) (fun c6 => ?_)
      · exact ok_s (show ((0 : Int32).toInt = 0 ∧ (DG p0 = -1 ∨ DG p1 = -1 ∨ DG p0 + DG p1 ≤ 39)) ∨ ((0 : Int32).toInt = 1 ∧ 0 ≤ DG p0 ∧ 0 ≤ DG p1 ∧ 40 ≤ DG p0 + DG p1) from by first | omega | assumption | trivial | (refine ⟨?_, ?_⟩ <;> first | omega | assumption | trivial | rfl) | (refine ⟨?_, ?_, ?_⟩ <;> first | omega | assumption | trivial | rfl) | (refine ⟨?_, ?_, ?_, ?_⟩ <;> first | omega | assumption | trivial | rfl) | (refine ⟨?_, ?_, ?_, ?_, ?_⟩ <;> first | omega | assumption | trivial | rfl) | (refine ⟨?_, ?_, ?_, ?_, ?_, ?_⟩ <;> first | omega | assumption | trivial | rfl) | (refine ⟨?_, ?_, ?_, ?_, ?_, ?_, ?_⟩ <;> first | omega | assumption | trivial | rfl) | (refine ⟨?_, ?_, ?_, ?_, ?_, ?_, ?_, ?_⟩ <;> first | omega | assumption | trivial | rfl))
      · exact ok_s (show ((1 : Int32).toInt = 0 ∧ (DG p0 = -1 ∨ DG p1 = -1 ∨ DG p0 + DG p1 ≤ 39)) ∨ ((1 : Int32).toInt = 1 ∧ 0 ≤ DG p0 ∧ 0 ≤ DG p1 ∧ 40 ≤ DG p0 + DG p1) from by first | omega | assumption | trivial | (refine ⟨?_, ?_⟩ <;> first | omega | assumption | trivial | rfl) | (refine ⟨?_, ?_, ?_⟩ <;> first | omega | assumption | trivial | rfl) | (refine ⟨?_, ?_, ?_, ?_⟩ <;> first | omega | assumption | trivial | rfl) | (refine ⟨?_, ?_, ?_, ?_, ?_⟩ <;> first | omega | assumption | trivial | rfl) | (refine ⟨?_, ?_, ?_, ?_, ?_, ?_⟩ <;> first | omega | assumption | trivial | rfl) | (refine ⟨?_, ?_, ?_, ?_, ?_, ?_, ?_⟩ <;> first | omega | assumption | trivial | rfl) | (refine ⟨?_, ?_, ?_, ?_, ?_, ?_, ?_, ?_⟩ <;> first | omega | assumption | trivial | rfl))
set_option maxHeartbeats 1000000 in
theorem sp_X9_multiply (c_t_acts : Int32) (c_t_refused : Int32) (f_t_forms : Nat → Int64) (p0 : Int32) (p1 : Int32) (p2 : Int32) (hp0 : FA f_t_forms) : ok (F_X9_multiply c_t_acts c_t_refused f_t_forms p0 p1 p2) (fun r => FA r.2.2.2.2) := by
  have l032 : (0 : Int32).toInt = 0 := by decide
  unfold F_X9_multiply
  refine ok_o2 (sp_X9_areNot p0 p1 p2 ) (fun r4 c_t_thrown_4 h1 => ?_)
  have h1 : (r4.toInt = 0 ∧ c_t_thrown_4.toInt = 0 ∧ 0 ≤ p0.toInt ∧ p0.toInt ≤ 5 ∧ 0 ≤ p1.toInt ∧ p1.toInt ≤ 5 ∧ 0 ≤ p2.toInt ∧ p2.toInt ≤ 5) ∨ (r4.toInt = 1 ∧ c_t_thrown_4.toInt = 1) := h1
  refine ok_eq (fun c2 => ?_) (fun c2 => ?_)
  · refine ok_c (ixo (by omega) (by omega)) ?_
    refine ok_c (ixo (by omega) (by omega)) ?_
    try have a3 := FA_at (f := f_t_forms) (by assumption) p0.toNatClampNeg
    try have a4 := FA_at (f := f_t_forms) (by assumption) p1.toNatClampNeg
    refine ok_o (sp_X9_isTooHigh (f_t_forms p0.toNatClampNeg) (f_t_forms p1.toNatClampNeg) (by first | omega | assumption | trivial | exact wt_of (by assumption) (by omega)) (by first | omega | assumption | trivial | exact wt_of (by assumption) (by omega))) (fun r25 h5 => ?_)
    have h5 : (r25.toInt = 0 ∧ (DG (f_t_forms p0.toNatClampNeg) = -1 ∨ DG (f_t_forms p1.toNatClampNeg) = -1 ∨ DG (f_t_forms p0.toNatClampNeg) + DG (f_t_forms p1.toNatClampNeg) ≤ 39)) ∨ (r25.toInt = 1 ∧ 0 ≤ DG (f_t_forms p0.toNatClampNeg) ∧ 0 ≤ DG (f_t_forms p1.toNatClampNeg) ∧ 40 ≤ DG (f_t_forms p0.toNatClampNeg) + DG (f_t_forms p1.toNatClampNeg)) := h5
    refine ok_eq (fun c6 => ?_) (fun c6 => ?_)
    · refine ok_c (ixo (by omega) (by omega)) ?_
      refine ok_c (ixo (by omega) (by omega)) ?_
      try have a7 := FA_at (f := f_t_forms) (by assumption) p0.toNatClampNeg
      try have a8 := FA_at (f := f_t_forms) (by assumption) p1.toNatClampNeg
      refine ok_o (sp_X9_productOf (f_t_forms p0.toNatClampNeg) (f_t_forms p1.toNatClampNeg) (by first | omega | assumption | trivial | exact wt_of (by assumption) (by omega)) (by first | omega | assumption | trivial | exact wt_of (by assumption) (by omega))) (fun r52 h9 => ?_)
      have h9 : ((DG (f_t_forms p0.toNatClampNeg) = -1 ∨ DG (f_t_forms p1.toNatClampNeg) = -1) ∧ DG r52 = -1) ∨ (0 ≤ DG (f_t_forms p0.toNatClampNeg) ∧ 0 ≤ DG (f_t_forms p1.toNatClampNeg) ∧ DG r52 = DG (f_t_forms p0.toNatClampNeg) + DG (f_t_forms p1.toNatClampNeg)) := h9
      refine ok_o3 (sp_X9_give c_t_acts f_t_forms p2 r52 (by first | omega | assumption | trivial | exact wt_of (by assumption) (by omega)) (by first | omega | assumption | trivial | exact wt_of (by assumption) (by omega)) (by first | omega | assumption | trivial | exact wt_of (by assumption) (by omega)) (by first | omega | assumption | trivial | exact wt_of (by assumption) (by omega))) (fun r55 c_t_acts_55 f_t_forms_55 h10 => ?_)
      have h10 : FA f_t_forms_55 := h10
      exact ok_s (show FA f_t_forms_55 from by first | omega | assumption | trivial | (refine ⟨?_, ?_⟩ <;> first | omega | assumption | trivial | rfl) | (refine ⟨?_, ?_, ?_⟩ <;> first | omega | assumption | trivial | rfl) | (refine ⟨?_, ?_, ?_, ?_⟩ <;> first | omega | assumption | trivial | rfl) | (refine ⟨?_, ?_, ?_, ?_, ?_⟩ <;> first | omega | assumption | trivial | rfl) | (refine ⟨?_, ?_, ?_, ?_, ?_, ?_⟩ <;> first | omega | assumption | trivial | rfl) | (refine ⟨?_, ?_, ?_, ?_, ?_, ?_, ?_⟩ <;> first | omega | assumption | trivial | rfl) | (refine ⟨?_, ?_, ?_, ?_, ?_, ?_, ?_, ?_⟩ <;> first | omega | assumption | trivial | rfl))
    · refine ok_o2 (sp_X9_no c_t_refused ) (fun r32 c_t_refused_32 h11 => ?_)
      exact ok_s (show FA f_t_forms from by first | omega | assumption | trivial | (refine ⟨?_, ?_⟩ <;> first | omega | assumption | trivial | rfl) | (refine ⟨?_, ?_, ?_⟩ <;> first | omega | assumption | trivial | rfl) | (refine ⟨?_, ?_, ?_, ?_⟩ <;> first | omega | assumption | trivial | rfl) | (refine ⟨?_, ?_, ?_, ?_, ?_⟩ <;> first | omega | assumption | trivial | rfl) | (refine ⟨?_, ?_, ?_, ?_, ?_, ?_⟩ <;> first | omega | assumption | trivial | rfl) | (refine ⟨?_, ?_, ?_, ?_, ?_, ?_, ?_⟩ <;> first | omega | assumption | trivial | rfl) | (refine ⟨?_, ?_, ?_, ?_, ?_, ?_, ?_, ?_⟩ <;> first | omega | assumption | trivial | rfl))
  · exact ok_s (show FA f_t_forms from by first | omega | assumption | trivial | (refine ⟨?_, ?_⟩ <;> first | omega | assumption | trivial | rfl) | (refine ⟨?_, ?_, ?_⟩ <;> first | omega | assumption | trivial | rfl) | (refine ⟨?_, ?_, ?_, ?_⟩ <;> first | omega | assumption | trivial | rfl) | (refine ⟨?_, ?_, ?_, ?_, ?_⟩ <;> first | omega | assumption | trivial | rfl) | (refine ⟨?_, ?_, ?_, ?_, ?_, ?_⟩ <;> first | omega | assumption | trivial | rfl) | (refine ⟨?_, ?_, ?_, ?_, ?_, ?_, ?_⟩ <;> first | omega | assumption | trivial | rfl) | (refine ⟨?_, ?_, ?_, ?_, ?_, ?_, ?_, ?_⟩ <;> first | omega | assumption | trivial | rfl))
set_option maxHeartbeats 1000000 in
theorem sp_X9_square (c_t_acts : Int32) (c_t_refused : Int32) (c_t_thrown : Int32) (f_t_forms : Nat → Int64) (p0 : Int32) (p1 : Int32) (hp0 : FA f_t_forms) : ok (F_X9_square c_t_acts c_t_refused c_t_thrown f_t_forms p0 p1) (fun r => FA r.2.2.2.2) := by
  have l032 : (0 : Int32).toInt = 0 := by decide
  have l132 : (1 : Int32).toInt = 1 := by decide
  unfold F_X9_square
  refine ok_o (sp_X9_isForm p0 ) (fun r2 h1 => ?_)
  have h1 : (r2.toInt = 1 ∧ 0 ≤ p0.toInt ∧ p0.toInt ≤ 5) ∨ (r2.toInt = 0 ∧ (p0.toInt < 0 ∨ 6 ≤ p0.toInt)) := h1
  refine ok_eq (fun c2 => ?_) (fun c2 => ?_)
  · first | unfold J_X9_square_15 | skip
    first | unfold J_X9_square_20 | skip
    refine ok_o2 (sp_X9_isThrown_ (1 : Int32) ) (fun r20 c_t_thrown_20 h3 => ?_)
    have h3 : (r20.toInt = 0 ∧ c_t_thrown_20.toInt = 0 ∧ (1 : Int32).toInt = 0) ∨ (r20.toInt = 1 ∧ c_t_thrown_20.toInt = 1 ∧ (1 : Int32).toInt ≠ 0) := h3
    refine ok_eq (fun c4 => ?_) (fun c4 => ?_)
    · refine ok_c (ixo (by omega) (by omega)) ?_
      refine ok_c (ixo (by omega) (by omega)) ?_
      try have a5 := FA_at (f := f_t_forms) (by assumption) p0.toNatClampNeg
      try have a6 := FA_at (f := f_t_forms) (by assumption) p0.toNatClampNeg
      refine ok_o (sp_X9_isTooHigh (f_t_forms p0.toNatClampNeg) (f_t_forms p0.toNatClampNeg) (by first | omega | assumption | trivial | exact wt_of (by assumption) (by omega)) (by first | omega | assumption | trivial | exact wt_of (by assumption) (by omega))) (fun r41 h7 => ?_)
      have h7 : (r41.toInt = 0 ∧ (DG (f_t_forms p0.toNatClampNeg) = -1 ∨ DG (f_t_forms p0.toNatClampNeg) = -1 ∨ DG (f_t_forms p0.toNatClampNeg) + DG (f_t_forms p0.toNatClampNeg) ≤ 39)) ∨ (r41.toInt = 1 ∧ 0 ≤ DG (f_t_forms p0.toNatClampNeg) ∧ 0 ≤ DG (f_t_forms p0.toNatClampNeg) ∧ 40 ≤ DG (f_t_forms p0.toNatClampNeg) + DG (f_t_forms p0.toNatClampNeg)) := h7
      refine ok_eq (fun c8 => ?_) (fun c8 => ?_)
      · refine ok_c (ixo (by omega) (by omega)) ?_
        refine ok_c (ixo (by omega) (by omega)) ?_
        try have a9 := FA_at (f := f_t_forms) (by assumption) p0.toNatClampNeg
        try have a10 := FA_at (f := f_t_forms) (by assumption) p0.toNatClampNeg
        refine ok_o (sp_X9_productOf (f_t_forms p0.toNatClampNeg) (f_t_forms p0.toNatClampNeg) (by first | omega | assumption | trivial | exact wt_of (by assumption) (by omega)) (by first | omega | assumption | trivial | exact wt_of (by assumption) (by omega))) (fun r68 h11 => ?_)
        have h11 : ((DG (f_t_forms p0.toNatClampNeg) = -1 ∨ DG (f_t_forms p0.toNatClampNeg) = -1) ∧ DG r68 = -1) ∨ (0 ≤ DG (f_t_forms p0.toNatClampNeg) ∧ 0 ≤ DG (f_t_forms p0.toNatClampNeg) ∧ DG r68 = DG (f_t_forms p0.toNatClampNeg) + DG (f_t_forms p0.toNatClampNeg)) := h11
        refine ok_o3 (sp_X9_give c_t_acts f_t_forms p1 r68 (by first | omega | assumption | trivial | exact wt_of (by assumption) (by omega)) (by first | omega | assumption | trivial | exact wt_of (by assumption) (by omega)) (by first | omega | assumption | trivial | exact wt_of (by assumption) (by omega)) (by first | omega | assumption | trivial | exact wt_of (by assumption) (by omega))) (fun r71 c_t_acts_71 f_t_forms_71 h12 => ?_)
        have h12 : FA f_t_forms_71 := h12
        exact ok_s (show FA f_t_forms_71 from by first | omega | assumption | trivial | (refine ⟨?_, ?_⟩ <;> first | omega | assumption | trivial | rfl) | (refine ⟨?_, ?_, ?_⟩ <;> first | omega | assumption | trivial | rfl) | (refine ⟨?_, ?_, ?_, ?_⟩ <;> first | omega | assumption | trivial | rfl) | (refine ⟨?_, ?_, ?_, ?_, ?_⟩ <;> first | omega | assumption | trivial | rfl) | (refine ⟨?_, ?_, ?_, ?_, ?_, ?_⟩ <;> first | omega | assumption | trivial | rfl) | (refine ⟨?_, ?_, ?_, ?_, ?_, ?_, ?_⟩ <;> first | omega | assumption | trivial | rfl) | (refine ⟨?_, ?_, ?_, ?_, ?_, ?_, ?_, ?_⟩ <;> first | omega | assumption | trivial | rfl))
      · refine ok_o2 (sp_X9_no c_t_refused ) (fun r48 c_t_refused_48 h13 => ?_)
        exact ok_s (show FA f_t_forms from by first | omega | assumption | trivial | (refine ⟨?_, ?_⟩ <;> first | omega | assumption | trivial | rfl) | (refine ⟨?_, ?_, ?_⟩ <;> first | omega | assumption | trivial | rfl) | (refine ⟨?_, ?_, ?_, ?_⟩ <;> first | omega | assumption | trivial | rfl) | (refine ⟨?_, ?_, ?_, ?_, ?_⟩ <;> first | omega | assumption | trivial | rfl) | (refine ⟨?_, ?_, ?_, ?_, ?_, ?_⟩ <;> first | omega | assumption | trivial | rfl) | (refine ⟨?_, ?_, ?_, ?_, ?_, ?_, ?_⟩ <;> first | omega | assumption | trivial | rfl) | (refine ⟨?_, ?_, ?_, ?_, ?_, ?_, ?_, ?_⟩ <;> first | omega | assumption | trivial | rfl))
    · exact ok_s (show FA f_t_forms from by first | omega | assumption | trivial | (refine ⟨?_, ?_⟩ <;> first | omega | assumption | trivial | rfl) | (refine ⟨?_, ?_, ?_⟩ <;> first | omega | assumption | trivial | rfl) | (refine ⟨?_, ?_, ?_, ?_⟩ <;> first | omega | assumption | trivial | rfl) | (refine ⟨?_, ?_, ?_, ?_, ?_⟩ <;> first | omega | assumption | trivial | rfl) | (refine ⟨?_, ?_, ?_, ?_, ?_, ?_⟩ <;> first | omega | assumption | trivial | rfl) | (refine ⟨?_, ?_, ?_, ?_, ?_, ?_, ?_⟩ <;> first | omega | assumption | trivial | rfl) | (refine ⟨?_, ?_, ?_, ?_, ?_, ?_, ?_, ?_⟩ <;> first | omega | assumption | trivial | rfl))
  · refine ok_o (sp_X9_isForm p1 ) (fun r9 h14 => ?_)
    have h14 : (r9.toInt = 1 ∧ 0 ≤ p1.toInt ∧ p1.toInt ≤ 5) ∨ (r9.toInt = 0 ∧ (p1.toInt < 0 ∨ 6 ≤ p1.toInt)) := h14
    refine ok_eq (fun c15 => ?_) (fun c15 => ?_)
    · first | unfold J_X9_square_15 | skip
      first | unfold J_X9_square_20 | skip
      refine ok_o2 (sp_X9_isThrown_ (1 : Int32) ) (fun r20_2 c_t_thrown_20_2 h16 => ?_)
      have h16 : (r20_2.toInt = 0 ∧ c_t_thrown_20_2.toInt = 0 ∧ (1 : Int32).toInt = 0) ∨ (r20_2.toInt = 1 ∧ c_t_thrown_20_2.toInt = 1 ∧ (1 : Int32).toInt ≠ 0) := h16
      refine ok_eq (fun c17 => ?_) (fun c17 => ?_)
      · refine ok_c (ixo (by omega) (by omega)) ?_
        refine ok_c (ixo (by omega) (by omega)) ?_
        try have a18 := FA_at (f := f_t_forms) (by assumption) p0.toNatClampNeg
        try have a19 := FA_at (f := f_t_forms) (by assumption) p0.toNatClampNeg
        refine ok_o (sp_X9_isTooHigh (f_t_forms p0.toNatClampNeg) (f_t_forms p0.toNatClampNeg) (by first | omega | assumption | trivial | exact wt_of (by assumption) (by omega)) (by first | omega | assumption | trivial | exact wt_of (by assumption) (by omega))) (fun r41_2 h20 => ?_)
        have h20 : (r41_2.toInt = 0 ∧ (DG (f_t_forms p0.toNatClampNeg) = -1 ∨ DG (f_t_forms p0.toNatClampNeg) = -1 ∨ DG (f_t_forms p0.toNatClampNeg) + DG (f_t_forms p0.toNatClampNeg) ≤ 39)) ∨ (r41_2.toInt = 1 ∧ 0 ≤ DG (f_t_forms p0.toNatClampNeg) ∧ 0 ≤ DG (f_t_forms p0.toNatClampNeg) ∧ 40 ≤ DG (f_t_forms p0.toNatClampNeg) + DG (f_t_forms p0.toNatClampNeg)) := h20
        refine ok_eq (fun c21 => ?_) (fun c21 => ?_)
        · refine ok_c (ixo (by omega) (by omega)) ?_
          refine ok_c (ixo (by omega) (by omega)) ?_
          try have a22 := FA_at (f := f_t_forms) (by assumption) p0.toNatClampNeg
          try have a23 := FA_at (f := f_t_forms) (by assumption) p0.toNatClampNeg
          refine ok_o (sp_X9_productOf (f_t_forms p0.toNatClampNeg) (f_t_forms p0.toNatClampNeg) (by first | omega | assumption | trivial | exact wt_of (by assumption) (by omega)) (by first | omega | assumption | trivial | exact wt_of (by assumption) (by omega))) (fun r68_2 h24 => ?_)
          have h24 : ((DG (f_t_forms p0.toNatClampNeg) = -1 ∨ DG (f_t_forms p0.toNatClampNeg) = -1) ∧ DG r68_2 = -1) ∨ (0 ≤ DG (f_t_forms p0.toNatClampNeg) ∧ 0 ≤ DG (f_t_forms p0.toNatClampNeg) ∧ DG r68_2 = DG (f_t_forms p0.toNatClampNeg) + DG (f_t_forms p0.toNatClampNeg)) := h24
          refine ok_o3 (sp_X9_give c_t_acts f_t_forms p1 r68_2 (by first | omega | assumption | trivial | exact wt_of (by assumption) (by omega)) (by first | omega | assumption | trivial | exact wt_of (by assumption) (by omega)) (by first | omega | assumption | trivial | exact wt_of (by assumption) (by omega)) (by first | omega | assumption | trivial | exact wt_of (by assumption) (by omega))) (fun r71_2 c_t_acts_71_2 f_t_forms_71_2 h25 => ?_)
          have h25 : FA f_t_forms_71_2 := h25
          exact ok_s (show FA f_t_forms_71_2 from by first | omega | assumption | trivial | (refine ⟨?_, ?_⟩ <;> first | omega | assumption | trivial | rfl) | (refine ⟨?_, ?_, ?_⟩ <;> first | omega | assumption | trivial | rfl) | (refine ⟨?_, ?_, ?_, ?_⟩ <;> first | omega | assumption | trivial | rfl) | (refine ⟨?_, ?_, ?_, ?_, ?_⟩ <;> first | omega | assumption | trivial | rfl) | (refine ⟨?_, ?_, ?_, ?_, ?_, ?_⟩ <;> first | omega | assumption | trivial | rfl) | (refine ⟨?_, ?_, ?_, ?_, ?_, ?_, ?_⟩ <;> first | omega | assumption | trivial | rfl) | (refine ⟨?_, ?_, ?_, ?_, ?_, ?_, ?_, ?_⟩ <;> first | omega | assumption | trivial | rfl))
        · refine ok_o2 (sp_X9_no c_t_refused ) (fun r48_2 c_t_refused_48_2 h26 => ?_)
          exact ok_s (show FA f_t_forms from by first | omega | assumption | trivial | (refine ⟨?_, ?_⟩ <;> first | omega | assumption | trivial | rfl) | (refine ⟨?_, ?_, ?_⟩ <;> first | omega | assumption | trivial | rfl) | (refine ⟨?_, ?_, ?_, ?_⟩ <;> first | omega | assumption | trivial | rfl) | (refine ⟨?_, ?_, ?_, ?_, ?_⟩ <;> first | omega | assumption | trivial | rfl) | (refine ⟨?_, ?_, ?_, ?_, ?_, ?_⟩ <;> first | omega | assumption | trivial | rfl) | (refine ⟨?_, ?_, ?_, ?_, ?_, ?_, ?_⟩ <;> first | omega | assumption | trivial | rfl) | (refine ⟨?_, ?_, ?_, ?_, ?_, ?_, ?_, ?_⟩ <;> first | omega | assumption | trivial | rfl))
      · exact ok_s (show FA f_t_forms from by first | omega | assumption | trivial | (refine ⟨?_, ?_⟩ <;> first | omega | assumption | trivial | rfl) | (refine ⟨?_, ?_, ?_⟩ <;> first | omega | assumption | trivial | rfl) | (refine ⟨?_, ?_, ?_, ?_⟩ <;> first | omega | assumption | trivial | rfl) | (refine ⟨?_, ?_, ?_, ?_, ?_⟩ <;> first | omega | assumption | trivial | rfl) | (refine ⟨?_, ?_, ?_, ?_, ?_, ?_⟩ <;> first | omega | assumption | trivial | rfl) | (refine ⟨?_, ?_, ?_, ?_, ?_, ?_, ?_⟩ <;> first | omega | assumption | trivial | rfl) | (refine ⟨?_, ?_, ?_, ?_, ?_, ?_, ?_, ?_⟩ <;> first | omega | assumption | trivial | rfl))
    · first | unfold J_X9_square_20 | skip
      refine ok_o2 (sp_X9_isThrown_ (0 : Int32) ) (fun r20_3 c_t_thrown_20_3 h27 => ?_)
      have h27 : (r20_3.toInt = 0 ∧ c_t_thrown_20_3.toInt = 0 ∧ (0 : Int32).toInt = 0) ∨ (r20_3.toInt = 1 ∧ c_t_thrown_20_3.toInt = 1 ∧ (0 : Int32).toInt ≠ 0) := h27
      refine ok_eq (fun c28 => ?_) (fun c28 => ?_)
      · refine ok_c (ixo (by omega) (by omega)) ?_
        refine ok_c (ixo (by omega) (by omega)) ?_
        try have a29 := FA_at (f := f_t_forms) (by assumption) p0.toNatClampNeg
        try have a30 := FA_at (f := f_t_forms) (by assumption) p0.toNatClampNeg
        refine ok_o (sp_X9_isTooHigh (f_t_forms p0.toNatClampNeg) (f_t_forms p0.toNatClampNeg) (by first | omega | assumption | trivial | exact wt_of (by assumption) (by omega)) (by first | omega | assumption | trivial | exact wt_of (by assumption) (by omega))) (fun r41_3 h31 => ?_)
        have h31 : (r41_3.toInt = 0 ∧ (DG (f_t_forms p0.toNatClampNeg) = -1 ∨ DG (f_t_forms p0.toNatClampNeg) = -1 ∨ DG (f_t_forms p0.toNatClampNeg) + DG (f_t_forms p0.toNatClampNeg) ≤ 39)) ∨ (r41_3.toInt = 1 ∧ 0 ≤ DG (f_t_forms p0.toNatClampNeg) ∧ 0 ≤ DG (f_t_forms p0.toNatClampNeg) ∧ 40 ≤ DG (f_t_forms p0.toNatClampNeg) + DG (f_t_forms p0.toNatClampNeg)) := h31
        refine ok_eq (fun c32 => ?_) (fun c32 => ?_)
        · refine ok_c (ixo (by omega) (by omega)) ?_
          refine ok_c (ixo (by omega) (by omega)) ?_
          try have a33 := FA_at (f := f_t_forms) (by assumption) p0.toNatClampNeg
          try have a34 := FA_at (f := f_t_forms) (by assumption) p0.toNatClampNeg
          refine ok_o (sp_X9_productOf (f_t_forms p0.toNatClampNeg) (f_t_forms p0.toNatClampNeg) (by first | omega | assumption | trivial | exact wt_of (by assumption) (by omega)) (by first | omega | assumption | trivial | exact wt_of (by assumption) (by omega))) (fun r68_3 h35 => ?_)
          have h35 : ((DG (f_t_forms p0.toNatClampNeg) = -1 ∨ DG (f_t_forms p0.toNatClampNeg) = -1) ∧ DG r68_3 = -1) ∨ (0 ≤ DG (f_t_forms p0.toNatClampNeg) ∧ 0 ≤ DG (f_t_forms p0.toNatClampNeg) ∧ DG r68_3 = DG (f_t_forms p0.toNatClampNeg) + DG (f_t_forms p0.toNatClampNeg)) := h35
          refine ok_o3 (sp_X9_give c_t_acts f_t_forms p1 r68_3 (by first | omega | assumption | trivial | exact wt_of (by assumption) (by omega)) (by first | omega | assumption | trivial | exact wt_of (by assumption) (by omega)) (by first | omega | assumption | trivial | exact wt_of (by assumption) (by omega)) (by first | omega | assumption | trivial | exact wt_of (by assumption) (by omega))) (fun r71_3 c_t_acts_71_3 f_t_forms_71_3 h36 => ?_)
          have h36 : FA f_t_forms_71_3 := h36
          exact ok_s (show FA f_t_forms_71_3 from by first | omega | assumption | trivial | (refine ⟨?_, ?_⟩ <;> first | omega | assumption | trivial | rfl) | (refine ⟨?_, ?_, ?_⟩ <;> first | omega | assumption | trivial | rfl) | (refine ⟨?_, ?_, ?_, ?_⟩ <;> first | omega | assumption | trivial | rfl) | (refine ⟨?_, ?_, ?_, ?_, ?_⟩ <;> first | omega | assumption | trivial | rfl) | (refine ⟨?_, ?_, ?_, ?_, ?_, ?_⟩ <;> first | omega | assumption | trivial | rfl) | (refine ⟨?_, ?_, ?_, ?_, ?_, ?_, ?_⟩ <;> first | omega | assumption | trivial | rfl) | (refine ⟨?_, ?_, ?_, ?_, ?_, ?_, ?_, ?_⟩ <;> first | omega | assumption | trivial | rfl))
        · refine ok_o2 (sp_X9_no c_t_refused ) (fun r48_3 c_t_refused_48_3 h37 => ?_)
          exact ok_s (show FA f_t_forms from by first | omega | assumption | trivial | (refine ⟨?_, ?_⟩ <;> first | omega | assumption | trivial | rfl) | (refine ⟨?_, ?_, ?_⟩ <;> first | omega | assumption | trivial | rfl) | (refine ⟨?_, ?_, ?_, ?_⟩ <;> first | omega | assumption | trivial | rfl) | (refine ⟨?_, ?_, ?_, ?_, ?_⟩ <;> first | omega | assumption | trivial | rfl) | (refine ⟨?_, ?_, ?_, ?_, ?_, ?_⟩ <;> first | omega | assumption | trivial | rfl) | (refine ⟨?_, ?_, ?_, ?_, ?_, ?_, ?_⟩ <;> first | omega | assumption | trivial | rfl) | (refine ⟨?_, ?_, ?_, ?_, ?_, ?_, ?_, ?_⟩ <;> first | omega | assumption | trivial | rfl))
      · exact ok_s (show FA f_t_forms from by first | omega | assumption | trivial | (refine ⟨?_, ?_⟩ <;> first | omega | assumption | trivial | rfl) | (refine ⟨?_, ?_, ?_⟩ <;> first | omega | assumption | trivial | rfl) | (refine ⟨?_, ?_, ?_, ?_⟩ <;> first | omega | assumption | trivial | rfl) | (refine ⟨?_, ?_, ?_, ?_, ?_⟩ <;> first | omega | assumption | trivial | rfl) | (refine ⟨?_, ?_, ?_, ?_, ?_, ?_⟩ <;> first | omega | assumption | trivial | rfl) | (refine ⟨?_, ?_, ?_, ?_, ?_, ?_, ?_⟩ <;> first | omega | assumption | trivial | rfl) | (refine ⟨?_, ?_, ?_, ?_, ?_, ?_, ?_, ?_⟩ <;> first | omega | assumption | trivial | rfl))
set_option maxHeartbeats 1000000 in
theorem sp_X9_divide (c_t_acts : Int32) (c_t_refused : Int32) (f_t_forms : Nat → Int64) (p0 : Int32) (p1 : Int32) (p2 : Int32) (hp0 : FA f_t_forms) : ok (F_X9_divide c_t_acts c_t_refused f_t_forms p0 p1 p2) (fun r => FA r.2.2.2.2) := by
  have l032 : (0 : Int32).toInt = 0 := by decide
  have l064 : (0 : Int64).toInt = 0 := by decide
  unfold F_X9_divide
  refine ok_o2 (sp_X9_areNot p0 p1 p2 ) (fun r4 c_t_thrown_4 h1 => ?_)
  have h1 : (r4.toInt = 0 ∧ c_t_thrown_4.toInt = 0 ∧ 0 ≤ p0.toInt ∧ p0.toInt ≤ 5 ∧ 0 ≤ p1.toInt ∧ p1.toInt ≤ 5 ∧ 0 ≤ p2.toInt ∧ p2.toInt ≤ 5) ∨ (r4.toInt = 1 ∧ c_t_thrown_4.toInt = 1) := h1
  refine ok_eq (fun c2 => ?_) (fun c2 => ?_)
  · refine ok_c (ixo (by omega) (by omega)) ?_
    try have a4 := FA_at (f := f_t_forms) (by assumption) p1.toNatClampNeg
    have z_c3 := DG_z (f_t_forms p1.toNatClampNeg)
    refine ok_eqL (fun c3 => ?_) (fun c3 => ?_)
    · refine ok_o2 (sp_X9_no c_t_refused ) (fun r24 c_t_refused_24 h5 => ?_)
      exact ok_s (show FA f_t_forms from by first | omega | assumption | trivial | (refine ⟨?_, ?_⟩ <;> first | omega | assumption | trivial | rfl) | (refine ⟨?_, ?_, ?_⟩ <;> first | omega | assumption | trivial | rfl) | (refine ⟨?_, ?_, ?_, ?_⟩ <;> first | omega | assumption | trivial | rfl) | (refine ⟨?_, ?_, ?_, ?_, ?_⟩ <;> first | omega | assumption | trivial | rfl) | (refine ⟨?_, ?_, ?_, ?_, ?_, ?_⟩ <;> first | omega | assumption | trivial | rfl) | (refine ⟨?_, ?_, ?_, ?_, ?_, ?_, ?_⟩ <;> first | omega | assumption | trivial | rfl) | (refine ⟨?_, ?_, ?_, ?_, ?_, ?_, ?_, ?_⟩ <;> first | omega | assumption | trivial | rfl))
    · refine ok_c (ixo (by omega) (by omega)) ?_
      refine ok_c (ixo (by omega) (by omega)) ?_
      try have a6 := FA_at (f := f_t_forms) (by assumption) p0.toNatClampNeg
      try have a7 := FA_at (f := f_t_forms) (by assumption) p1.toNatClampNeg
      refine ok_o (sp_X9_quotientOf (f_t_forms p0.toNatClampNeg) (f_t_forms p1.toNatClampNeg) (by first | omega | assumption | trivial | exact wt_of (by assumption) (by omega)) (by first | omega | assumption | trivial | exact wt_of (by assumption) (by omega)) (by first | omega | assumption | trivial | exact wt_of (by assumption) (by omega))) (fun r44 h8 => ?_)
      have h8 : (DG (f_t_forms p0.toNatClampNeg) < DG (f_t_forms p1.toNatClampNeg) ∧ DG r44 = -1) ∨ (DG (f_t_forms p1.toNatClampNeg) ≤ DG (f_t_forms p0.toNatClampNeg) ∧ DG r44 = DG (f_t_forms p0.toNatClampNeg) - DG (f_t_forms p1.toNatClampNeg)) := h8
      refine ok_o3 (sp_X9_give c_t_acts f_t_forms p2 r44 (by first | omega | assumption | trivial | exact wt_of (by assumption) (by omega)) (by first | omega | assumption | trivial | exact wt_of (by assumption) (by omega)) (by first | omega | assumption | trivial | exact wt_of (by assumption) (by omega)) (by first | omega | assumption | trivial | exact wt_of (by assumption) (by omega))) (fun r47 c_t_acts_47 f_t_forms_47 h9 => ?_)
      have h9 : FA f_t_forms_47 := h9
      exact ok_s (show FA f_t_forms_47 from by first | omega | assumption | trivial | (refine ⟨?_, ?_⟩ <;> first | omega | assumption | trivial | rfl) | (refine ⟨?_, ?_, ?_⟩ <;> first | omega | assumption | trivial | rfl) | (refine ⟨?_, ?_, ?_, ?_⟩ <;> first | omega | assumption | trivial | rfl) | (refine ⟨?_, ?_, ?_, ?_, ?_⟩ <;> first | omega | assumption | trivial | rfl) | (refine ⟨?_, ?_, ?_, ?_, ?_, ?_⟩ <;> first | omega | assumption | trivial | rfl) | (refine ⟨?_, ?_, ?_, ?_, ?_, ?_, ?_⟩ <;> first | omega | assumption | trivial | rfl) | (refine ⟨?_, ?_, ?_, ?_, ?_, ?_, ?_, ?_⟩ <;> first | omega | assumption | trivial | rfl))
  · exact ok_s (show FA f_t_forms from by first | omega | assumption | trivial | (refine ⟨?_, ?_⟩ <;> first | omega | assumption | trivial | rfl) | (refine ⟨?_, ?_, ?_⟩ <;> first | omega | assumption | trivial | rfl) | (refine ⟨?_, ?_, ?_, ?_⟩ <;> first | omega | assumption | trivial | rfl) | (refine ⟨?_, ?_, ?_, ?_, ?_⟩ <;> first | omega | assumption | trivial | rfl) | (refine ⟨?_, ?_, ?_, ?_, ?_, ?_⟩ <;> first | omega | assumption | trivial | rfl) | (refine ⟨?_, ?_, ?_, ?_, ?_, ?_, ?_⟩ <;> first | omega | assumption | trivial | rfl) | (refine ⟨?_, ?_, ?_, ?_, ?_, ?_, ?_, ?_⟩ <;> first | omega | assumption | trivial | rfl))
set_option maxHeartbeats 1000000 in
theorem sp_X9_remain (c_t_acts : Int32) (c_t_refused : Int32) (f_t_forms : Nat → Int64) (p0 : Int32) (p1 : Int32) (p2 : Int32) (hp0 : FA f_t_forms) : ok (F_X9_remain c_t_acts c_t_refused f_t_forms p0 p1 p2) (fun r => FA r.2.2.2.2) := by
  have l032 : (0 : Int32).toInt = 0 := by decide
  have l064 : (0 : Int64).toInt = 0 := by decide
  unfold F_X9_remain
  refine ok_o2 (sp_X9_areNot p0 p1 p2 ) (fun r4 c_t_thrown_4 h1 => ?_)
  have h1 : (r4.toInt = 0 ∧ c_t_thrown_4.toInt = 0 ∧ 0 ≤ p0.toInt ∧ p0.toInt ≤ 5 ∧ 0 ≤ p1.toInt ∧ p1.toInt ≤ 5 ∧ 0 ≤ p2.toInt ∧ p2.toInt ≤ 5) ∨ (r4.toInt = 1 ∧ c_t_thrown_4.toInt = 1) := h1
  refine ok_eq (fun c2 => ?_) (fun c2 => ?_)
  · refine ok_c (ixo (by omega) (by omega)) ?_
    try have a4 := FA_at (f := f_t_forms) (by assumption) p1.toNatClampNeg
    have z_c3 := DG_z (f_t_forms p1.toNatClampNeg)
    refine ok_eqL (fun c3 => ?_) (fun c3 => ?_)
    · refine ok_o2 (sp_X9_no c_t_refused ) (fun r24 c_t_refused_24 h5 => ?_)
      exact ok_s (show FA f_t_forms from by first | omega | assumption | trivial | (refine ⟨?_, ?_⟩ <;> first | omega | assumption | trivial | rfl) | (refine ⟨?_, ?_, ?_⟩ <;> first | omega | assumption | trivial | rfl) | (refine ⟨?_, ?_, ?_, ?_⟩ <;> first | omega | assumption | trivial | rfl) | (refine ⟨?_, ?_, ?_, ?_, ?_⟩ <;> first | omega | assumption | trivial | rfl) | (refine ⟨?_, ?_, ?_, ?_, ?_, ?_⟩ <;> first | omega | assumption | trivial | rfl) | (refine ⟨?_, ?_, ?_, ?_, ?_, ?_, ?_⟩ <;> first | omega | assumption | trivial | rfl) | (refine ⟨?_, ?_, ?_, ?_, ?_, ?_, ?_, ?_⟩ <;> first | omega | assumption | trivial | rfl))
    · refine ok_c (ixo (by omega) (by omega)) ?_
      refine ok_c (ixo (by omega) (by omega)) ?_
      try have a6 := FA_at (f := f_t_forms) (by assumption) p0.toNatClampNeg
      try have a7 := FA_at (f := f_t_forms) (by assumption) p1.toNatClampNeg
      refine ok_o (sp_X9_restOf (f_t_forms p0.toNatClampNeg) (f_t_forms p1.toNatClampNeg) (by first | omega | assumption | trivial | exact wt_of (by assumption) (by omega)) (by first | omega | assumption | trivial | exact wt_of (by assumption) (by omega)) (by first | omega | assumption | trivial | exact wt_of (by assumption) (by omega))) (fun r44 h8 => ?_)
      have h8 : -1 ≤ DG r44 ∧ DG r44 < DG (f_t_forms p1.toNatClampNeg) ∧ DG r44 ≤ DG (f_t_forms p0.toNatClampNeg) := h8
      refine ok_o3 (sp_X9_give c_t_acts f_t_forms p2 r44 (by first | omega | assumption | trivial | exact wt_of (by assumption) (by omega)) (by first | omega | assumption | trivial | exact wt_of (by assumption) (by omega)) (by first | omega | assumption | trivial | exact wt_of (by assumption) (by omega)) (by first | omega | assumption | trivial | exact wt_of (by assumption) (by omega))) (fun r47 c_t_acts_47 f_t_forms_47 h9 => ?_)
      have h9 : FA f_t_forms_47 := h9
      exact ok_s (show FA f_t_forms_47 from by first | omega | assumption | trivial | (refine ⟨?_, ?_⟩ <;> first | omega | assumption | trivial | rfl) | (refine ⟨?_, ?_, ?_⟩ <;> first | omega | assumption | trivial | rfl) | (refine ⟨?_, ?_, ?_, ?_⟩ <;> first | omega | assumption | trivial | rfl) | (refine ⟨?_, ?_, ?_, ?_, ?_⟩ <;> first | omega | assumption | trivial | rfl) | (refine ⟨?_, ?_, ?_, ?_, ?_, ?_⟩ <;> first | omega | assumption | trivial | rfl) | (refine ⟨?_, ?_, ?_, ?_, ?_, ?_, ?_⟩ <;> first | omega | assumption | trivial | rfl) | (refine ⟨?_, ?_, ?_, ?_, ?_, ?_, ?_, ?_⟩ <;> first | omega | assumption | trivial | rfl))
  · exact ok_s (show FA f_t_forms from by first | omega | assumption | trivial | (refine ⟨?_, ?_⟩ <;> first | omega | assumption | trivial | rfl) | (refine ⟨?_, ?_, ?_⟩ <;> first | omega | assumption | trivial | rfl) | (refine ⟨?_, ?_, ?_, ?_⟩ <;> first | omega | assumption | trivial | rfl) | (refine ⟨?_, ?_, ?_, ?_, ?_⟩ <;> first | omega | assumption | trivial | rfl) | (refine ⟨?_, ?_, ?_, ?_, ?_, ?_⟩ <;> first | omega | assumption | trivial | rfl) | (refine ⟨?_, ?_, ?_, ?_, ?_, ?_, ?_⟩ <;> first | omega | assumption | trivial | rfl) | (refine ⟨?_, ?_, ?_, ?_, ?_, ?_, ?_, ?_⟩ <;> first | omega | assumption | trivial | rfl))
set_option maxHeartbeats 1000000 in
theorem sp_X9_common (c_t_acts : Int32) (f_t_forms : Nat → Int64) (p0 : Int32) (p1 : Int32) (p2 : Int32) (hp0 : FA f_t_forms) : ok (F_X9_common c_t_acts f_t_forms p0 p1 p2) (fun r => FA r.2.2.2) := by
  have l032 : (0 : Int32).toInt = 0 := by decide
  unfold F_X9_common
  refine ok_o2 (sp_X9_areNot p0 p1 p2 ) (fun r4 c_t_thrown_4 h1 => ?_)
  have h1 : (r4.toInt = 0 ∧ c_t_thrown_4.toInt = 0 ∧ 0 ≤ p0.toInt ∧ p0.toInt ≤ 5 ∧ 0 ≤ p1.toInt ∧ p1.toInt ≤ 5 ∧ 0 ≤ p2.toInt ∧ p2.toInt ≤ 5) ∨ (r4.toInt = 1 ∧ c_t_thrown_4.toInt = 1) := h1
  refine ok_eq (fun c2 => ?_) (fun c2 => ?_)
  · refine ok_c (ixo (by omega) (by omega)) ?_
    refine ok_c (ixo (by omega) (by omega)) ?_
    try have a3 := FA_at (f := f_t_forms) (by assumption) p0.toNatClampNeg
    try have a4 := FA_at (f := f_t_forms) (by assumption) p1.toNatClampNeg
    refine ok_o (sp_X9_commonOf (f_t_forms p0.toNatClampNeg) (f_t_forms p1.toNatClampNeg) (by first | omega | assumption | trivial | exact wt_of (by assumption) (by omega)) (by first | omega | assumption | trivial | exact wt_of (by assumption) (by omega))) (fun r28 h5 => ?_)
    have h5 : DG r28 ≤ 39 := h5
    refine ok_o3 (sp_X9_give c_t_acts f_t_forms p2 r28 (by first | omega | assumption | trivial | exact wt_of (by assumption) (by omega)) (by first | omega | assumption | trivial | exact wt_of (by assumption) (by omega)) (by first | omega | assumption | trivial | exact wt_of (by assumption) (by omega)) (by first | omega | assumption | trivial | exact wt_of (by assumption) (by omega))) (fun r31 c_t_acts_31 f_t_forms_31 h6 => ?_)
    have h6 : FA f_t_forms_31 := h6
    exact ok_s (show FA f_t_forms_31 from by first | omega | assumption | trivial | (refine ⟨?_, ?_⟩ <;> first | omega | assumption | trivial | rfl) | (refine ⟨?_, ?_, ?_⟩ <;> first | omega | assumption | trivial | rfl) | (refine ⟨?_, ?_, ?_, ?_⟩ <;> first | omega | assumption | trivial | rfl) | (refine ⟨?_, ?_, ?_, ?_, ?_⟩ <;> first | omega | assumption | trivial | rfl) | (refine ⟨?_, ?_, ?_, ?_, ?_, ?_⟩ <;> first | omega | assumption | trivial | rfl) | (refine ⟨?_, ?_, ?_, ?_, ?_, ?_, ?_⟩ <;> first | omega | assumption | trivial | rfl) | (refine ⟨?_, ?_, ?_, ?_, ?_, ?_, ?_, ?_⟩ <;> first | omega | assumption | trivial | rfl))
  · exact ok_s (show FA f_t_forms from by first | omega | assumption | trivial | (refine ⟨?_, ?_⟩ <;> first | omega | assumption | trivial | rfl) | (refine ⟨?_, ?_, ?_⟩ <;> first | omega | assumption | trivial | rfl) | (refine ⟨?_, ?_, ?_, ?_⟩ <;> first | omega | assumption | trivial | rfl) | (refine ⟨?_, ?_, ?_, ?_, ?_⟩ <;> first | omega | assumption | trivial | rfl) | (refine ⟨?_, ?_, ?_, ?_, ?_, ?_⟩ <;> first | omega | assumption | trivial | rfl) | (refine ⟨?_, ?_, ?_, ?_, ?_, ?_, ?_⟩ <;> first | omega | assumption | trivial | rfl) | (refine ⟨?_, ?_, ?_, ?_, ?_, ?_, ?_, ?_⟩ <;> first | omega | assumption | trivial | rfl))
set_option maxHeartbeats 1000000 in
theorem sp_X9_multipliers (c_t_acts : Int32) (c_t_thrown : Int32) (f_t_forms : Nat → Int64) (p0 : Int32) (p1 : Int32) (p2 : Int32) (p3 : Int32) (hp0 : FA f_t_forms) : ok (F_X9_multipliers c_t_acts c_t_thrown f_t_forms p0 p1 p2 p3) (fun r => FA r.2.2.2) := by
  have l032 : (0 : Int32).toInt = 0 := by decide
  have l064 : (0 : Int64).toInt = 0 := by decide
  have l132 : (1 : Int32).toInt = 1 := by decide
  have l164 : (1 : Int64).toInt = 1 := by decide
  have l232 : (2 : Int32).toInt = 2 := by decide
  have l332 : (3 : Int32).toInt = 3 := by decide
  unfold F_X9_multipliers
  refine ok_o (sp_X9_isForm p0 ) (fun r2 h1 => ?_)
  have h1 : (r2.toInt = 1 ∧ 0 ≤ p0.toInt ∧ p0.toInt ≤ 5) ∨ (r2.toInt = 0 ∧ (p0.toInt < 0 ∨ 6 ≤ p0.toInt)) := h1
  refine ok_eq (fun c2 => ?_) (fun c2 => ?_)
  · first | unfold J_X9_multipliers_30 | skip
    first | unfold J_X9_multipliers_35 | skip
    refine ok_eq (fun c3 => ?_) (fun c3 => ?_)
    · first | unfold J_X9_multipliers_46 | skip
      refine ok_o2 (sp_X9_isThrown (1 : Int32) (1 : Int32) ) (fun r46 c_t_thrown_46 h4 => ?_)
      have h4 : (r46.toInt = 0 ∧ c_t_thrown_46.toInt = 0 ∧ (1 : Int32).toInt = 0 ∧ (1 : Int32).toInt = 0) ∨ (r46.toInt = 1 ∧ c_t_thrown_46.toInt = 1 ∧ (1 : Int32).toInt ≠ 0) ∨ (r46.toInt = 1 ∧ c_t_thrown_46.toInt = 2 ∧ (1 : Int32).toInt = 0 ∧ (1 : Int32).toInt ≠ 0) := h4
      refine ok_eq (fun c5 => ?_) (fun c5 => ?_)
      · refine ok_c (ixo (by omega) (by omega)) ?_
        try have a6 := FA_at (f := f_t_forms) (by assumption) p0.toNatClampNeg
        refine ok_bx (fun f_n55_65 e_f_n55_65 => ?_)
        try have t_f_n55_65 : FA f_n55_65 := by rw [e_f_n55_65]; exact FA_upd (by first | assumption | exact FA_0) _ (by first | omega | assumption | trivial)
        refine ok_bx (fun f_n55_69 e_f_n55_69 => ?_)
        try have t_f_n55_69 : FA f_n55_69 := by rw [e_f_n55_69]; exact FA_upd (by first | assumption | exact FA_0) _ (by first | omega | assumption | trivial)
        refine ok_bx (fun f_n55_73 e_f_n55_73 => ?_)
        try have t_f_n55_73 : FA f_n55_73 := by rw [e_f_n55_73]; exact FA_upd (by first | assumption | exact FA_0) _ (by first | omega | assumption | trivial)
        refine ok_c (ixo (by omega) (by omega)) ?_
        try have a7 := FA_at (f := f_t_forms) (by assumption) p1.toNatClampNeg
        refine ok_bx (fun f_n77_87 e_f_n77_87 => ?_)
        try have t_f_n77_87 : FA f_n77_87 := by rw [e_f_n77_87]; exact FA_upd (by first | assumption | exact FA_0) _ (by first | omega | assumption | trivial)
        refine ok_bx (fun f_n77_91 e_f_n77_91 => ?_)
        try have t_f_n77_91 : FA f_n77_91 := by rw [e_f_n77_91]; exact FA_upd (by first | assumption | exact FA_0) _ (by first | omega | assumption | trivial)
        refine ok_bx (fun f_n77_95 e_f_n77_95 => ?_)
        try have t_f_n77_95 : FA f_n77_95 := by rw [e_f_n77_95]; exact FA_upd (by first | assumption | exact FA_0) _ (by first | omega | assumption | trivial)
        refine mi_loop _ (fun f_n55_98_173 f_n77_98_173 hI8 => ?_) _ _ (by rw [e_f_n55_73, e_f_n55_69, e_f_n55_65, e_f_n77_95, e_f_n77_91, e_f_n77_87]; exact mi_init (by omega) (by omega))
        have m1 : DG (f_n55_98_173 (1 : Int32).toNatClampNeg) ≤ 39 := (hI8.2.2 1 (Or.inl rfl)).1
        have m2 : DG (f_n55_98_173 (2 : Int32).toNatClampNeg) ≤ 39 := (hI8.2.2 2 (Or.inr rfl)).1
        refine ok_c (ixo (by omega) (by omega)) ?_
        try have a9 := FA_at (f := f_n55_98_173) (by assumption) (1 : Int32).toNatClampNeg
        refine ok_bx (fun f_t_forms_182 e_f_t_forms_182 => ?_)
        try have t_f_t_forms_182 : FA f_t_forms_182 := by rw [e_f_t_forms_182]; exact FA_upd (by first | assumption | exact FA_0) _ (by first | omega | assumption | trivial)
        refine ok_c (ixo (by omega) (by omega)) ?_
        try have a10 := FA_at (f := f_n55_98_173) (by assumption) (2 : Int32).toNatClampNeg
        refine ok_bx (fun f_t_forms_193 e_f_t_forms_193 => ?_)
        try have t_f_t_forms_193 : FA f_t_forms_193 := by rw [e_f_t_forms_193]; exact FA_upd (by first | assumption | exact FA_0) _ (by first | omega | assumption | trivial)
        try have a11 := FA_at (f := f_n55_98_173) (by assumption) (0 : Int32).toNatClampNeg
        refine ok_o (sp_X9_degreeOf (f_n55_98_173 (0 : Int32).toNatClampNeg) ) (fun r199 h12 => ?_)
        have h12 : r199.toInt = DG (f_n55_98_173 (0 : Int32).toNatClampNeg) ∧ -1 ≤ r199.toInt ∧ r199.toInt ≤ 63 := h12
        refine ok_o2 (sp_X9_done c_t_acts r199 ) (fun r202 c_t_acts_202 h13 => ?_)
        exact ok_s (show FA f_t_forms_193 from by first | omega | assumption | trivial | (refine ⟨?_, ?_⟩ <;> first | omega | assumption | trivial | rfl) | (refine ⟨?_, ?_, ?_⟩ <;> first | omega | assumption | trivial | rfl) | (refine ⟨?_, ?_, ?_, ?_⟩ <;> first | omega | assumption | trivial | rfl) | (refine ⟨?_, ?_, ?_, ?_, ?_⟩ <;> first | omega | assumption | trivial | rfl) | (refine ⟨?_, ?_, ?_, ?_, ?_, ?_⟩ <;> first | omega | assumption | trivial | rfl) | (refine ⟨?_, ?_, ?_, ?_, ?_, ?_, ?_⟩ <;> first | omega | assumption | trivial | rfl) | (refine ⟨?_, ?_, ?_, ?_, ?_, ?_, ?_, ?_⟩ <;> first | omega | assumption | trivial | rfl))
      · exact ok_s (show FA f_t_forms from by first | omega | assumption | trivial | (refine ⟨?_, ?_⟩ <;> first | omega | assumption | trivial | rfl) | (refine ⟨?_, ?_, ?_⟩ <;> first | omega | assumption | trivial | rfl) | (refine ⟨?_, ?_, ?_, ?_⟩ <;> first | omega | assumption | trivial | rfl) | (refine ⟨?_, ?_, ?_, ?_, ?_⟩ <;> first | omega | assumption | trivial | rfl) | (refine ⟨?_, ?_, ?_, ?_, ?_, ?_⟩ <;> first | omega | assumption | trivial | rfl) | (refine ⟨?_, ?_, ?_, ?_, ?_, ?_, ?_⟩ <;> first | omega | assumption | trivial | rfl) | (refine ⟨?_, ?_, ?_, ?_, ?_, ?_, ?_, ?_⟩ <;> first | omega | assumption | trivial | rfl))
    · first | unfold J_X9_multipliers_46 | skip
      refine ok_o2 (sp_X9_isThrown (1 : Int32) (0 : Int32) ) (fun r46_2 c_t_thrown_46_2 h14 => ?_)
      have h14 : (r46_2.toInt = 0 ∧ c_t_thrown_46_2.toInt = 0 ∧ (1 : Int32).toInt = 0 ∧ (0 : Int32).toInt = 0) ∨ (r46_2.toInt = 1 ∧ c_t_thrown_46_2.toInt = 1 ∧ (1 : Int32).toInt ≠ 0) ∨ (r46_2.toInt = 1 ∧ c_t_thrown_46_2.toInt = 2 ∧ (1 : Int32).toInt = 0 ∧ (0 : Int32).toInt ≠ 0) := h14
      refine ok_eq (fun c15 => ?_) (fun c15 => ?_)
      · refine ok_c (ixo (by omega) (by omega)) ?_
        try have a16 := FA_at (f := f_t_forms) (by assumption) p0.toNatClampNeg
        refine ok_bx (fun f_n55_65_2 e_f_n55_65_2 => ?_)
        try have t_f_n55_65_2 : FA f_n55_65_2 := by rw [e_f_n55_65_2]; exact FA_upd (by first | assumption | exact FA_0) _ (by first | omega | assumption | trivial)
        refine ok_bx (fun f_n55_69_2 e_f_n55_69_2 => ?_)
        try have t_f_n55_69_2 : FA f_n55_69_2 := by rw [e_f_n55_69_2]; exact FA_upd (by first | assumption | exact FA_0) _ (by first | omega | assumption | trivial)
        refine ok_bx (fun f_n55_73_2 e_f_n55_73_2 => ?_)
        try have t_f_n55_73_2 : FA f_n55_73_2 := by rw [e_f_n55_73_2]; exact FA_upd (by first | assumption | exact FA_0) _ (by first | omega | assumption | trivial)
        refine ok_c (ixo (by omega) (by omega)) ?_
        try have a17 := FA_at (f := f_t_forms) (by assumption) p1.toNatClampNeg
        refine ok_bx (fun f_n77_87_2 e_f_n77_87_2 => ?_)
        try have t_f_n77_87_2 : FA f_n77_87_2 := by rw [e_f_n77_87_2]; exact FA_upd (by first | assumption | exact FA_0) _ (by first | omega | assumption | trivial)
        refine ok_bx (fun f_n77_91_2 e_f_n77_91_2 => ?_)
        try have t_f_n77_91_2 : FA f_n77_91_2 := by rw [e_f_n77_91_2]; exact FA_upd (by first | assumption | exact FA_0) _ (by first | omega | assumption | trivial)
        refine ok_bx (fun f_n77_95_2 e_f_n77_95_2 => ?_)
        try have t_f_n77_95_2 : FA f_n77_95_2 := by rw [e_f_n77_95_2]; exact FA_upd (by first | assumption | exact FA_0) _ (by first | omega | assumption | trivial)
        refine mi_loop _ (fun f_n55_98_173_2 f_n77_98_173_2 hI18 => ?_) _ _ (by rw [e_f_n55_73_2, e_f_n55_69_2, e_f_n55_65_2, e_f_n77_95_2, e_f_n77_91_2, e_f_n77_87_2]; exact mi_init (by omega) (by omega))
        have m1 : DG (f_n55_98_173_2 (1 : Int32).toNatClampNeg) ≤ 39 := (hI18.2.2 1 (Or.inl rfl)).1
        have m2 : DG (f_n55_98_173_2 (2 : Int32).toNatClampNeg) ≤ 39 := (hI18.2.2 2 (Or.inr rfl)).1
        refine ok_c (ixo (by omega) (by omega)) ?_
        try have a19 := FA_at (f := f_n55_98_173_2) (by assumption) (1 : Int32).toNatClampNeg
        refine ok_bx (fun f_t_forms_182_2 e_f_t_forms_182_2 => ?_)
        try have t_f_t_forms_182_2 : FA f_t_forms_182_2 := by rw [e_f_t_forms_182_2]; exact FA_upd (by first | assumption | exact FA_0) _ (by first | omega | assumption | trivial)
        refine ok_c (ixo (by omega) (by omega)) ?_
        try have a20 := FA_at (f := f_n55_98_173_2) (by assumption) (2 : Int32).toNatClampNeg
        refine ok_bx (fun f_t_forms_193_2 e_f_t_forms_193_2 => ?_)
        try have t_f_t_forms_193_2 : FA f_t_forms_193_2 := by rw [e_f_t_forms_193_2]; exact FA_upd (by first | assumption | exact FA_0) _ (by first | omega | assumption | trivial)
        try have a21 := FA_at (f := f_n55_98_173_2) (by assumption) (0 : Int32).toNatClampNeg
        refine ok_o (sp_X9_degreeOf (f_n55_98_173_2 (0 : Int32).toNatClampNeg) ) (fun r199_2 h22 => ?_)
        have h22 : r199_2.toInt = DG (f_n55_98_173_2 (0 : Int32).toNatClampNeg) ∧ -1 ≤ r199_2.toInt ∧ r199_2.toInt ≤ 63 := h22
        refine ok_o2 (sp_X9_done c_t_acts r199_2 ) (fun r202_2 c_t_acts_202_2 h23 => ?_)
        exact ok_s (show FA f_t_forms_193_2 from by first | omega | assumption | trivial | (refine ⟨?_, ?_⟩ <;> first | omega | assumption | trivial | rfl) | (refine ⟨?_, ?_, ?_⟩ <;> first | omega | assumption | trivial | rfl) | (refine ⟨?_, ?_, ?_, ?_⟩ <;> first | omega | assumption | trivial | rfl) | (refine ⟨?_, ?_, ?_, ?_, ?_⟩ <;> first | omega | assumption | trivial | rfl) | (refine ⟨?_, ?_, ?_, ?_, ?_, ?_⟩ <;> first | omega | assumption | trivial | rfl) | (refine ⟨?_, ?_, ?_, ?_, ?_, ?_, ?_⟩ <;> first | omega | assumption | trivial | rfl) | (refine ⟨?_, ?_, ?_, ?_, ?_, ?_, ?_, ?_⟩ <;> first | omega | assumption | trivial | rfl))
      · exact ok_s (show FA f_t_forms from by first | omega | assumption | trivial | (refine ⟨?_, ?_⟩ <;> first | omega | assumption | trivial | rfl) | (refine ⟨?_, ?_, ?_⟩ <;> first | omega | assumption | trivial | rfl) | (refine ⟨?_, ?_, ?_, ?_⟩ <;> first | omega | assumption | trivial | rfl) | (refine ⟨?_, ?_, ?_, ?_, ?_⟩ <;> first | omega | assumption | trivial | rfl) | (refine ⟨?_, ?_, ?_, ?_, ?_, ?_⟩ <;> first | omega | assumption | trivial | rfl) | (refine ⟨?_, ?_, ?_, ?_, ?_, ?_, ?_⟩ <;> first | omega | assumption | trivial | rfl) | (refine ⟨?_, ?_, ?_, ?_, ?_, ?_, ?_, ?_⟩ <;> first | omega | assumption | trivial | rfl))
  · refine ok_o (sp_X9_isForm p1 ) (fun r9 h24 => ?_)
    have h24 : (r9.toInt = 1 ∧ 0 ≤ p1.toInt ∧ p1.toInt ≤ 5) ∨ (r9.toInt = 0 ∧ (p1.toInt < 0 ∨ 6 ≤ p1.toInt)) := h24
    refine ok_eq (fun c25 => ?_) (fun c25 => ?_)
    · first | unfold J_X9_multipliers_30 | skip
      first | unfold J_X9_multipliers_35 | skip
      refine ok_eq (fun c26 => ?_) (fun c26 => ?_)
      · first | unfold J_X9_multipliers_46 | skip
        refine ok_o2 (sp_X9_isThrown (1 : Int32) (1 : Int32) ) (fun r46_3 c_t_thrown_46_3 h27 => ?_)
        have h27 : (r46_3.toInt = 0 ∧ c_t_thrown_46_3.toInt = 0 ∧ (1 : Int32).toInt = 0 ∧ (1 : Int32).toInt = 0) ∨ (r46_3.toInt = 1 ∧ c_t_thrown_46_3.toInt = 1 ∧ (1 : Int32).toInt ≠ 0) ∨ (r46_3.toInt = 1 ∧ c_t_thrown_46_3.toInt = 2 ∧ (1 : Int32).toInt = 0 ∧ (1 : Int32).toInt ≠ 0) := h27
        refine ok_eq (fun c28 => ?_) (fun c28 => ?_)
        · refine ok_c (ixo (by omega) (by omega)) ?_
          try have a29 := FA_at (f := f_t_forms) (by assumption) p0.toNatClampNeg
          refine ok_bx (fun f_n55_65_3 e_f_n55_65_3 => ?_)
          try have t_f_n55_65_3 : FA f_n55_65_3 := by rw [e_f_n55_65_3]; exact FA_upd (by first | assumption | exact FA_0) _ (by first | omega | assumption | trivial)
          refine ok_bx (fun f_n55_69_3 e_f_n55_69_3 => ?_)
          try have t_f_n55_69_3 : FA f_n55_69_3 := by rw [e_f_n55_69_3]; exact FA_upd (by first | assumption | exact FA_0) _ (by first | omega | assumption | trivial)
          refine ok_bx (fun f_n55_73_3 e_f_n55_73_3 => ?_)
          try have t_f_n55_73_3 : FA f_n55_73_3 := by rw [e_f_n55_73_3]; exact FA_upd (by first | assumption | exact FA_0) _ (by first | omega | assumption | trivial)
          refine ok_c (ixo (by omega) (by omega)) ?_
          try have a30 := FA_at (f := f_t_forms) (by assumption) p1.toNatClampNeg
          refine ok_bx (fun f_n77_87_3 e_f_n77_87_3 => ?_)
          try have t_f_n77_87_3 : FA f_n77_87_3 := by rw [e_f_n77_87_3]; exact FA_upd (by first | assumption | exact FA_0) _ (by first | omega | assumption | trivial)
          refine ok_bx (fun f_n77_91_3 e_f_n77_91_3 => ?_)
          try have t_f_n77_91_3 : FA f_n77_91_3 := by rw [e_f_n77_91_3]; exact FA_upd (by first | assumption | exact FA_0) _ (by first | omega | assumption | trivial)
          refine ok_bx (fun f_n77_95_3 e_f_n77_95_3 => ?_)
          try have t_f_n77_95_3 : FA f_n77_95_3 := by rw [e_f_n77_95_3]; exact FA_upd (by first | assumption | exact FA_0) _ (by first | omega | assumption | trivial)
          refine mi_loop _ (fun f_n55_98_173_3 f_n77_98_173_3 hI31 => ?_) _ _ (by rw [e_f_n55_73_3, e_f_n55_69_3, e_f_n55_65_3, e_f_n77_95_3, e_f_n77_91_3, e_f_n77_87_3]; exact mi_init (by omega) (by omega))
          have m1 : DG (f_n55_98_173_3 (1 : Int32).toNatClampNeg) ≤ 39 := (hI31.2.2 1 (Or.inl rfl)).1
          have m2 : DG (f_n55_98_173_3 (2 : Int32).toNatClampNeg) ≤ 39 := (hI31.2.2 2 (Or.inr rfl)).1
          refine ok_c (ixo (by omega) (by omega)) ?_
          try have a32 := FA_at (f := f_n55_98_173_3) (by assumption) (1 : Int32).toNatClampNeg
          refine ok_bx (fun f_t_forms_182_3 e_f_t_forms_182_3 => ?_)
          try have t_f_t_forms_182_3 : FA f_t_forms_182_3 := by rw [e_f_t_forms_182_3]; exact FA_upd (by first | assumption | exact FA_0) _ (by first | omega | assumption | trivial)
          refine ok_c (ixo (by omega) (by omega)) ?_
          try have a33 := FA_at (f := f_n55_98_173_3) (by assumption) (2 : Int32).toNatClampNeg
          refine ok_bx (fun f_t_forms_193_3 e_f_t_forms_193_3 => ?_)
          try have t_f_t_forms_193_3 : FA f_t_forms_193_3 := by rw [e_f_t_forms_193_3]; exact FA_upd (by first | assumption | exact FA_0) _ (by first | omega | assumption | trivial)
          try have a34 := FA_at (f := f_n55_98_173_3) (by assumption) (0 : Int32).toNatClampNeg
          refine ok_o (sp_X9_degreeOf (f_n55_98_173_3 (0 : Int32).toNatClampNeg) ) (fun r199_3 h35 => ?_)
          have h35 : r199_3.toInt = DG (f_n55_98_173_3 (0 : Int32).toNatClampNeg) ∧ -1 ≤ r199_3.toInt ∧ r199_3.toInt ≤ 63 := h35
          refine ok_o2 (sp_X9_done c_t_acts r199_3 ) (fun r202_3 c_t_acts_202_3 h36 => ?_)
          exact ok_s (show FA f_t_forms_193_3 from by first | omega | assumption | trivial | (refine ⟨?_, ?_⟩ <;> first | omega | assumption | trivial | rfl) | (refine ⟨?_, ?_, ?_⟩ <;> first | omega | assumption | trivial | rfl) | (refine ⟨?_, ?_, ?_, ?_⟩ <;> first | omega | assumption | trivial | rfl) | (refine ⟨?_, ?_, ?_, ?_, ?_⟩ <;> first | omega | assumption | trivial | rfl) | (refine ⟨?_, ?_, ?_, ?_, ?_, ?_⟩ <;> first | omega | assumption | trivial | rfl) | (refine ⟨?_, ?_, ?_, ?_, ?_, ?_, ?_⟩ <;> first | omega | assumption | trivial | rfl) | (refine ⟨?_, ?_, ?_, ?_, ?_, ?_, ?_, ?_⟩ <;> first | omega | assumption | trivial | rfl))
        · exact ok_s (show FA f_t_forms from by first | omega | assumption | trivial | (refine ⟨?_, ?_⟩ <;> first | omega | assumption | trivial | rfl) | (refine ⟨?_, ?_, ?_⟩ <;> first | omega | assumption | trivial | rfl) | (refine ⟨?_, ?_, ?_, ?_⟩ <;> first | omega | assumption | trivial | rfl) | (refine ⟨?_, ?_, ?_, ?_, ?_⟩ <;> first | omega | assumption | trivial | rfl) | (refine ⟨?_, ?_, ?_, ?_, ?_, ?_⟩ <;> first | omega | assumption | trivial | rfl) | (refine ⟨?_, ?_, ?_, ?_, ?_, ?_, ?_⟩ <;> first | omega | assumption | trivial | rfl) | (refine ⟨?_, ?_, ?_, ?_, ?_, ?_, ?_, ?_⟩ <;> first | omega | assumption | trivial | rfl))
      · first | unfold J_X9_multipliers_46 | skip
        refine ok_o2 (sp_X9_isThrown (1 : Int32) (0 : Int32) ) (fun r46_4 c_t_thrown_46_4 h37 => ?_)
        have h37 : (r46_4.toInt = 0 ∧ c_t_thrown_46_4.toInt = 0 ∧ (1 : Int32).toInt = 0 ∧ (0 : Int32).toInt = 0) ∨ (r46_4.toInt = 1 ∧ c_t_thrown_46_4.toInt = 1 ∧ (1 : Int32).toInt ≠ 0) ∨ (r46_4.toInt = 1 ∧ c_t_thrown_46_4.toInt = 2 ∧ (1 : Int32).toInt = 0 ∧ (0 : Int32).toInt ≠ 0) := h37
        refine ok_eq (fun c38 => ?_) (fun c38 => ?_)
        · refine ok_c (ixo (by omega) (by omega)) ?_
          try have a39 := FA_at (f := f_t_forms) (by assumption) p0.toNatClampNeg
          refine ok_bx (fun f_n55_65_4 e_f_n55_65_4 => ?_)
          try have t_f_n55_65_4 : FA f_n55_65_4 := by rw [e_f_n55_65_4]; exact FA_upd (by first | assumption | exact FA_0) _ (by first | omega | assumption | trivial)
          refine ok_bx (fun f_n55_69_4 e_f_n55_69_4 => ?_)
          try have t_f_n55_69_4 : FA f_n55_69_4 := by rw [e_f_n55_69_4]; exact FA_upd (by first | assumption | exact FA_0) _ (by first | omega | assumption | trivial)
          refine ok_bx (fun f_n55_73_4 e_f_n55_73_4 => ?_)
          try have t_f_n55_73_4 : FA f_n55_73_4 := by rw [e_f_n55_73_4]; exact FA_upd (by first | assumption | exact FA_0) _ (by first | omega | assumption | trivial)
          refine ok_c (ixo (by omega) (by omega)) ?_
          try have a40 := FA_at (f := f_t_forms) (by assumption) p1.toNatClampNeg
          refine ok_bx (fun f_n77_87_4 e_f_n77_87_4 => ?_)
          try have t_f_n77_87_4 : FA f_n77_87_4 := by rw [e_f_n77_87_4]; exact FA_upd (by first | assumption | exact FA_0) _ (by first | omega | assumption | trivial)
          refine ok_bx (fun f_n77_91_4 e_f_n77_91_4 => ?_)
          try have t_f_n77_91_4 : FA f_n77_91_4 := by rw [e_f_n77_91_4]; exact FA_upd (by first | assumption | exact FA_0) _ (by first | omega | assumption | trivial)
          refine ok_bx (fun f_n77_95_4 e_f_n77_95_4 => ?_)
          try have t_f_n77_95_4 : FA f_n77_95_4 := by rw [e_f_n77_95_4]; exact FA_upd (by first | assumption | exact FA_0) _ (by first | omega | assumption | trivial)
          refine mi_loop _ (fun f_n55_98_173_4 f_n77_98_173_4 hI41 => ?_) _ _ (by rw [e_f_n55_73_4, e_f_n55_69_4, e_f_n55_65_4, e_f_n77_95_4, e_f_n77_91_4, e_f_n77_87_4]; exact mi_init (by omega) (by omega))
          have m1 : DG (f_n55_98_173_4 (1 : Int32).toNatClampNeg) ≤ 39 := (hI41.2.2 1 (Or.inl rfl)).1
          have m2 : DG (f_n55_98_173_4 (2 : Int32).toNatClampNeg) ≤ 39 := (hI41.2.2 2 (Or.inr rfl)).1
          refine ok_c (ixo (by omega) (by omega)) ?_
          try have a42 := FA_at (f := f_n55_98_173_4) (by assumption) (1 : Int32).toNatClampNeg
          refine ok_bx (fun f_t_forms_182_4 e_f_t_forms_182_4 => ?_)
          try have t_f_t_forms_182_4 : FA f_t_forms_182_4 := by rw [e_f_t_forms_182_4]; exact FA_upd (by first | assumption | exact FA_0) _ (by first | omega | assumption | trivial)
          refine ok_c (ixo (by omega) (by omega)) ?_
          try have a43 := FA_at (f := f_n55_98_173_4) (by assumption) (2 : Int32).toNatClampNeg
          refine ok_bx (fun f_t_forms_193_4 e_f_t_forms_193_4 => ?_)
          try have t_f_t_forms_193_4 : FA f_t_forms_193_4 := by rw [e_f_t_forms_193_4]; exact FA_upd (by first | assumption | exact FA_0) _ (by first | omega | assumption | trivial)
          try have a44 := FA_at (f := f_n55_98_173_4) (by assumption) (0 : Int32).toNatClampNeg
          refine ok_o (sp_X9_degreeOf (f_n55_98_173_4 (0 : Int32).toNatClampNeg) ) (fun r199_4 h45 => ?_)
          have h45 : r199_4.toInt = DG (f_n55_98_173_4 (0 : Int32).toNatClampNeg) ∧ -1 ≤ r199_4.toInt ∧ r199_4.toInt ≤ 63 := h45
          refine ok_o2 (sp_X9_done c_t_acts r199_4 ) (fun r202_4 c_t_acts_202_4 h46 => ?_)
          exact ok_s (show FA f_t_forms_193_4 from by first | omega | assumption | trivial | (refine ⟨?_, ?_⟩ <;> first | omega | assumption | trivial | rfl) | (refine ⟨?_, ?_, ?_⟩ <;> first | omega | assumption | trivial | rfl) | (refine ⟨?_, ?_, ?_, ?_⟩ <;> first | omega | assumption | trivial | rfl) | (refine ⟨?_, ?_, ?_, ?_, ?_⟩ <;> first | omega | assumption | trivial | rfl) | (refine ⟨?_, ?_, ?_, ?_, ?_, ?_⟩ <;> first | omega | assumption | trivial | rfl) | (refine ⟨?_, ?_, ?_, ?_, ?_, ?_, ?_⟩ <;> first | omega | assumption | trivial | rfl) | (refine ⟨?_, ?_, ?_, ?_, ?_, ?_, ?_, ?_⟩ <;> first | omega | assumption | trivial | rfl))
        · exact ok_s (show FA f_t_forms from by first | omega | assumption | trivial | (refine ⟨?_, ?_⟩ <;> first | omega | assumption | trivial | rfl) | (refine ⟨?_, ?_, ?_⟩ <;> first | omega | assumption | trivial | rfl) | (refine ⟨?_, ?_, ?_, ?_⟩ <;> first | omega | assumption | trivial | rfl) | (refine ⟨?_, ?_, ?_, ?_, ?_⟩ <;> first | omega | assumption | trivial | rfl) | (refine ⟨?_, ?_, ?_, ?_, ?_, ?_⟩ <;> first | omega | assumption | trivial | rfl) | (refine ⟨?_, ?_, ?_, ?_, ?_, ?_, ?_⟩ <;> first | omega | assumption | trivial | rfl) | (refine ⟨?_, ?_, ?_, ?_, ?_, ?_, ?_, ?_⟩ <;> first | omega | assumption | trivial | rfl))
    · refine ok_o (sp_X9_isForm p2 ) (fun r16 h47 => ?_)
      have h47 : (r16.toInt = 1 ∧ 0 ≤ p2.toInt ∧ p2.toInt ≤ 5) ∨ (r16.toInt = 0 ∧ (p2.toInt < 0 ∨ 6 ≤ p2.toInt)) := h47
      refine ok_eq (fun c48 => ?_) (fun c48 => ?_)
      · first | unfold J_X9_multipliers_30 | skip
        first | unfold J_X9_multipliers_35 | skip
        refine ok_eq (fun c49 => ?_) (fun c49 => ?_)
        · first | unfold J_X9_multipliers_46 | skip
          refine ok_o2 (sp_X9_isThrown (1 : Int32) (1 : Int32) ) (fun r46_5 c_t_thrown_46_5 h50 => ?_)
          have h50 : (r46_5.toInt = 0 ∧ c_t_thrown_46_5.toInt = 0 ∧ (1 : Int32).toInt = 0 ∧ (1 : Int32).toInt = 0) ∨ (r46_5.toInt = 1 ∧ c_t_thrown_46_5.toInt = 1 ∧ (1 : Int32).toInt ≠ 0) ∨ (r46_5.toInt = 1 ∧ c_t_thrown_46_5.toInt = 2 ∧ (1 : Int32).toInt = 0 ∧ (1 : Int32).toInt ≠ 0) := h50
          refine ok_eq (fun c51 => ?_) (fun c51 => ?_)
          · refine ok_c (ixo (by omega) (by omega)) ?_
            try have a52 := FA_at (f := f_t_forms) (by assumption) p0.toNatClampNeg
            refine ok_bx (fun f_n55_65_5 e_f_n55_65_5 => ?_)
            try have t_f_n55_65_5 : FA f_n55_65_5 := by rw [e_f_n55_65_5]; exact FA_upd (by first | assumption | exact FA_0) _ (by first | omega | assumption | trivial)
            refine ok_bx (fun f_n55_69_5 e_f_n55_69_5 => ?_)
            try have t_f_n55_69_5 : FA f_n55_69_5 := by rw [e_f_n55_69_5]; exact FA_upd (by first | assumption | exact FA_0) _ (by first | omega | assumption | trivial)
            refine ok_bx (fun f_n55_73_5 e_f_n55_73_5 => ?_)
            try have t_f_n55_73_5 : FA f_n55_73_5 := by rw [e_f_n55_73_5]; exact FA_upd (by first | assumption | exact FA_0) _ (by first | omega | assumption | trivial)
            refine ok_c (ixo (by omega) (by omega)) ?_
            try have a53 := FA_at (f := f_t_forms) (by assumption) p1.toNatClampNeg
            refine ok_bx (fun f_n77_87_5 e_f_n77_87_5 => ?_)
            try have t_f_n77_87_5 : FA f_n77_87_5 := by rw [e_f_n77_87_5]; exact FA_upd (by first | assumption | exact FA_0) _ (by first | omega | assumption | trivial)
            refine ok_bx (fun f_n77_91_5 e_f_n77_91_5 => ?_)
            try have t_f_n77_91_5 : FA f_n77_91_5 := by rw [e_f_n77_91_5]; exact FA_upd (by first | assumption | exact FA_0) _ (by first | omega | assumption | trivial)
            refine ok_bx (fun f_n77_95_5 e_f_n77_95_5 => ?_)
            try have t_f_n77_95_5 : FA f_n77_95_5 := by rw [e_f_n77_95_5]; exact FA_upd (by first | assumption | exact FA_0) _ (by first | omega | assumption | trivial)
            refine mi_loop _ (fun f_n55_98_173_5 f_n77_98_173_5 hI54 => ?_) _ _ (by rw [e_f_n55_73_5, e_f_n55_69_5, e_f_n55_65_5, e_f_n77_95_5, e_f_n77_91_5, e_f_n77_87_5]; exact mi_init (by omega) (by omega))
            have m1 : DG (f_n55_98_173_5 (1 : Int32).toNatClampNeg) ≤ 39 := (hI54.2.2 1 (Or.inl rfl)).1
            have m2 : DG (f_n55_98_173_5 (2 : Int32).toNatClampNeg) ≤ 39 := (hI54.2.2 2 (Or.inr rfl)).1
            refine ok_c (ixo (by omega) (by omega)) ?_
            try have a55 := FA_at (f := f_n55_98_173_5) (by assumption) (1 : Int32).toNatClampNeg
            refine ok_bx (fun f_t_forms_182_5 e_f_t_forms_182_5 => ?_)
            try have t_f_t_forms_182_5 : FA f_t_forms_182_5 := by rw [e_f_t_forms_182_5]; exact FA_upd (by first | assumption | exact FA_0) _ (by first | omega | assumption | trivial)
            refine ok_c (ixo (by omega) (by omega)) ?_
            try have a56 := FA_at (f := f_n55_98_173_5) (by assumption) (2 : Int32).toNatClampNeg
            refine ok_bx (fun f_t_forms_193_5 e_f_t_forms_193_5 => ?_)
            try have t_f_t_forms_193_5 : FA f_t_forms_193_5 := by rw [e_f_t_forms_193_5]; exact FA_upd (by first | assumption | exact FA_0) _ (by first | omega | assumption | trivial)
            try have a57 := FA_at (f := f_n55_98_173_5) (by assumption) (0 : Int32).toNatClampNeg
            refine ok_o (sp_X9_degreeOf (f_n55_98_173_5 (0 : Int32).toNatClampNeg) ) (fun r199_5 h58 => ?_)
            have h58 : r199_5.toInt = DG (f_n55_98_173_5 (0 : Int32).toNatClampNeg) ∧ -1 ≤ r199_5.toInt ∧ r199_5.toInt ≤ 63 := h58
            refine ok_o2 (sp_X9_done c_t_acts r199_5 ) (fun r202_5 c_t_acts_202_5 h59 => ?_)
            exact ok_s (show FA f_t_forms_193_5 from by first | omega | assumption | trivial | (refine ⟨?_, ?_⟩ <;> first | omega | assumption | trivial | rfl) | (refine ⟨?_, ?_, ?_⟩ <;> first | omega | assumption | trivial | rfl) | (refine ⟨?_, ?_, ?_, ?_⟩ <;> first | omega | assumption | trivial | rfl) | (refine ⟨?_, ?_, ?_, ?_, ?_⟩ <;> first | omega | assumption | trivial | rfl) | (refine ⟨?_, ?_, ?_, ?_, ?_, ?_⟩ <;> first | omega | assumption | trivial | rfl) | (refine ⟨?_, ?_, ?_, ?_, ?_, ?_, ?_⟩ <;> first | omega | assumption | trivial | rfl) | (refine ⟨?_, ?_, ?_, ?_, ?_, ?_, ?_, ?_⟩ <;> first | omega | assumption | trivial | rfl))
          · exact ok_s (show FA f_t_forms from by first | omega | assumption | trivial | (refine ⟨?_, ?_⟩ <;> first | omega | assumption | trivial | rfl) | (refine ⟨?_, ?_, ?_⟩ <;> first | omega | assumption | trivial | rfl) | (refine ⟨?_, ?_, ?_, ?_⟩ <;> first | omega | assumption | trivial | rfl) | (refine ⟨?_, ?_, ?_, ?_, ?_⟩ <;> first | omega | assumption | trivial | rfl) | (refine ⟨?_, ?_, ?_, ?_, ?_, ?_⟩ <;> first | omega | assumption | trivial | rfl) | (refine ⟨?_, ?_, ?_, ?_, ?_, ?_, ?_⟩ <;> first | omega | assumption | trivial | rfl) | (refine ⟨?_, ?_, ?_, ?_, ?_, ?_, ?_, ?_⟩ <;> first | omega | assumption | trivial | rfl))
        · first | unfold J_X9_multipliers_46 | skip
          refine ok_o2 (sp_X9_isThrown (1 : Int32) (0 : Int32) ) (fun r46_6 c_t_thrown_46_6 h60 => ?_)
          have h60 : (r46_6.toInt = 0 ∧ c_t_thrown_46_6.toInt = 0 ∧ (1 : Int32).toInt = 0 ∧ (0 : Int32).toInt = 0) ∨ (r46_6.toInt = 1 ∧ c_t_thrown_46_6.toInt = 1 ∧ (1 : Int32).toInt ≠ 0) ∨ (r46_6.toInt = 1 ∧ c_t_thrown_46_6.toInt = 2 ∧ (1 : Int32).toInt = 0 ∧ (0 : Int32).toInt ≠ 0) := h60
          refine ok_eq (fun c61 => ?_) (fun c61 => ?_)
          · refine ok_c (ixo (by omega) (by omega)) ?_
            try have a62 := FA_at (f := f_t_forms) (by assumption) p0.toNatClampNeg
            refine ok_bx (fun f_n55_65_6 e_f_n55_65_6 => ?_)
            try have t_f_n55_65_6 : FA f_n55_65_6 := by rw [e_f_n55_65_6]; exact FA_upd (by first | assumption | exact FA_0) _ (by first | omega | assumption | trivial)
            refine ok_bx (fun f_n55_69_6 e_f_n55_69_6 => ?_)
            try have t_f_n55_69_6 : FA f_n55_69_6 := by rw [e_f_n55_69_6]; exact FA_upd (by first | assumption | exact FA_0) _ (by first | omega | assumption | trivial)
            refine ok_bx (fun f_n55_73_6 e_f_n55_73_6 => ?_)
            try have t_f_n55_73_6 : FA f_n55_73_6 := by rw [e_f_n55_73_6]; exact FA_upd (by first | assumption | exact FA_0) _ (by first | omega | assumption | trivial)
            refine ok_c (ixo (by omega) (by omega)) ?_
            try have a63 := FA_at (f := f_t_forms) (by assumption) p1.toNatClampNeg
            refine ok_bx (fun f_n77_87_6 e_f_n77_87_6 => ?_)
            try have t_f_n77_87_6 : FA f_n77_87_6 := by rw [e_f_n77_87_6]; exact FA_upd (by first | assumption | exact FA_0) _ (by first | omega | assumption | trivial)
            refine ok_bx (fun f_n77_91_6 e_f_n77_91_6 => ?_)
            try have t_f_n77_91_6 : FA f_n77_91_6 := by rw [e_f_n77_91_6]; exact FA_upd (by first | assumption | exact FA_0) _ (by first | omega | assumption | trivial)
            refine ok_bx (fun f_n77_95_6 e_f_n77_95_6 => ?_)
            try have t_f_n77_95_6 : FA f_n77_95_6 := by rw [e_f_n77_95_6]; exact FA_upd (by first | assumption | exact FA_0) _ (by first | omega | assumption | trivial)
            refine mi_loop _ (fun f_n55_98_173_6 f_n77_98_173_6 hI64 => ?_) _ _ (by rw [e_f_n55_73_6, e_f_n55_69_6, e_f_n55_65_6, e_f_n77_95_6, e_f_n77_91_6, e_f_n77_87_6]; exact mi_init (by omega) (by omega))
            have m1 : DG (f_n55_98_173_6 (1 : Int32).toNatClampNeg) ≤ 39 := (hI64.2.2 1 (Or.inl rfl)).1
            have m2 : DG (f_n55_98_173_6 (2 : Int32).toNatClampNeg) ≤ 39 := (hI64.2.2 2 (Or.inr rfl)).1
            refine ok_c (ixo (by omega) (by omega)) ?_
            try have a65 := FA_at (f := f_n55_98_173_6) (by assumption) (1 : Int32).toNatClampNeg
            refine ok_bx (fun f_t_forms_182_6 e_f_t_forms_182_6 => ?_)
            try have t_f_t_forms_182_6 : FA f_t_forms_182_6 := by rw [e_f_t_forms_182_6]; exact FA_upd (by first | assumption | exact FA_0) _ (by first | omega | assumption | trivial)
            refine ok_c (ixo (by omega) (by omega)) ?_
            try have a66 := FA_at (f := f_n55_98_173_6) (by assumption) (2 : Int32).toNatClampNeg
            refine ok_bx (fun f_t_forms_193_6 e_f_t_forms_193_6 => ?_)
            try have t_f_t_forms_193_6 : FA f_t_forms_193_6 := by rw [e_f_t_forms_193_6]; exact FA_upd (by first | assumption | exact FA_0) _ (by first | omega | assumption | trivial)
            try have a67 := FA_at (f := f_n55_98_173_6) (by assumption) (0 : Int32).toNatClampNeg
            refine ok_o (sp_X9_degreeOf (f_n55_98_173_6 (0 : Int32).toNatClampNeg) ) (fun r199_6 h68 => ?_)
            have h68 : r199_6.toInt = DG (f_n55_98_173_6 (0 : Int32).toNatClampNeg) ∧ -1 ≤ r199_6.toInt ∧ r199_6.toInt ≤ 63 := h68
            refine ok_o2 (sp_X9_done c_t_acts r199_6 ) (fun r202_6 c_t_acts_202_6 h69 => ?_)
            exact ok_s (show FA f_t_forms_193_6 from by first | omega | assumption | trivial | (refine ⟨?_, ?_⟩ <;> first | omega | assumption | trivial | rfl) | (refine ⟨?_, ?_, ?_⟩ <;> first | omega | assumption | trivial | rfl) | (refine ⟨?_, ?_, ?_, ?_⟩ <;> first | omega | assumption | trivial | rfl) | (refine ⟨?_, ?_, ?_, ?_, ?_⟩ <;> first | omega | assumption | trivial | rfl) | (refine ⟨?_, ?_, ?_, ?_, ?_, ?_⟩ <;> first | omega | assumption | trivial | rfl) | (refine ⟨?_, ?_, ?_, ?_, ?_, ?_, ?_⟩ <;> first | omega | assumption | trivial | rfl) | (refine ⟨?_, ?_, ?_, ?_, ?_, ?_, ?_, ?_⟩ <;> first | omega | assumption | trivial | rfl))
          · exact ok_s (show FA f_t_forms from by first | omega | assumption | trivial | (refine ⟨?_, ?_⟩ <;> first | omega | assumption | trivial | rfl) | (refine ⟨?_, ?_, ?_⟩ <;> first | omega | assumption | trivial | rfl) | (refine ⟨?_, ?_, ?_, ?_⟩ <;> first | omega | assumption | trivial | rfl) | (refine ⟨?_, ?_, ?_, ?_, ?_⟩ <;> first | omega | assumption | trivial | rfl) | (refine ⟨?_, ?_, ?_, ?_, ?_, ?_⟩ <;> first | omega | assumption | trivial | rfl) | (refine ⟨?_, ?_, ?_, ?_, ?_, ?_, ?_⟩ <;> first | omega | assumption | trivial | rfl) | (refine ⟨?_, ?_, ?_, ?_, ?_, ?_, ?_, ?_⟩ <;> first | omega | assumption | trivial | rfl))
      · refine ok_o (sp_X9_isForm p3 ) (fun r24 h70 => ?_)
        have h70 : (r24.toInt = 1 ∧ 0 ≤ p3.toInt ∧ p3.toInt ≤ 5) ∨ (r24.toInt = 0 ∧ (p3.toInt < 0 ∨ 6 ≤ p3.toInt)) := h70
        refine ok_eq (fun c71 => ?_) (fun c71 => ?_)
        · first | unfold J_X9_multipliers_30 | skip
          first | unfold J_X9_multipliers_35 | skip
          refine ok_eq (fun c72 => ?_) (fun c72 => ?_)
          · first | unfold J_X9_multipliers_46 | skip
            refine ok_o2 (sp_X9_isThrown (1 : Int32) (1 : Int32) ) (fun r46_7 c_t_thrown_46_7 h73 => ?_)
            have h73 : (r46_7.toInt = 0 ∧ c_t_thrown_46_7.toInt = 0 ∧ (1 : Int32).toInt = 0 ∧ (1 : Int32).toInt = 0) ∨ (r46_7.toInt = 1 ∧ c_t_thrown_46_7.toInt = 1 ∧ (1 : Int32).toInt ≠ 0) ∨ (r46_7.toInt = 1 ∧ c_t_thrown_46_7.toInt = 2 ∧ (1 : Int32).toInt = 0 ∧ (1 : Int32).toInt ≠ 0) := h73
            refine ok_eq (fun c74 => ?_) (fun c74 => ?_)
            · refine ok_c (ixo (by omega) (by omega)) ?_
              try have a75 := FA_at (f := f_t_forms) (by assumption) p0.toNatClampNeg
              refine ok_bx (fun f_n55_65_7 e_f_n55_65_7 => ?_)
              try have t_f_n55_65_7 : FA f_n55_65_7 := by rw [e_f_n55_65_7]; exact FA_upd (by first | assumption | exact FA_0) _ (by first | omega | assumption | trivial)
              refine ok_bx (fun f_n55_69_7 e_f_n55_69_7 => ?_)
              try have t_f_n55_69_7 : FA f_n55_69_7 := by rw [e_f_n55_69_7]; exact FA_upd (by first | assumption | exact FA_0) _ (by first | omega | assumption | trivial)
              refine ok_bx (fun f_n55_73_7 e_f_n55_73_7 => ?_)
              try have t_f_n55_73_7 : FA f_n55_73_7 := by rw [e_f_n55_73_7]; exact FA_upd (by first | assumption | exact FA_0) _ (by first | omega | assumption | trivial)
              refine ok_c (ixo (by omega) (by omega)) ?_
              try have a76 := FA_at (f := f_t_forms) (by assumption) p1.toNatClampNeg
              refine ok_bx (fun f_n77_87_7 e_f_n77_87_7 => ?_)
              try have t_f_n77_87_7 : FA f_n77_87_7 := by rw [e_f_n77_87_7]; exact FA_upd (by first | assumption | exact FA_0) _ (by first | omega | assumption | trivial)
              refine ok_bx (fun f_n77_91_7 e_f_n77_91_7 => ?_)
              try have t_f_n77_91_7 : FA f_n77_91_7 := by rw [e_f_n77_91_7]; exact FA_upd (by first | assumption | exact FA_0) _ (by first | omega | assumption | trivial)
              refine ok_bx (fun f_n77_95_7 e_f_n77_95_7 => ?_)
              try have t_f_n77_95_7 : FA f_n77_95_7 := by rw [e_f_n77_95_7]; exact FA_upd (by first | assumption | exact FA_0) _ (by first | omega | assumption | trivial)
              refine mi_loop _ (fun f_n55_98_173_7 f_n77_98_173_7 hI77 => ?_) _ _ (by rw [e_f_n55_73_7, e_f_n55_69_7, e_f_n55_65_7, e_f_n77_95_7, e_f_n77_91_7, e_f_n77_87_7]; exact mi_init (by omega) (by omega))
              have m1 : DG (f_n55_98_173_7 (1 : Int32).toNatClampNeg) ≤ 39 := (hI77.2.2 1 (Or.inl rfl)).1
              have m2 : DG (f_n55_98_173_7 (2 : Int32).toNatClampNeg) ≤ 39 := (hI77.2.2 2 (Or.inr rfl)).1
              refine ok_c (ixo (by omega) (by omega)) ?_
              try have a78 := FA_at (f := f_n55_98_173_7) (by assumption) (1 : Int32).toNatClampNeg
              refine ok_bx (fun f_t_forms_182_7 e_f_t_forms_182_7 => ?_)
              try have t_f_t_forms_182_7 : FA f_t_forms_182_7 := by rw [e_f_t_forms_182_7]; exact FA_upd (by first | assumption | exact FA_0) _ (by first | omega | assumption | trivial)
              refine ok_c (ixo (by omega) (by omega)) ?_
              try have a79 := FA_at (f := f_n55_98_173_7) (by assumption) (2 : Int32).toNatClampNeg
              refine ok_bx (fun f_t_forms_193_7 e_f_t_forms_193_7 => ?_)
              try have t_f_t_forms_193_7 : FA f_t_forms_193_7 := by rw [e_f_t_forms_193_7]; exact FA_upd (by first | assumption | exact FA_0) _ (by first | omega | assumption | trivial)
              try have a80 := FA_at (f := f_n55_98_173_7) (by assumption) (0 : Int32).toNatClampNeg
              refine ok_o (sp_X9_degreeOf (f_n55_98_173_7 (0 : Int32).toNatClampNeg) ) (fun r199_7 h81 => ?_)
              have h81 : r199_7.toInt = DG (f_n55_98_173_7 (0 : Int32).toNatClampNeg) ∧ -1 ≤ r199_7.toInt ∧ r199_7.toInt ≤ 63 := h81
              refine ok_o2 (sp_X9_done c_t_acts r199_7 ) (fun r202_7 c_t_acts_202_7 h82 => ?_)
              exact ok_s (show FA f_t_forms_193_7 from by first | omega | assumption | trivial | (refine ⟨?_, ?_⟩ <;> first | omega | assumption | trivial | rfl) | (refine ⟨?_, ?_, ?_⟩ <;> first | omega | assumption | trivial | rfl) | (refine ⟨?_, ?_, ?_, ?_⟩ <;> first | omega | assumption | trivial | rfl) | (refine ⟨?_, ?_, ?_, ?_, ?_⟩ <;> first | omega | assumption | trivial | rfl) | (refine ⟨?_, ?_, ?_, ?_, ?_, ?_⟩ <;> first | omega | assumption | trivial | rfl) | (refine ⟨?_, ?_, ?_, ?_, ?_, ?_, ?_⟩ <;> first | omega | assumption | trivial | rfl) | (refine ⟨?_, ?_, ?_, ?_, ?_, ?_, ?_, ?_⟩ <;> first | omega | assumption | trivial | rfl))
            · exact ok_s (show FA f_t_forms from by first | omega | assumption | trivial | (refine ⟨?_, ?_⟩ <;> first | omega | assumption | trivial | rfl) | (refine ⟨?_, ?_, ?_⟩ <;> first | omega | assumption | trivial | rfl) | (refine ⟨?_, ?_, ?_, ?_⟩ <;> first | omega | assumption | trivial | rfl) | (refine ⟨?_, ?_, ?_, ?_, ?_⟩ <;> first | omega | assumption | trivial | rfl) | (refine ⟨?_, ?_, ?_, ?_, ?_, ?_⟩ <;> first | omega | assumption | trivial | rfl) | (refine ⟨?_, ?_, ?_, ?_, ?_, ?_, ?_⟩ <;> first | omega | assumption | trivial | rfl) | (refine ⟨?_, ?_, ?_, ?_, ?_, ?_, ?_, ?_⟩ <;> first | omega | assumption | trivial | rfl))
          · first | unfold J_X9_multipliers_46 | skip
            refine ok_o2 (sp_X9_isThrown (1 : Int32) (0 : Int32) ) (fun r46_8 c_t_thrown_46_8 h83 => ?_)
            have h83 : (r46_8.toInt = 0 ∧ c_t_thrown_46_8.toInt = 0 ∧ (1 : Int32).toInt = 0 ∧ (0 : Int32).toInt = 0) ∨ (r46_8.toInt = 1 ∧ c_t_thrown_46_8.toInt = 1 ∧ (1 : Int32).toInt ≠ 0) ∨ (r46_8.toInt = 1 ∧ c_t_thrown_46_8.toInt = 2 ∧ (1 : Int32).toInt = 0 ∧ (0 : Int32).toInt ≠ 0) := h83
            refine ok_eq (fun c84 => ?_) (fun c84 => ?_)
            · refine ok_c (ixo (by omega) (by omega)) ?_
              try have a85 := FA_at (f := f_t_forms) (by assumption) p0.toNatClampNeg
              refine ok_bx (fun f_n55_65_8 e_f_n55_65_8 => ?_)
              try have t_f_n55_65_8 : FA f_n55_65_8 := by rw [e_f_n55_65_8]; exact FA_upd (by first | assumption | exact FA_0) _ (by first | omega | assumption | trivial)
              refine ok_bx (fun f_n55_69_8 e_f_n55_69_8 => ?_)
              try have t_f_n55_69_8 : FA f_n55_69_8 := by rw [e_f_n55_69_8]; exact FA_upd (by first | assumption | exact FA_0) _ (by first | omega | assumption | trivial)
              refine ok_bx (fun f_n55_73_8 e_f_n55_73_8 => ?_)
              try have t_f_n55_73_8 : FA f_n55_73_8 := by rw [e_f_n55_73_8]; exact FA_upd (by first | assumption | exact FA_0) _ (by first | omega | assumption | trivial)
              refine ok_c (ixo (by omega) (by omega)) ?_
              try have a86 := FA_at (f := f_t_forms) (by assumption) p1.toNatClampNeg
              refine ok_bx (fun f_n77_87_8 e_f_n77_87_8 => ?_)
              try have t_f_n77_87_8 : FA f_n77_87_8 := by rw [e_f_n77_87_8]; exact FA_upd (by first | assumption | exact FA_0) _ (by first | omega | assumption | trivial)
              refine ok_bx (fun f_n77_91_8 e_f_n77_91_8 => ?_)
              try have t_f_n77_91_8 : FA f_n77_91_8 := by rw [e_f_n77_91_8]; exact FA_upd (by first | assumption | exact FA_0) _ (by first | omega | assumption | trivial)
              refine ok_bx (fun f_n77_95_8 e_f_n77_95_8 => ?_)
              try have t_f_n77_95_8 : FA f_n77_95_8 := by rw [e_f_n77_95_8]; exact FA_upd (by first | assumption | exact FA_0) _ (by first | omega | assumption | trivial)
              refine mi_loop _ (fun f_n55_98_173_8 f_n77_98_173_8 hI87 => ?_) _ _ (by rw [e_f_n55_73_8, e_f_n55_69_8, e_f_n55_65_8, e_f_n77_95_8, e_f_n77_91_8, e_f_n77_87_8]; exact mi_init (by omega) (by omega))
              have m1 : DG (f_n55_98_173_8 (1 : Int32).toNatClampNeg) ≤ 39 := (hI87.2.2 1 (Or.inl rfl)).1
              have m2 : DG (f_n55_98_173_8 (2 : Int32).toNatClampNeg) ≤ 39 := (hI87.2.2 2 (Or.inr rfl)).1
              refine ok_c (ixo (by omega) (by omega)) ?_
              try have a88 := FA_at (f := f_n55_98_173_8) (by assumption) (1 : Int32).toNatClampNeg
              refine ok_bx (fun f_t_forms_182_8 e_f_t_forms_182_8 => ?_)
              try have t_f_t_forms_182_8 : FA f_t_forms_182_8 := by rw [e_f_t_forms_182_8]; exact FA_upd (by first | assumption | exact FA_0) _ (by first | omega | assumption | trivial)
              refine ok_c (ixo (by omega) (by omega)) ?_
              try have a89 := FA_at (f := f_n55_98_173_8) (by assumption) (2 : Int32).toNatClampNeg
              refine ok_bx (fun f_t_forms_193_8 e_f_t_forms_193_8 => ?_)
              try have t_f_t_forms_193_8 : FA f_t_forms_193_8 := by rw [e_f_t_forms_193_8]; exact FA_upd (by first | assumption | exact FA_0) _ (by first | omega | assumption | trivial)
              try have a90 := FA_at (f := f_n55_98_173_8) (by assumption) (0 : Int32).toNatClampNeg
              refine ok_o (sp_X9_degreeOf (f_n55_98_173_8 (0 : Int32).toNatClampNeg) ) (fun r199_8 h91 => ?_)
              have h91 : r199_8.toInt = DG (f_n55_98_173_8 (0 : Int32).toNatClampNeg) ∧ -1 ≤ r199_8.toInt ∧ r199_8.toInt ≤ 63 := h91
              refine ok_o2 (sp_X9_done c_t_acts r199_8 ) (fun r202_8 c_t_acts_202_8 h92 => ?_)
              exact ok_s (show FA f_t_forms_193_8 from by first | omega | assumption | trivial | (refine ⟨?_, ?_⟩ <;> first | omega | assumption | trivial | rfl) | (refine ⟨?_, ?_, ?_⟩ <;> first | omega | assumption | trivial | rfl) | (refine ⟨?_, ?_, ?_, ?_⟩ <;> first | omega | assumption | trivial | rfl) | (refine ⟨?_, ?_, ?_, ?_, ?_⟩ <;> first | omega | assumption | trivial | rfl) | (refine ⟨?_, ?_, ?_, ?_, ?_, ?_⟩ <;> first | omega | assumption | trivial | rfl) | (refine ⟨?_, ?_, ?_, ?_, ?_, ?_, ?_⟩ <;> first | omega | assumption | trivial | rfl) | (refine ⟨?_, ?_, ?_, ?_, ?_, ?_, ?_, ?_⟩ <;> first | omega | assumption | trivial | rfl))
            · exact ok_s (show FA f_t_forms from by first | omega | assumption | trivial | (refine ⟨?_, ?_⟩ <;> first | omega | assumption | trivial | rfl) | (refine ⟨?_, ?_, ?_⟩ <;> first | omega | assumption | trivial | rfl) | (refine ⟨?_, ?_, ?_, ?_⟩ <;> first | omega | assumption | trivial | rfl) | (refine ⟨?_, ?_, ?_, ?_, ?_⟩ <;> first | omega | assumption | trivial | rfl) | (refine ⟨?_, ?_, ?_, ?_, ?_, ?_⟩ <;> first | omega | assumption | trivial | rfl) | (refine ⟨?_, ?_, ?_, ?_, ?_, ?_, ?_⟩ <;> first | omega | assumption | trivial | rfl) | (refine ⟨?_, ?_, ?_, ?_, ?_, ?_, ?_, ?_⟩ <;> first | omega | assumption | trivial | rfl))
        · first | unfold J_X9_multipliers_35 | skip
          refine ok_eq (fun c93 => ?_) (fun c93 => ?_)
          · first | unfold J_X9_multipliers_46 | skip
            refine ok_o2 (sp_X9_isThrown (0 : Int32) (1 : Int32) ) (fun r46_9 c_t_thrown_46_9 h94 => ?_)
            have h94 : (r46_9.toInt = 0 ∧ c_t_thrown_46_9.toInt = 0 ∧ (0 : Int32).toInt = 0 ∧ (1 : Int32).toInt = 0) ∨ (r46_9.toInt = 1 ∧ c_t_thrown_46_9.toInt = 1 ∧ (0 : Int32).toInt ≠ 0) ∨ (r46_9.toInt = 1 ∧ c_t_thrown_46_9.toInt = 2 ∧ (0 : Int32).toInt = 0 ∧ (1 : Int32).toInt ≠ 0) := h94
            refine ok_eq (fun c95 => ?_) (fun c95 => ?_)
            · refine ok_c (ixo (by omega) (by omega)) ?_
              try have a96 := FA_at (f := f_t_forms) (by assumption) p0.toNatClampNeg
              refine ok_bx (fun f_n55_65_9 e_f_n55_65_9 => ?_)
              try have t_f_n55_65_9 : FA f_n55_65_9 := by rw [e_f_n55_65_9]; exact FA_upd (by first | assumption | exact FA_0) _ (by first | omega | assumption | trivial)
              refine ok_bx (fun f_n55_69_9 e_f_n55_69_9 => ?_)
              try have t_f_n55_69_9 : FA f_n55_69_9 := by rw [e_f_n55_69_9]; exact FA_upd (by first | assumption | exact FA_0) _ (by first | omega | assumption | trivial)
              refine ok_bx (fun f_n55_73_9 e_f_n55_73_9 => ?_)
              try have t_f_n55_73_9 : FA f_n55_73_9 := by rw [e_f_n55_73_9]; exact FA_upd (by first | assumption | exact FA_0) _ (by first | omega | assumption | trivial)
              refine ok_c (ixo (by omega) (by omega)) ?_
              try have a97 := FA_at (f := f_t_forms) (by assumption) p1.toNatClampNeg
              refine ok_bx (fun f_n77_87_9 e_f_n77_87_9 => ?_)
              try have t_f_n77_87_9 : FA f_n77_87_9 := by rw [e_f_n77_87_9]; exact FA_upd (by first | assumption | exact FA_0) _ (by first | omega | assumption | trivial)
              refine ok_bx (fun f_n77_91_9 e_f_n77_91_9 => ?_)
              try have t_f_n77_91_9 : FA f_n77_91_9 := by rw [e_f_n77_91_9]; exact FA_upd (by first | assumption | exact FA_0) _ (by first | omega | assumption | trivial)
              refine ok_bx (fun f_n77_95_9 e_f_n77_95_9 => ?_)
              try have t_f_n77_95_9 : FA f_n77_95_9 := by rw [e_f_n77_95_9]; exact FA_upd (by first | assumption | exact FA_0) _ (by first | omega | assumption | trivial)
              refine mi_loop _ (fun f_n55_98_173_9 f_n77_98_173_9 hI98 => ?_) _ _ (by rw [e_f_n55_73_9, e_f_n55_69_9, e_f_n55_65_9, e_f_n77_95_9, e_f_n77_91_9, e_f_n77_87_9]; exact mi_init (by omega) (by omega))
              have m1 : DG (f_n55_98_173_9 (1 : Int32).toNatClampNeg) ≤ 39 := (hI98.2.2 1 (Or.inl rfl)).1
              have m2 : DG (f_n55_98_173_9 (2 : Int32).toNatClampNeg) ≤ 39 := (hI98.2.2 2 (Or.inr rfl)).1
              refine ok_c (ixo (by omega) (by omega)) ?_
              try have a99 := FA_at (f := f_n55_98_173_9) (by assumption) (1 : Int32).toNatClampNeg
              refine ok_bx (fun f_t_forms_182_9 e_f_t_forms_182_9 => ?_)
              try have t_f_t_forms_182_9 : FA f_t_forms_182_9 := by rw [e_f_t_forms_182_9]; exact FA_upd (by first | assumption | exact FA_0) _ (by first | omega | assumption | trivial)
              refine ok_c (ixo (by omega) (by omega)) ?_
              try have a100 := FA_at (f := f_n55_98_173_9) (by assumption) (2 : Int32).toNatClampNeg
              refine ok_bx (fun f_t_forms_193_9 e_f_t_forms_193_9 => ?_)
              try have t_f_t_forms_193_9 : FA f_t_forms_193_9 := by rw [e_f_t_forms_193_9]; exact FA_upd (by first | assumption | exact FA_0) _ (by first | omega | assumption | trivial)
              try have a101 := FA_at (f := f_n55_98_173_9) (by assumption) (0 : Int32).toNatClampNeg
              refine ok_o (sp_X9_degreeOf (f_n55_98_173_9 (0 : Int32).toNatClampNeg) ) (fun r199_9 h102 => ?_)
              have h102 : r199_9.toInt = DG (f_n55_98_173_9 (0 : Int32).toNatClampNeg) ∧ -1 ≤ r199_9.toInt ∧ r199_9.toInt ≤ 63 := h102
              refine ok_o2 (sp_X9_done c_t_acts r199_9 ) (fun r202_9 c_t_acts_202_9 h103 => ?_)
              exact ok_s (show FA f_t_forms_193_9 from by first | omega | assumption | trivial | (refine ⟨?_, ?_⟩ <;> first | omega | assumption | trivial | rfl) | (refine ⟨?_, ?_, ?_⟩ <;> first | omega | assumption | trivial | rfl) | (refine ⟨?_, ?_, ?_, ?_⟩ <;> first | omega | assumption | trivial | rfl) | (refine ⟨?_, ?_, ?_, ?_, ?_⟩ <;> first | omega | assumption | trivial | rfl) | (refine ⟨?_, ?_, ?_, ?_, ?_, ?_⟩ <;> first | omega | assumption | trivial | rfl) | (refine ⟨?_, ?_, ?_, ?_, ?_, ?_, ?_⟩ <;> first | omega | assumption | trivial | rfl) | (refine ⟨?_, ?_, ?_, ?_, ?_, ?_, ?_, ?_⟩ <;> first | omega | assumption | trivial | rfl))
            · exact ok_s (show FA f_t_forms from by first | omega | assumption | trivial | (refine ⟨?_, ?_⟩ <;> first | omega | assumption | trivial | rfl) | (refine ⟨?_, ?_, ?_⟩ <;> first | omega | assumption | trivial | rfl) | (refine ⟨?_, ?_, ?_, ?_⟩ <;> first | omega | assumption | trivial | rfl) | (refine ⟨?_, ?_, ?_, ?_, ?_⟩ <;> first | omega | assumption | trivial | rfl) | (refine ⟨?_, ?_, ?_, ?_, ?_, ?_⟩ <;> first | omega | assumption | trivial | rfl) | (refine ⟨?_, ?_, ?_, ?_, ?_, ?_, ?_⟩ <;> first | omega | assumption | trivial | rfl) | (refine ⟨?_, ?_, ?_, ?_, ?_, ?_, ?_, ?_⟩ <;> first | omega | assumption | trivial | rfl))
          · first | unfold J_X9_multipliers_46 | skip
            refine ok_o2 (sp_X9_isThrown (0 : Int32) (0 : Int32) ) (fun r46_10 c_t_thrown_46_10 h104 => ?_)
            have h104 : (r46_10.toInt = 0 ∧ c_t_thrown_46_10.toInt = 0 ∧ (0 : Int32).toInt = 0 ∧ (0 : Int32).toInt = 0) ∨ (r46_10.toInt = 1 ∧ c_t_thrown_46_10.toInt = 1 ∧ (0 : Int32).toInt ≠ 0) ∨ (r46_10.toInt = 1 ∧ c_t_thrown_46_10.toInt = 2 ∧ (0 : Int32).toInt = 0 ∧ (0 : Int32).toInt ≠ 0) := h104
            refine ok_eq (fun c105 => ?_) (fun c105 => ?_)
            · refine ok_c (ixo (by omega) (by omega)) ?_
              try have a106 := FA_at (f := f_t_forms) (by assumption) p0.toNatClampNeg
              refine ok_bx (fun f_n55_65_10 e_f_n55_65_10 => ?_)
              try have t_f_n55_65_10 : FA f_n55_65_10 := by rw [e_f_n55_65_10]; exact FA_upd (by first | assumption | exact FA_0) _ (by first | omega | assumption | trivial)
              refine ok_bx (fun f_n55_69_10 e_f_n55_69_10 => ?_)
              try have t_f_n55_69_10 : FA f_n55_69_10 := by rw [e_f_n55_69_10]; exact FA_upd (by first | assumption | exact FA_0) _ (by first | omega | assumption | trivial)
              refine ok_bx (fun f_n55_73_10 e_f_n55_73_10 => ?_)
              try have t_f_n55_73_10 : FA f_n55_73_10 := by rw [e_f_n55_73_10]; exact FA_upd (by first | assumption | exact FA_0) _ (by first | omega | assumption | trivial)
              refine ok_c (ixo (by omega) (by omega)) ?_
              try have a107 := FA_at (f := f_t_forms) (by assumption) p1.toNatClampNeg
              refine ok_bx (fun f_n77_87_10 e_f_n77_87_10 => ?_)
              try have t_f_n77_87_10 : FA f_n77_87_10 := by rw [e_f_n77_87_10]; exact FA_upd (by first | assumption | exact FA_0) _ (by first | omega | assumption | trivial)
              refine ok_bx (fun f_n77_91_10 e_f_n77_91_10 => ?_)
              try have t_f_n77_91_10 : FA f_n77_91_10 := by rw [e_f_n77_91_10]; exact FA_upd (by first | assumption | exact FA_0) _ (by first | omega | assumption | trivial)
              refine ok_bx (fun f_n77_95_10 e_f_n77_95_10 => ?_)
              try have t_f_n77_95_10 : FA f_n77_95_10 := by rw [e_f_n77_95_10]; exact FA_upd (by first | assumption | exact FA_0) _ (by first | omega | assumption | trivial)
              refine mi_loop _ (fun f_n55_98_173_10 f_n77_98_173_10 hI108 => ?_) _ _ (by rw [e_f_n55_73_10, e_f_n55_69_10, e_f_n55_65_10, e_f_n77_95_10, e_f_n77_91_10, e_f_n77_87_10]; exact mi_init (by omega) (by omega))
              have m1 : DG (f_n55_98_173_10 (1 : Int32).toNatClampNeg) ≤ 39 := (hI108.2.2 1 (Or.inl rfl)).1
              have m2 : DG (f_n55_98_173_10 (2 : Int32).toNatClampNeg) ≤ 39 := (hI108.2.2 2 (Or.inr rfl)).1
              refine ok_c (ixo (by omega) (by omega)) ?_
              try have a109 := FA_at (f := f_n55_98_173_10) (by assumption) (1 : Int32).toNatClampNeg
              refine ok_bx (fun f_t_forms_182_10 e_f_t_forms_182_10 => ?_)
              try have t_f_t_forms_182_10 : FA f_t_forms_182_10 := by rw [e_f_t_forms_182_10]; exact FA_upd (by first | assumption | exact FA_0) _ (by first | omega | assumption | trivial)
              refine ok_c (ixo (by omega) (by omega)) ?_
              try have a110 := FA_at (f := f_n55_98_173_10) (by assumption) (2 : Int32).toNatClampNeg
              refine ok_bx (fun f_t_forms_193_10 e_f_t_forms_193_10 => ?_)
              try have t_f_t_forms_193_10 : FA f_t_forms_193_10 := by rw [e_f_t_forms_193_10]; exact FA_upd (by first | assumption | exact FA_0) _ (by first | omega | assumption | trivial)
              try have a111 := FA_at (f := f_n55_98_173_10) (by assumption) (0 : Int32).toNatClampNeg
              refine ok_o (sp_X9_degreeOf (f_n55_98_173_10 (0 : Int32).toNatClampNeg) ) (fun r199_10 h112 => ?_)
              have h112 : r199_10.toInt = DG (f_n55_98_173_10 (0 : Int32).toNatClampNeg) ∧ -1 ≤ r199_10.toInt ∧ r199_10.toInt ≤ 63 := h112
              refine ok_o2 (sp_X9_done c_t_acts r199_10 ) (fun r202_10 c_t_acts_202_10 h113 => ?_)
              exact ok_s (show FA f_t_forms_193_10 from by first | omega | assumption | trivial | (refine ⟨?_, ?_⟩ <;> first | omega | assumption | trivial | rfl) | (refine ⟨?_, ?_, ?_⟩ <;> first | omega | assumption | trivial | rfl) | (refine ⟨?_, ?_, ?_, ?_⟩ <;> first | omega | assumption | trivial | rfl) | (refine ⟨?_, ?_, ?_, ?_, ?_⟩ <;> first | omega | assumption | trivial | rfl) | (refine ⟨?_, ?_, ?_, ?_, ?_, ?_⟩ <;> first | omega | assumption | trivial | rfl) | (refine ⟨?_, ?_, ?_, ?_, ?_, ?_, ?_⟩ <;> first | omega | assumption | trivial | rfl) | (refine ⟨?_, ?_, ?_, ?_, ?_, ?_, ?_, ?_⟩ <;> first | omega | assumption | trivial | rfl))
            · exact ok_s (show FA f_t_forms from by first | omega | assumption | trivial | (refine ⟨?_, ?_⟩ <;> first | omega | assumption | trivial | rfl) | (refine ⟨?_, ?_, ?_⟩ <;> first | omega | assumption | trivial | rfl) | (refine ⟨?_, ?_, ?_, ?_⟩ <;> first | omega | assumption | trivial | rfl) | (refine ⟨?_, ?_, ?_, ?_, ?_⟩ <;> first | omega | assumption | trivial | rfl) | (refine ⟨?_, ?_, ?_, ?_, ?_, ?_⟩ <;> first | omega | assumption | trivial | rfl) | (refine ⟨?_, ?_, ?_, ?_, ?_, ?_, ?_⟩ <;> first | omega | assumption | trivial | rfl) | (refine ⟨?_, ?_, ?_, ?_, ?_, ?_, ?_, ?_⟩ <;> first | omega | assumption | trivial | rfl))
set_option maxHeartbeats 1000000 in
theorem sp_X9_power (c_t_acts : Int32) (c_t_refused : Int32) (c_t_thrown : Int32) (f_t_forms : Nat → Int64) (p0 : Int32) (p1 : Int32) (p2 : Int32) (p3 : Int32) (hp0 : FA f_t_forms) : ok (F_X9_power c_t_acts c_t_refused c_t_thrown f_t_forms p0 p1 p2 p3) (fun r => FA r.2.2.2.2) := by
  have l032 : (0 : Int32).toInt = 0 := by decide
  have l064 : (0 : Int64).toInt = 0 := by decide
  have l132 : (1 : Int32).toInt = 1 := by decide
  have l2032 : (20 : Int32).toInt = 20 := by decide
  have l25532 : (255 : Int32).toInt = 255 := by decide
  unfold F_X9_power
  refine ok_o (sp_X9_isForm p0 ) (fun r2 h1 => ?_)
  have h1 : (r2.toInt = 1 ∧ 0 ≤ p0.toInt ∧ p0.toInt ≤ 5) ∨ (r2.toInt = 0 ∧ (p0.toInt < 0 ∨ 6 ≤ p0.toInt)) := h1
  refine ok_eq (fun c2 => ?_) (fun c2 => ?_)
  · first | unfold J_X9_power_23 | skip
    first | unfold J_X9_power_28 | skip
    refine ok_lt (fun c3 => ?_) (fun c3 => ?_)
    · first | unfold J_X9_power_39 | skip
      first | unfold J_X9_power_44 | skip
      refine ok_o2 (sp_X9_isThrown (1 : Int32) (1 : Int32) ) (fun r44 c_t_thrown_44 h4 => ?_)
      have h4 : (r44.toInt = 0 ∧ c_t_thrown_44.toInt = 0 ∧ (1 : Int32).toInt = 0 ∧ (1 : Int32).toInt = 0) ∨ (r44.toInt = 1 ∧ c_t_thrown_44.toInt = 1 ∧ (1 : Int32).toInt ≠ 0) ∨ (r44.toInt = 1 ∧ c_t_thrown_44.toInt = 2 ∧ (1 : Int32).toInt = 0 ∧ (1 : Int32).toInt ≠ 0) := h4
      refine ok_eq (fun c5 => ?_) (fun c5 => ?_)
      · refine ok_c (ixo (by omega) (by omega)) ?_
        try have a7 := FA_at (f := f_t_forms) (by assumption) p2.toNatClampNeg
        have z_c6 := DG_z (f_t_forms p2.toNatClampNeg)
        refine ok_eqL (fun c6 => ?_) (fun c6 => ?_)
        · refine ok_o2 (sp_X9_no c_t_refused ) (fun r78 c_t_refused_78 h8 => ?_)
          exact ok_s (show FA f_t_forms from by first | omega | assumption | trivial | (refine ⟨?_, ?_⟩ <;> first | omega | assumption | trivial | rfl) | (refine ⟨?_, ?_, ?_⟩ <;> first | omega | assumption | trivial | rfl) | (refine ⟨?_, ?_, ?_, ?_⟩ <;> first | omega | assumption | trivial | rfl) | (refine ⟨?_, ?_, ?_, ?_, ?_⟩ <;> first | omega | assumption | trivial | rfl) | (refine ⟨?_, ?_, ?_, ?_, ?_, ?_⟩ <;> first | omega | assumption | trivial | rfl) | (refine ⟨?_, ?_, ?_, ?_, ?_, ?_, ?_⟩ <;> first | omega | assumption | trivial | rfl) | (refine ⟨?_, ?_, ?_, ?_, ?_, ?_, ?_, ?_⟩ <;> first | omega | assumption | trivial | rfl))
        · refine ok_c (ixo (by omega) (by omega)) ?_
          try have a9 := FA_at (f := f_t_forms) (by assumption) p2.toNatClampNeg
          refine ok_o (sp_X9_degreeOf (f_t_forms p2.toNatClampNeg) ) (fun r69 h10 => ?_)
          have h10 : r69.toInt = DG (f_t_forms p2.toNatClampNeg) ∧ -1 ≤ r69.toInt ∧ r69.toInt ≤ 63 := h10
          refine ok_le (fun c11 => ?_) (fun c11 => ?_)
          · refine ok_c (ixo (by omega) (by omega)) ?_
            refine ok_c (ixo (by omega) (by omega)) ?_
            try have a12 := FA_at (f := f_t_forms) (by assumption) p0.toNatClampNeg
            try have a13 := FA_at (f := f_t_forms) (by assumption) p2.toNatClampNeg
            refine ok_o (sp_X9_powerOf (f_t_forms p0.toNatClampNeg) p1 (f_t_forms p2.toNatClampNeg) (by first | omega | assumption | trivial | exact wt_of (by assumption) (by omega)) (by first | omega | assumption | trivial | exact wt_of (by assumption) (by omega)) (by first | omega | assumption | trivial | exact wt_of (by assumption) (by omega)) (by first | omega | assumption | trivial | exact wt_of (by assumption) (by omega)) (by first | omega | assumption | trivial | exact wt_of (by assumption) (by omega))) (fun r100 h14 => ?_)
            have h14 : DG r100 ≤ 39 := h14
            refine ok_o3 (sp_X9_give c_t_acts f_t_forms p3 r100 (by first | omega | assumption | trivial | exact wt_of (by assumption) (by omega)) (by first | omega | assumption | trivial | exact wt_of (by assumption) (by omega)) (by first | omega | assumption | trivial | exact wt_of (by assumption) (by omega)) (by first | omega | assumption | trivial | exact wt_of (by assumption) (by omega))) (fun r103 c_t_acts_103 f_t_forms_103 h15 => ?_)
            have h15 : FA f_t_forms_103 := h15
            exact ok_s (show FA f_t_forms_103 from by first | omega | assumption | trivial | (refine ⟨?_, ?_⟩ <;> first | omega | assumption | trivial | rfl) | (refine ⟨?_, ?_, ?_⟩ <;> first | omega | assumption | trivial | rfl) | (refine ⟨?_, ?_, ?_, ?_⟩ <;> first | omega | assumption | trivial | rfl) | (refine ⟨?_, ?_, ?_, ?_, ?_⟩ <;> first | omega | assumption | trivial | rfl) | (refine ⟨?_, ?_, ?_, ?_, ?_, ?_⟩ <;> first | omega | assumption | trivial | rfl) | (refine ⟨?_, ?_, ?_, ?_, ?_, ?_, ?_⟩ <;> first | omega | assumption | trivial | rfl) | (refine ⟨?_, ?_, ?_, ?_, ?_, ?_, ?_, ?_⟩ <;> first | omega | assumption | trivial | rfl))
          · refine ok_o2 (sp_X9_no c_t_refused ) (fun r78_2 c_t_refused_78_2 h16 => ?_)
            exact ok_s (show FA f_t_forms from by first | omega | assumption | trivial | (refine ⟨?_, ?_⟩ <;> first | omega | assumption | trivial | rfl) | (refine ⟨?_, ?_, ?_⟩ <;> first | omega | assumption | trivial | rfl) | (refine ⟨?_, ?_, ?_, ?_⟩ <;> first | omega | assumption | trivial | rfl) | (refine ⟨?_, ?_, ?_, ?_, ?_⟩ <;> first | omega | assumption | trivial | rfl) | (refine ⟨?_, ?_, ?_, ?_, ?_, ?_⟩ <;> first | omega | assumption | trivial | rfl) | (refine ⟨?_, ?_, ?_, ?_, ?_, ?_, ?_⟩ <;> first | omega | assumption | trivial | rfl) | (refine ⟨?_, ?_, ?_, ?_, ?_, ?_, ?_, ?_⟩ <;> first | omega | assumption | trivial | rfl))
      · exact ok_s (show FA f_t_forms from by first | omega | assumption | trivial | (refine ⟨?_, ?_⟩ <;> first | omega | assumption | trivial | rfl) | (refine ⟨?_, ?_, ?_⟩ <;> first | omega | assumption | trivial | rfl) | (refine ⟨?_, ?_, ?_, ?_⟩ <;> first | omega | assumption | trivial | rfl) | (refine ⟨?_, ?_, ?_, ?_, ?_⟩ <;> first | omega | assumption | trivial | rfl) | (refine ⟨?_, ?_, ?_, ?_, ?_, ?_⟩ <;> first | omega | assumption | trivial | rfl) | (refine ⟨?_, ?_, ?_, ?_, ?_, ?_, ?_⟩ <;> first | omega | assumption | trivial | rfl) | (refine ⟨?_, ?_, ?_, ?_, ?_, ?_, ?_, ?_⟩ <;> first | omega | assumption | trivial | rfl))
    · refine ok_le (fun c17 => ?_) (fun c17 => ?_)
      · first | unfold J_X9_power_44 | skip
        refine ok_o2 (sp_X9_isThrown (1 : Int32) (0 : Int32) ) (fun r44_2 c_t_thrown_44_2 h18 => ?_)
        have h18 : (r44_2.toInt = 0 ∧ c_t_thrown_44_2.toInt = 0 ∧ (1 : Int32).toInt = 0 ∧ (0 : Int32).toInt = 0) ∨ (r44_2.toInt = 1 ∧ c_t_thrown_44_2.toInt = 1 ∧ (1 : Int32).toInt ≠ 0) ∨ (r44_2.toInt = 1 ∧ c_t_thrown_44_2.toInt = 2 ∧ (1 : Int32).toInt = 0 ∧ (0 : Int32).toInt ≠ 0) := h18
        refine ok_eq (fun c19 => ?_) (fun c19 => ?_)
        · refine ok_c (ixo (by omega) (by omega)) ?_
          try have a21 := FA_at (f := f_t_forms) (by assumption) p2.toNatClampNeg
          have z_c20 := DG_z (f_t_forms p2.toNatClampNeg)
          refine ok_eqL (fun c20 => ?_) (fun c20 => ?_)
          · refine ok_o2 (sp_X9_no c_t_refused ) (fun r78_3 c_t_refused_78_3 h22 => ?_)
            exact ok_s (show FA f_t_forms from by first | omega | assumption | trivial | (refine ⟨?_, ?_⟩ <;> first | omega | assumption | trivial | rfl) | (refine ⟨?_, ?_, ?_⟩ <;> first | omega | assumption | trivial | rfl) | (refine ⟨?_, ?_, ?_, ?_⟩ <;> first | omega | assumption | trivial | rfl) | (refine ⟨?_, ?_, ?_, ?_, ?_⟩ <;> first | omega | assumption | trivial | rfl) | (refine ⟨?_, ?_, ?_, ?_, ?_, ?_⟩ <;> first | omega | assumption | trivial | rfl) | (refine ⟨?_, ?_, ?_, ?_, ?_, ?_, ?_⟩ <;> first | omega | assumption | trivial | rfl) | (refine ⟨?_, ?_, ?_, ?_, ?_, ?_, ?_, ?_⟩ <;> first | omega | assumption | trivial | rfl))
          · refine ok_c (ixo (by omega) (by omega)) ?_
            try have a23 := FA_at (f := f_t_forms) (by assumption) p2.toNatClampNeg
            refine ok_o (sp_X9_degreeOf (f_t_forms p2.toNatClampNeg) ) (fun r69_2 h24 => ?_)
            have h24 : r69_2.toInt = DG (f_t_forms p2.toNatClampNeg) ∧ -1 ≤ r69_2.toInt ∧ r69_2.toInt ≤ 63 := h24
            refine ok_le (fun c25 => ?_) (fun c25 => ?_)
            · refine ok_c (ixo (by omega) (by omega)) ?_
              refine ok_c (ixo (by omega) (by omega)) ?_
              try have a26 := FA_at (f := f_t_forms) (by assumption) p0.toNatClampNeg
              try have a27 := FA_at (f := f_t_forms) (by assumption) p2.toNatClampNeg
              refine ok_o (sp_X9_powerOf (f_t_forms p0.toNatClampNeg) p1 (f_t_forms p2.toNatClampNeg) (by first | omega | assumption | trivial | exact wt_of (by assumption) (by omega)) (by first | omega | assumption | trivial | exact wt_of (by assumption) (by omega)) (by first | omega | assumption | trivial | exact wt_of (by assumption) (by omega)) (by first | omega | assumption | trivial | exact wt_of (by assumption) (by omega)) (by first | omega | assumption | trivial | exact wt_of (by assumption) (by omega))) (fun r100_2 h28 => ?_)
              have h28 : DG r100_2 ≤ 39 := h28
              refine ok_o3 (sp_X9_give c_t_acts f_t_forms p3 r100_2 (by first | omega | assumption | trivial | exact wt_of (by assumption) (by omega)) (by first | omega | assumption | trivial | exact wt_of (by assumption) (by omega)) (by first | omega | assumption | trivial | exact wt_of (by assumption) (by omega)) (by first | omega | assumption | trivial | exact wt_of (by assumption) (by omega))) (fun r103_2 c_t_acts_103_2 f_t_forms_103_2 h29 => ?_)
              have h29 : FA f_t_forms_103_2 := h29
              exact ok_s (show FA f_t_forms_103_2 from by first | omega | assumption | trivial | (refine ⟨?_, ?_⟩ <;> first | omega | assumption | trivial | rfl) | (refine ⟨?_, ?_, ?_⟩ <;> first | omega | assumption | trivial | rfl) | (refine ⟨?_, ?_, ?_, ?_⟩ <;> first | omega | assumption | trivial | rfl) | (refine ⟨?_, ?_, ?_, ?_, ?_⟩ <;> first | omega | assumption | trivial | rfl) | (refine ⟨?_, ?_, ?_, ?_, ?_, ?_⟩ <;> first | omega | assumption | trivial | rfl) | (refine ⟨?_, ?_, ?_, ?_, ?_, ?_, ?_⟩ <;> first | omega | assumption | trivial | rfl) | (refine ⟨?_, ?_, ?_, ?_, ?_, ?_, ?_, ?_⟩ <;> first | omega | assumption | trivial | rfl))
            · refine ok_o2 (sp_X9_no c_t_refused ) (fun r78_4 c_t_refused_78_4 h30 => ?_)
              exact ok_s (show FA f_t_forms from by first | omega | assumption | trivial | (refine ⟨?_, ?_⟩ <;> first | omega | assumption | trivial | rfl) | (refine ⟨?_, ?_, ?_⟩ <;> first | omega | assumption | trivial | rfl) | (refine ⟨?_, ?_, ?_, ?_⟩ <;> first | omega | assumption | trivial | rfl) | (refine ⟨?_, ?_, ?_, ?_, ?_⟩ <;> first | omega | assumption | trivial | rfl) | (refine ⟨?_, ?_, ?_, ?_, ?_, ?_⟩ <;> first | omega | assumption | trivial | rfl) | (refine ⟨?_, ?_, ?_, ?_, ?_, ?_, ?_⟩ <;> first | omega | assumption | trivial | rfl) | (refine ⟨?_, ?_, ?_, ?_, ?_, ?_, ?_, ?_⟩ <;> first | omega | assumption | trivial | rfl))
        · exact ok_s (show FA f_t_forms from by first | omega | assumption | trivial | (refine ⟨?_, ?_⟩ <;> first | omega | assumption | trivial | rfl) | (refine ⟨?_, ?_, ?_⟩ <;> first | omega | assumption | trivial | rfl) | (refine ⟨?_, ?_, ?_, ?_⟩ <;> first | omega | assumption | trivial | rfl) | (refine ⟨?_, ?_, ?_, ?_, ?_⟩ <;> first | omega | assumption | trivial | rfl) | (refine ⟨?_, ?_, ?_, ?_, ?_, ?_⟩ <;> first | omega | assumption | trivial | rfl) | (refine ⟨?_, ?_, ?_, ?_, ?_, ?_, ?_⟩ <;> first | omega | assumption | trivial | rfl) | (refine ⟨?_, ?_, ?_, ?_, ?_, ?_, ?_, ?_⟩ <;> first | omega | assumption | trivial | rfl))
      · first | unfold J_X9_power_39 | skip
        first | unfold J_X9_power_44 | skip
        refine ok_o2 (sp_X9_isThrown (1 : Int32) (1 : Int32) ) (fun r44_3 c_t_thrown_44_3 h31 => ?_)
        have h31 : (r44_3.toInt = 0 ∧ c_t_thrown_44_3.toInt = 0 ∧ (1 : Int32).toInt = 0 ∧ (1 : Int32).toInt = 0) ∨ (r44_3.toInt = 1 ∧ c_t_thrown_44_3.toInt = 1 ∧ (1 : Int32).toInt ≠ 0) ∨ (r44_3.toInt = 1 ∧ c_t_thrown_44_3.toInt = 2 ∧ (1 : Int32).toInt = 0 ∧ (1 : Int32).toInt ≠ 0) := h31
        refine ok_eq (fun c32 => ?_) (fun c32 => ?_)
        · refine ok_c (ixo (by omega) (by omega)) ?_
          try have a34 := FA_at (f := f_t_forms) (by assumption) p2.toNatClampNeg
          have z_c33 := DG_z (f_t_forms p2.toNatClampNeg)
          refine ok_eqL (fun c33 => ?_) (fun c33 => ?_)
          · refine ok_o2 (sp_X9_no c_t_refused ) (fun r78_5 c_t_refused_78_5 h35 => ?_)
            exact ok_s (show FA f_t_forms from by first | omega | assumption | trivial | (refine ⟨?_, ?_⟩ <;> first | omega | assumption | trivial | rfl) | (refine ⟨?_, ?_, ?_⟩ <;> first | omega | assumption | trivial | rfl) | (refine ⟨?_, ?_, ?_, ?_⟩ <;> first | omega | assumption | trivial | rfl) | (refine ⟨?_, ?_, ?_, ?_, ?_⟩ <;> first | omega | assumption | trivial | rfl) | (refine ⟨?_, ?_, ?_, ?_, ?_, ?_⟩ <;> first | omega | assumption | trivial | rfl) | (refine ⟨?_, ?_, ?_, ?_, ?_, ?_, ?_⟩ <;> first | omega | assumption | trivial | rfl) | (refine ⟨?_, ?_, ?_, ?_, ?_, ?_, ?_, ?_⟩ <;> first | omega | assumption | trivial | rfl))
          · refine ok_c (ixo (by omega) (by omega)) ?_
            try have a36 := FA_at (f := f_t_forms) (by assumption) p2.toNatClampNeg
            refine ok_o (sp_X9_degreeOf (f_t_forms p2.toNatClampNeg) ) (fun r69_3 h37 => ?_)
            have h37 : r69_3.toInt = DG (f_t_forms p2.toNatClampNeg) ∧ -1 ≤ r69_3.toInt ∧ r69_3.toInt ≤ 63 := h37
            refine ok_le (fun c38 => ?_) (fun c38 => ?_)
            · refine ok_c (ixo (by omega) (by omega)) ?_
              refine ok_c (ixo (by omega) (by omega)) ?_
              try have a39 := FA_at (f := f_t_forms) (by assumption) p0.toNatClampNeg
              try have a40 := FA_at (f := f_t_forms) (by assumption) p2.toNatClampNeg
              refine ok_o (sp_X9_powerOf (f_t_forms p0.toNatClampNeg) p1 (f_t_forms p2.toNatClampNeg) (by first | omega | assumption | trivial | exact wt_of (by assumption) (by omega)) (by first | omega | assumption | trivial | exact wt_of (by assumption) (by omega)) (by first | omega | assumption | trivial | exact wt_of (by assumption) (by omega)) (by first | omega | assumption | trivial | exact wt_of (by assumption) (by omega)) (by first | omega | assumption | trivial | exact wt_of (by assumption) (by omega))) (fun r100_3 h41 => ?_)
              have h41 : DG r100_3 ≤ 39 := h41
              refine ok_o3 (sp_X9_give c_t_acts f_t_forms p3 r100_3 (by first | omega | assumption | trivial | exact wt_of (by assumption) (by omega)) (by first | omega | assumption | trivial | exact wt_of (by assumption) (by omega)) (by first | omega | assumption | trivial | exact wt_of (by assumption) (by omega)) (by first | omega | assumption | trivial | exact wt_of (by assumption) (by omega))) (fun r103_3 c_t_acts_103_3 f_t_forms_103_3 h42 => ?_)
              have h42 : FA f_t_forms_103_3 := h42
              exact ok_s (show FA f_t_forms_103_3 from by first | omega | assumption | trivial | (refine ⟨?_, ?_⟩ <;> first | omega | assumption | trivial | rfl) | (refine ⟨?_, ?_, ?_⟩ <;> first | omega | assumption | trivial | rfl) | (refine ⟨?_, ?_, ?_, ?_⟩ <;> first | omega | assumption | trivial | rfl) | (refine ⟨?_, ?_, ?_, ?_, ?_⟩ <;> first | omega | assumption | trivial | rfl) | (refine ⟨?_, ?_, ?_, ?_, ?_, ?_⟩ <;> first | omega | assumption | trivial | rfl) | (refine ⟨?_, ?_, ?_, ?_, ?_, ?_, ?_⟩ <;> first | omega | assumption | trivial | rfl) | (refine ⟨?_, ?_, ?_, ?_, ?_, ?_, ?_, ?_⟩ <;> first | omega | assumption | trivial | rfl))
            · refine ok_o2 (sp_X9_no c_t_refused ) (fun r78_6 c_t_refused_78_6 h43 => ?_)
              exact ok_s (show FA f_t_forms from by first | omega | assumption | trivial | (refine ⟨?_, ?_⟩ <;> first | omega | assumption | trivial | rfl) | (refine ⟨?_, ?_, ?_⟩ <;> first | omega | assumption | trivial | rfl) | (refine ⟨?_, ?_, ?_, ?_⟩ <;> first | omega | assumption | trivial | rfl) | (refine ⟨?_, ?_, ?_, ?_, ?_⟩ <;> first | omega | assumption | trivial | rfl) | (refine ⟨?_, ?_, ?_, ?_, ?_, ?_⟩ <;> first | omega | assumption | trivial | rfl) | (refine ⟨?_, ?_, ?_, ?_, ?_, ?_, ?_⟩ <;> first | omega | assumption | trivial | rfl) | (refine ⟨?_, ?_, ?_, ?_, ?_, ?_, ?_, ?_⟩ <;> first | omega | assumption | trivial | rfl))
        · exact ok_s (show FA f_t_forms from by first | omega | assumption | trivial | (refine ⟨?_, ?_⟩ <;> first | omega | assumption | trivial | rfl) | (refine ⟨?_, ?_, ?_⟩ <;> first | omega | assumption | trivial | rfl) | (refine ⟨?_, ?_, ?_, ?_⟩ <;> first | omega | assumption | trivial | rfl) | (refine ⟨?_, ?_, ?_, ?_, ?_⟩ <;> first | omega | assumption | trivial | rfl) | (refine ⟨?_, ?_, ?_, ?_, ?_, ?_⟩ <;> first | omega | assumption | trivial | rfl) | (refine ⟨?_, ?_, ?_, ?_, ?_, ?_, ?_⟩ <;> first | omega | assumption | trivial | rfl) | (refine ⟨?_, ?_, ?_, ?_, ?_, ?_, ?_, ?_⟩ <;> first | omega | assumption | trivial | rfl))
  · refine ok_o (sp_X9_isForm p2 ) (fun r9 h44 => ?_)
    have h44 : (r9.toInt = 1 ∧ 0 ≤ p2.toInt ∧ p2.toInt ≤ 5) ∨ (r9.toInt = 0 ∧ (p2.toInt < 0 ∨ 6 ≤ p2.toInt)) := h44
    refine ok_eq (fun c45 => ?_) (fun c45 => ?_)
    · first | unfold J_X9_power_23 | skip
      first | unfold J_X9_power_28 | skip
      refine ok_lt (fun c46 => ?_) (fun c46 => ?_)
      · first | unfold J_X9_power_39 | skip
        first | unfold J_X9_power_44 | skip
        refine ok_o2 (sp_X9_isThrown (1 : Int32) (1 : Int32) ) (fun r44_4 c_t_thrown_44_4 h47 => ?_)
        have h47 : (r44_4.toInt = 0 ∧ c_t_thrown_44_4.toInt = 0 ∧ (1 : Int32).toInt = 0 ∧ (1 : Int32).toInt = 0) ∨ (r44_4.toInt = 1 ∧ c_t_thrown_44_4.toInt = 1 ∧ (1 : Int32).toInt ≠ 0) ∨ (r44_4.toInt = 1 ∧ c_t_thrown_44_4.toInt = 2 ∧ (1 : Int32).toInt = 0 ∧ (1 : Int32).toInt ≠ 0) := h47
        refine ok_eq (fun c48 => ?_) (fun c48 => ?_)
        · refine ok_c (ixo (by omega) (by omega)) ?_
          try have a50 := FA_at (f := f_t_forms) (by assumption) p2.toNatClampNeg
          have z_c49 := DG_z (f_t_forms p2.toNatClampNeg)
          refine ok_eqL (fun c49 => ?_) (fun c49 => ?_)
          · refine ok_o2 (sp_X9_no c_t_refused ) (fun r78_7 c_t_refused_78_7 h51 => ?_)
            exact ok_s (show FA f_t_forms from by first | omega | assumption | trivial | (refine ⟨?_, ?_⟩ <;> first | omega | assumption | trivial | rfl) | (refine ⟨?_, ?_, ?_⟩ <;> first | omega | assumption | trivial | rfl) | (refine ⟨?_, ?_, ?_, ?_⟩ <;> first | omega | assumption | trivial | rfl) | (refine ⟨?_, ?_, ?_, ?_, ?_⟩ <;> first | omega | assumption | trivial | rfl) | (refine ⟨?_, ?_, ?_, ?_, ?_, ?_⟩ <;> first | omega | assumption | trivial | rfl) | (refine ⟨?_, ?_, ?_, ?_, ?_, ?_, ?_⟩ <;> first | omega | assumption | trivial | rfl) | (refine ⟨?_, ?_, ?_, ?_, ?_, ?_, ?_, ?_⟩ <;> first | omega | assumption | trivial | rfl))
          · refine ok_c (ixo (by omega) (by omega)) ?_
            try have a52 := FA_at (f := f_t_forms) (by assumption) p2.toNatClampNeg
            refine ok_o (sp_X9_degreeOf (f_t_forms p2.toNatClampNeg) ) (fun r69_4 h53 => ?_)
            have h53 : r69_4.toInt = DG (f_t_forms p2.toNatClampNeg) ∧ -1 ≤ r69_4.toInt ∧ r69_4.toInt ≤ 63 := h53
            refine ok_le (fun c54 => ?_) (fun c54 => ?_)
            · refine ok_c (ixo (by omega) (by omega)) ?_
              refine ok_c (ixo (by omega) (by omega)) ?_
              try have a55 := FA_at (f := f_t_forms) (by assumption) p0.toNatClampNeg
              try have a56 := FA_at (f := f_t_forms) (by assumption) p2.toNatClampNeg
              refine ok_o (sp_X9_powerOf (f_t_forms p0.toNatClampNeg) p1 (f_t_forms p2.toNatClampNeg) (by first | omega | assumption | trivial | exact wt_of (by assumption) (by omega)) (by first | omega | assumption | trivial | exact wt_of (by assumption) (by omega)) (by first | omega | assumption | trivial | exact wt_of (by assumption) (by omega)) (by first | omega | assumption | trivial | exact wt_of (by assumption) (by omega)) (by first | omega | assumption | trivial | exact wt_of (by assumption) (by omega))) (fun r100_4 h57 => ?_)
              have h57 : DG r100_4 ≤ 39 := h57
              refine ok_o3 (sp_X9_give c_t_acts f_t_forms p3 r100_4 (by first | omega | assumption | trivial | exact wt_of (by assumption) (by omega)) (by first | omega | assumption | trivial | exact wt_of (by assumption) (by omega)) (by first | omega | assumption | trivial | exact wt_of (by assumption) (by omega)) (by first | omega | assumption | trivial | exact wt_of (by assumption) (by omega))) (fun r103_4 c_t_acts_103_4 f_t_forms_103_4 h58 => ?_)
              have h58 : FA f_t_forms_103_4 := h58
              exact ok_s (show FA f_t_forms_103_4 from by first | omega | assumption | trivial | (refine ⟨?_, ?_⟩ <;> first | omega | assumption | trivial | rfl) | (refine ⟨?_, ?_, ?_⟩ <;> first | omega | assumption | trivial | rfl) | (refine ⟨?_, ?_, ?_, ?_⟩ <;> first | omega | assumption | trivial | rfl) | (refine ⟨?_, ?_, ?_, ?_, ?_⟩ <;> first | omega | assumption | trivial | rfl) | (refine ⟨?_, ?_, ?_, ?_, ?_, ?_⟩ <;> first | omega | assumption | trivial | rfl) | (refine ⟨?_, ?_, ?_, ?_, ?_, ?_, ?_⟩ <;> first | omega | assumption | trivial | rfl) | (refine ⟨?_, ?_, ?_, ?_, ?_, ?_, ?_, ?_⟩ <;> first | omega | assumption | trivial | rfl))
            · refine ok_o2 (sp_X9_no c_t_refused ) (fun r78_8 c_t_refused_78_8 h59 => ?_)
              exact ok_s (show FA f_t_forms from by first | omega | assumption | trivial | (refine ⟨?_, ?_⟩ <;> first | omega | assumption | trivial | rfl) | (refine ⟨?_, ?_, ?_⟩ <;> first | omega | assumption | trivial | rfl) | (refine ⟨?_, ?_, ?_, ?_⟩ <;> first | omega | assumption | trivial | rfl) | (refine ⟨?_, ?_, ?_, ?_, ?_⟩ <;> first | omega | assumption | trivial | rfl) | (refine ⟨?_, ?_, ?_, ?_, ?_, ?_⟩ <;> first | omega | assumption | trivial | rfl) | (refine ⟨?_, ?_, ?_, ?_, ?_, ?_, ?_⟩ <;> first | omega | assumption | trivial | rfl) | (refine ⟨?_, ?_, ?_, ?_, ?_, ?_, ?_, ?_⟩ <;> first | omega | assumption | trivial | rfl))
        · exact ok_s (show FA f_t_forms from by first | omega | assumption | trivial | (refine ⟨?_, ?_⟩ <;> first | omega | assumption | trivial | rfl) | (refine ⟨?_, ?_, ?_⟩ <;> first | omega | assumption | trivial | rfl) | (refine ⟨?_, ?_, ?_, ?_⟩ <;> first | omega | assumption | trivial | rfl) | (refine ⟨?_, ?_, ?_, ?_, ?_⟩ <;> first | omega | assumption | trivial | rfl) | (refine ⟨?_, ?_, ?_, ?_, ?_, ?_⟩ <;> first | omega | assumption | trivial | rfl) | (refine ⟨?_, ?_, ?_, ?_, ?_, ?_, ?_⟩ <;> first | omega | assumption | trivial | rfl) | (refine ⟨?_, ?_, ?_, ?_, ?_, ?_, ?_, ?_⟩ <;> first | omega | assumption | trivial | rfl))
      · refine ok_le (fun c60 => ?_) (fun c60 => ?_)
        · first | unfold J_X9_power_44 | skip
          refine ok_o2 (sp_X9_isThrown (1 : Int32) (0 : Int32) ) (fun r44_5 c_t_thrown_44_5 h61 => ?_)
          have h61 : (r44_5.toInt = 0 ∧ c_t_thrown_44_5.toInt = 0 ∧ (1 : Int32).toInt = 0 ∧ (0 : Int32).toInt = 0) ∨ (r44_5.toInt = 1 ∧ c_t_thrown_44_5.toInt = 1 ∧ (1 : Int32).toInt ≠ 0) ∨ (r44_5.toInt = 1 ∧ c_t_thrown_44_5.toInt = 2 ∧ (1 : Int32).toInt = 0 ∧ (0 : Int32).toInt ≠ 0) := h61
          refine ok_eq (fun c62 => ?_) (fun c62 => ?_)
          · refine ok_c (ixo (by omega) (by omega)) ?_
            try have a64 := FA_at (f := f_t_forms) (by assumption) p2.toNatClampNeg
            have z_c63 := DG_z (f_t_forms p2.toNatClampNeg)
            refine ok_eqL (fun c63 => ?_) (fun c63 => ?_)
            · refine ok_o2 (sp_X9_no c_t_refused ) (fun r78_9 c_t_refused_78_9 h65 => ?_)
              exact ok_s (show FA f_t_forms from by first | omega | assumption | trivial | (refine ⟨?_, ?_⟩ <;> first | omega | assumption | trivial | rfl) | (refine ⟨?_, ?_, ?_⟩ <;> first | omega | assumption | trivial | rfl) | (refine ⟨?_, ?_, ?_, ?_⟩ <;> first | omega | assumption | trivial | rfl) | (refine ⟨?_, ?_, ?_, ?_, ?_⟩ <;> first | omega | assumption | trivial | rfl) | (refine ⟨?_, ?_, ?_, ?_, ?_, ?_⟩ <;> first | omega | assumption | trivial | rfl) | (refine ⟨?_, ?_, ?_, ?_, ?_, ?_, ?_⟩ <;> first | omega | assumption | trivial | rfl) | (refine ⟨?_, ?_, ?_, ?_, ?_, ?_, ?_, ?_⟩ <;> first | omega | assumption | trivial | rfl))
            · refine ok_c (ixo (by omega) (by omega)) ?_
              try have a66 := FA_at (f := f_t_forms) (by assumption) p2.toNatClampNeg
              refine ok_o (sp_X9_degreeOf (f_t_forms p2.toNatClampNeg) ) (fun r69_5 h67 => ?_)
              have h67 : r69_5.toInt = DG (f_t_forms p2.toNatClampNeg) ∧ -1 ≤ r69_5.toInt ∧ r69_5.toInt ≤ 63 := h67
              refine ok_le (fun c68 => ?_) (fun c68 => ?_)
              · refine ok_c (ixo (by omega) (by omega)) ?_
                refine ok_c (ixo (by omega) (by omega)) ?_
                try have a69 := FA_at (f := f_t_forms) (by assumption) p0.toNatClampNeg
                try have a70 := FA_at (f := f_t_forms) (by assumption) p2.toNatClampNeg
                refine ok_o (sp_X9_powerOf (f_t_forms p0.toNatClampNeg) p1 (f_t_forms p2.toNatClampNeg) (by first | omega | assumption | trivial | exact wt_of (by assumption) (by omega)) (by first | omega | assumption | trivial | exact wt_of (by assumption) (by omega)) (by first | omega | assumption | trivial | exact wt_of (by assumption) (by omega)) (by first | omega | assumption | trivial | exact wt_of (by assumption) (by omega)) (by first | omega | assumption | trivial | exact wt_of (by assumption) (by omega))) (fun r100_5 h71 => ?_)
                have h71 : DG r100_5 ≤ 39 := h71
                refine ok_o3 (sp_X9_give c_t_acts f_t_forms p3 r100_5 (by first | omega | assumption | trivial | exact wt_of (by assumption) (by omega)) (by first | omega | assumption | trivial | exact wt_of (by assumption) (by omega)) (by first | omega | assumption | trivial | exact wt_of (by assumption) (by omega)) (by first | omega | assumption | trivial | exact wt_of (by assumption) (by omega))) (fun r103_5 c_t_acts_103_5 f_t_forms_103_5 h72 => ?_)
                have h72 : FA f_t_forms_103_5 := h72
                exact ok_s (show FA f_t_forms_103_5 from by first | omega | assumption | trivial | (refine ⟨?_, ?_⟩ <;> first | omega | assumption | trivial | rfl) | (refine ⟨?_, ?_, ?_⟩ <;> first | omega | assumption | trivial | rfl) | (refine ⟨?_, ?_, ?_, ?_⟩ <;> first | omega | assumption | trivial | rfl) | (refine ⟨?_, ?_, ?_, ?_, ?_⟩ <;> first | omega | assumption | trivial | rfl) | (refine ⟨?_, ?_, ?_, ?_, ?_, ?_⟩ <;> first | omega | assumption | trivial | rfl) | (refine ⟨?_, ?_, ?_, ?_, ?_, ?_, ?_⟩ <;> first | omega | assumption | trivial | rfl) | (refine ⟨?_, ?_, ?_, ?_, ?_, ?_, ?_, ?_⟩ <;> first | omega | assumption | trivial | rfl))
              · refine ok_o2 (sp_X9_no c_t_refused ) (fun r78_10 c_t_refused_78_10 h73 => ?_)
                exact ok_s (show FA f_t_forms from by first | omega | assumption | trivial | (refine ⟨?_, ?_⟩ <;> first | omega | assumption | trivial | rfl) | (refine ⟨?_, ?_, ?_⟩ <;> first | omega | assumption | trivial | rfl) | (refine ⟨?_, ?_, ?_, ?_⟩ <;> first | omega | assumption | trivial | rfl) | (refine ⟨?_, ?_, ?_, ?_, ?_⟩ <;> first | omega | assumption | trivial | rfl) | (refine ⟨?_, ?_, ?_, ?_, ?_, ?_⟩ <;> first | omega | assumption | trivial | rfl) | (refine ⟨?_, ?_, ?_, ?_, ?_, ?_, ?_⟩ <;> first | omega | assumption | trivial | rfl) | (refine ⟨?_, ?_, ?_, ?_, ?_, ?_, ?_, ?_⟩ <;> first | omega | assumption | trivial | rfl))
          · exact ok_s (show FA f_t_forms from by first | omega | assumption | trivial | (refine ⟨?_, ?_⟩ <;> first | omega | assumption | trivial | rfl) | (refine ⟨?_, ?_, ?_⟩ <;> first | omega | assumption | trivial | rfl) | (refine ⟨?_, ?_, ?_, ?_⟩ <;> first | omega | assumption | trivial | rfl) | (refine ⟨?_, ?_, ?_, ?_, ?_⟩ <;> first | omega | assumption | trivial | rfl) | (refine ⟨?_, ?_, ?_, ?_, ?_, ?_⟩ <;> first | omega | assumption | trivial | rfl) | (refine ⟨?_, ?_, ?_, ?_, ?_, ?_, ?_⟩ <;> first | omega | assumption | trivial | rfl) | (refine ⟨?_, ?_, ?_, ?_, ?_, ?_, ?_, ?_⟩ <;> first | omega | assumption | trivial | rfl))
        · first | unfold J_X9_power_39 | skip
          first | unfold J_X9_power_44 | skip
          refine ok_o2 (sp_X9_isThrown (1 : Int32) (1 : Int32) ) (fun r44_6 c_t_thrown_44_6 h74 => ?_)
          have h74 : (r44_6.toInt = 0 ∧ c_t_thrown_44_6.toInt = 0 ∧ (1 : Int32).toInt = 0 ∧ (1 : Int32).toInt = 0) ∨ (r44_6.toInt = 1 ∧ c_t_thrown_44_6.toInt = 1 ∧ (1 : Int32).toInt ≠ 0) ∨ (r44_6.toInt = 1 ∧ c_t_thrown_44_6.toInt = 2 ∧ (1 : Int32).toInt = 0 ∧ (1 : Int32).toInt ≠ 0) := h74
          refine ok_eq (fun c75 => ?_) (fun c75 => ?_)
          · refine ok_c (ixo (by omega) (by omega)) ?_
            try have a77 := FA_at (f := f_t_forms) (by assumption) p2.toNatClampNeg
            have z_c76 := DG_z (f_t_forms p2.toNatClampNeg)
            refine ok_eqL (fun c76 => ?_) (fun c76 => ?_)
            · refine ok_o2 (sp_X9_no c_t_refused ) (fun r78_11 c_t_refused_78_11 h78 => ?_)
              exact ok_s (show FA f_t_forms from by first | omega | assumption | trivial | (refine ⟨?_, ?_⟩ <;> first | omega | assumption | trivial | rfl) | (refine ⟨?_, ?_, ?_⟩ <;> first | omega | assumption | trivial | rfl) | (refine ⟨?_, ?_, ?_, ?_⟩ <;> first | omega | assumption | trivial | rfl) | (refine ⟨?_, ?_, ?_, ?_, ?_⟩ <;> first | omega | assumption | trivial | rfl) | (refine ⟨?_, ?_, ?_, ?_, ?_, ?_⟩ <;> first | omega | assumption | trivial | rfl) | (refine ⟨?_, ?_, ?_, ?_, ?_, ?_, ?_⟩ <;> first | omega | assumption | trivial | rfl) | (refine ⟨?_, ?_, ?_, ?_, ?_, ?_, ?_, ?_⟩ <;> first | omega | assumption | trivial | rfl))
            · refine ok_c (ixo (by omega) (by omega)) ?_
              try have a79 := FA_at (f := f_t_forms) (by assumption) p2.toNatClampNeg
              refine ok_o (sp_X9_degreeOf (f_t_forms p2.toNatClampNeg) ) (fun r69_6 h80 => ?_)
              have h80 : r69_6.toInt = DG (f_t_forms p2.toNatClampNeg) ∧ -1 ≤ r69_6.toInt ∧ r69_6.toInt ≤ 63 := h80
              refine ok_le (fun c81 => ?_) (fun c81 => ?_)
              · refine ok_c (ixo (by omega) (by omega)) ?_
                refine ok_c (ixo (by omega) (by omega)) ?_
                try have a82 := FA_at (f := f_t_forms) (by assumption) p0.toNatClampNeg
                try have a83 := FA_at (f := f_t_forms) (by assumption) p2.toNatClampNeg
                refine ok_o (sp_X9_powerOf (f_t_forms p0.toNatClampNeg) p1 (f_t_forms p2.toNatClampNeg) (by first | omega | assumption | trivial | exact wt_of (by assumption) (by omega)) (by first | omega | assumption | trivial | exact wt_of (by assumption) (by omega)) (by first | omega | assumption | trivial | exact wt_of (by assumption) (by omega)) (by first | omega | assumption | trivial | exact wt_of (by assumption) (by omega)) (by first | omega | assumption | trivial | exact wt_of (by assumption) (by omega))) (fun r100_6 h84 => ?_)
                have h84 : DG r100_6 ≤ 39 := h84
                refine ok_o3 (sp_X9_give c_t_acts f_t_forms p3 r100_6 (by first | omega | assumption | trivial | exact wt_of (by assumption) (by omega)) (by first | omega | assumption | trivial | exact wt_of (by assumption) (by omega)) (by first | omega | assumption | trivial | exact wt_of (by assumption) (by omega)) (by first | omega | assumption | trivial | exact wt_of (by assumption) (by omega))) (fun r103_6 c_t_acts_103_6 f_t_forms_103_6 h85 => ?_)
                have h85 : FA f_t_forms_103_6 := h85
                exact ok_s (show FA f_t_forms_103_6 from by first | omega | assumption | trivial | (refine ⟨?_, ?_⟩ <;> first | omega | assumption | trivial | rfl) | (refine ⟨?_, ?_, ?_⟩ <;> first | omega | assumption | trivial | rfl) | (refine ⟨?_, ?_, ?_, ?_⟩ <;> first | omega | assumption | trivial | rfl) | (refine ⟨?_, ?_, ?_, ?_, ?_⟩ <;> first | omega | assumption | trivial | rfl) | (refine ⟨?_, ?_, ?_, ?_, ?_, ?_⟩ <;> first | omega | assumption | trivial | rfl) | (refine ⟨?_, ?_, ?_, ?_, ?_, ?_, ?_⟩ <;> first | omega | assumption | trivial | rfl) | (refine ⟨?_, ?_, ?_, ?_, ?_, ?_, ?_, ?_⟩ <;> first | omega | assumption | trivial | rfl))
              · refine ok_o2 (sp_X9_no c_t_refused ) (fun r78_12 c_t_refused_78_12 h86 => ?_)
                exact ok_s (show FA f_t_forms from by first | omega | assumption | trivial | (refine ⟨?_, ?_⟩ <;> first | omega | assumption | trivial | rfl) | (refine ⟨?_, ?_, ?_⟩ <;> first | omega | assumption | trivial | rfl) | (refine ⟨?_, ?_, ?_, ?_⟩ <;> first | omega | assumption | trivial | rfl) | (refine ⟨?_, ?_, ?_, ?_, ?_⟩ <;> first | omega | assumption | trivial | rfl) | (refine ⟨?_, ?_, ?_, ?_, ?_, ?_⟩ <;> first | omega | assumption | trivial | rfl) | (refine ⟨?_, ?_, ?_, ?_, ?_, ?_, ?_⟩ <;> first | omega | assumption | trivial | rfl) | (refine ⟨?_, ?_, ?_, ?_, ?_, ?_, ?_, ?_⟩ <;> first | omega | assumption | trivial | rfl))
          · exact ok_s (show FA f_t_forms from by first | omega | assumption | trivial | (refine ⟨?_, ?_⟩ <;> first | omega | assumption | trivial | rfl) | (refine ⟨?_, ?_, ?_⟩ <;> first | omega | assumption | trivial | rfl) | (refine ⟨?_, ?_, ?_, ?_⟩ <;> first | omega | assumption | trivial | rfl) | (refine ⟨?_, ?_, ?_, ?_, ?_⟩ <;> first | omega | assumption | trivial | rfl) | (refine ⟨?_, ?_, ?_, ?_, ?_, ?_⟩ <;> first | omega | assumption | trivial | rfl) | (refine ⟨?_, ?_, ?_, ?_, ?_, ?_, ?_⟩ <;> first | omega | assumption | trivial | rfl) | (refine ⟨?_, ?_, ?_, ?_, ?_, ?_, ?_, ?_⟩ <;> first | omega | assumption | trivial | rfl))
    · refine ok_o (sp_X9_isForm p3 ) (fun r17 h87 => ?_)
      have h87 : (r17.toInt = 1 ∧ 0 ≤ p3.toInt ∧ p3.toInt ≤ 5) ∨ (r17.toInt = 0 ∧ (p3.toInt < 0 ∨ 6 ≤ p3.toInt)) := h87
      refine ok_eq (fun c88 => ?_) (fun c88 => ?_)
      · first | unfold J_X9_power_23 | skip
        first | unfold J_X9_power_28 | skip
        refine ok_lt (fun c89 => ?_) (fun c89 => ?_)
        · first | unfold J_X9_power_39 | skip
          first | unfold J_X9_power_44 | skip
          refine ok_o2 (sp_X9_isThrown (1 : Int32) (1 : Int32) ) (fun r44_7 c_t_thrown_44_7 h90 => ?_)
          have h90 : (r44_7.toInt = 0 ∧ c_t_thrown_44_7.toInt = 0 ∧ (1 : Int32).toInt = 0 ∧ (1 : Int32).toInt = 0) ∨ (r44_7.toInt = 1 ∧ c_t_thrown_44_7.toInt = 1 ∧ (1 : Int32).toInt ≠ 0) ∨ (r44_7.toInt = 1 ∧ c_t_thrown_44_7.toInt = 2 ∧ (1 : Int32).toInt = 0 ∧ (1 : Int32).toInt ≠ 0) := h90
          refine ok_eq (fun c91 => ?_) (fun c91 => ?_)
          · refine ok_c (ixo (by omega) (by omega)) ?_
            try have a93 := FA_at (f := f_t_forms) (by assumption) p2.toNatClampNeg
            have z_c92 := DG_z (f_t_forms p2.toNatClampNeg)
            refine ok_eqL (fun c92 => ?_) (fun c92 => ?_)
            · refine ok_o2 (sp_X9_no c_t_refused ) (fun r78_13 c_t_refused_78_13 h94 => ?_)
              exact ok_s (show FA f_t_forms from by first | omega | assumption | trivial | (refine ⟨?_, ?_⟩ <;> first | omega | assumption | trivial | rfl) | (refine ⟨?_, ?_, ?_⟩ <;> first | omega | assumption | trivial | rfl) | (refine ⟨?_, ?_, ?_, ?_⟩ <;> first | omega | assumption | trivial | rfl) | (refine ⟨?_, ?_, ?_, ?_, ?_⟩ <;> first | omega | assumption | trivial | rfl) | (refine ⟨?_, ?_, ?_, ?_, ?_, ?_⟩ <;> first | omega | assumption | trivial | rfl) | (refine ⟨?_, ?_, ?_, ?_, ?_, ?_, ?_⟩ <;> first | omega | assumption | trivial | rfl) | (refine ⟨?_, ?_, ?_, ?_, ?_, ?_, ?_, ?_⟩ <;> first | omega | assumption | trivial | rfl))
            · refine ok_c (ixo (by omega) (by omega)) ?_
              try have a95 := FA_at (f := f_t_forms) (by assumption) p2.toNatClampNeg
              refine ok_o (sp_X9_degreeOf (f_t_forms p2.toNatClampNeg) ) (fun r69_7 h96 => ?_)
              have h96 : r69_7.toInt = DG (f_t_forms p2.toNatClampNeg) ∧ -1 ≤ r69_7.toInt ∧ r69_7.toInt ≤ 63 := h96
              refine ok_le (fun c97 => ?_) (fun c97 => ?_)
              · refine ok_c (ixo (by omega) (by omega)) ?_
                refine ok_c (ixo (by omega) (by omega)) ?_
                try have a98 := FA_at (f := f_t_forms) (by assumption) p0.toNatClampNeg
                try have a99 := FA_at (f := f_t_forms) (by assumption) p2.toNatClampNeg
                refine ok_o (sp_X9_powerOf (f_t_forms p0.toNatClampNeg) p1 (f_t_forms p2.toNatClampNeg) (by first | omega | assumption | trivial | exact wt_of (by assumption) (by omega)) (by first | omega | assumption | trivial | exact wt_of (by assumption) (by omega)) (by first | omega | assumption | trivial | exact wt_of (by assumption) (by omega)) (by first | omega | assumption | trivial | exact wt_of (by assumption) (by omega)) (by first | omega | assumption | trivial | exact wt_of (by assumption) (by omega))) (fun r100_7 h100 => ?_)
                have h100 : DG r100_7 ≤ 39 := h100
                refine ok_o3 (sp_X9_give c_t_acts f_t_forms p3 r100_7 (by first | omega | assumption | trivial | exact wt_of (by assumption) (by omega)) (by first | omega | assumption | trivial | exact wt_of (by assumption) (by omega)) (by first | omega | assumption | trivial | exact wt_of (by assumption) (by omega)) (by first | omega | assumption | trivial | exact wt_of (by assumption) (by omega))) (fun r103_7 c_t_acts_103_7 f_t_forms_103_7 h101 => ?_)
                have h101 : FA f_t_forms_103_7 := h101
                exact ok_s (show FA f_t_forms_103_7 from by first | omega | assumption | trivial | (refine ⟨?_, ?_⟩ <;> first | omega | assumption | trivial | rfl) | (refine ⟨?_, ?_, ?_⟩ <;> first | omega | assumption | trivial | rfl) | (refine ⟨?_, ?_, ?_, ?_⟩ <;> first | omega | assumption | trivial | rfl) | (refine ⟨?_, ?_, ?_, ?_, ?_⟩ <;> first | omega | assumption | trivial | rfl) | (refine ⟨?_, ?_, ?_, ?_, ?_, ?_⟩ <;> first | omega | assumption | trivial | rfl) | (refine ⟨?_, ?_, ?_, ?_, ?_, ?_, ?_⟩ <;> first | omega | assumption | trivial | rfl) | (refine ⟨?_, ?_, ?_, ?_, ?_, ?_, ?_, ?_⟩ <;> first | omega | assumption | trivial | rfl))
              · refine ok_o2 (sp_X9_no c_t_refused ) (fun r78_14 c_t_refused_78_14 h102 => ?_)
                exact ok_s (show FA f_t_forms from by first | omega | assumption | trivial | (refine ⟨?_, ?_⟩ <;> first | omega | assumption | trivial | rfl) | (refine ⟨?_, ?_, ?_⟩ <;> first | omega | assumption | trivial | rfl) | (refine ⟨?_, ?_, ?_, ?_⟩ <;> first | omega | assumption | trivial | rfl) | (refine ⟨?_, ?_, ?_, ?_, ?_⟩ <;> first | omega | assumption | trivial | rfl) | (refine ⟨?_, ?_, ?_, ?_, ?_, ?_⟩ <;> first | omega | assumption | trivial | rfl) | (refine ⟨?_, ?_, ?_, ?_, ?_, ?_, ?_⟩ <;> first | omega | assumption | trivial | rfl) | (refine ⟨?_, ?_, ?_, ?_, ?_, ?_, ?_, ?_⟩ <;> first | omega | assumption | trivial | rfl))
          · exact ok_s (show FA f_t_forms from by first | omega | assumption | trivial | (refine ⟨?_, ?_⟩ <;> first | omega | assumption | trivial | rfl) | (refine ⟨?_, ?_, ?_⟩ <;> first | omega | assumption | trivial | rfl) | (refine ⟨?_, ?_, ?_, ?_⟩ <;> first | omega | assumption | trivial | rfl) | (refine ⟨?_, ?_, ?_, ?_, ?_⟩ <;> first | omega | assumption | trivial | rfl) | (refine ⟨?_, ?_, ?_, ?_, ?_, ?_⟩ <;> first | omega | assumption | trivial | rfl) | (refine ⟨?_, ?_, ?_, ?_, ?_, ?_, ?_⟩ <;> first | omega | assumption | trivial | rfl) | (refine ⟨?_, ?_, ?_, ?_, ?_, ?_, ?_, ?_⟩ <;> first | omega | assumption | trivial | rfl))
        · refine ok_le (fun c103 => ?_) (fun c103 => ?_)
          · first | unfold J_X9_power_44 | skip
            refine ok_o2 (sp_X9_isThrown (1 : Int32) (0 : Int32) ) (fun r44_8 c_t_thrown_44_8 h104 => ?_)
            have h104 : (r44_8.toInt = 0 ∧ c_t_thrown_44_8.toInt = 0 ∧ (1 : Int32).toInt = 0 ∧ (0 : Int32).toInt = 0) ∨ (r44_8.toInt = 1 ∧ c_t_thrown_44_8.toInt = 1 ∧ (1 : Int32).toInt ≠ 0) ∨ (r44_8.toInt = 1 ∧ c_t_thrown_44_8.toInt = 2 ∧ (1 : Int32).toInt = 0 ∧ (0 : Int32).toInt ≠ 0) := h104
            refine ok_eq (fun c105 => ?_) (fun c105 => ?_)
            · refine ok_c (ixo (by omega) (by omega)) ?_
              try have a107 := FA_at (f := f_t_forms) (by assumption) p2.toNatClampNeg
              have z_c106 := DG_z (f_t_forms p2.toNatClampNeg)
              refine ok_eqL (fun c106 => ?_) (fun c106 => ?_)
              · refine ok_o2 (sp_X9_no c_t_refused ) (fun r78_15 c_t_refused_78_15 h108 => ?_)
                exact ok_s (show FA f_t_forms from by first | omega | assumption | trivial | (refine ⟨?_, ?_⟩ <;> first | omega | assumption | trivial | rfl) | (refine ⟨?_, ?_, ?_⟩ <;> first | omega | assumption | trivial | rfl) | (refine ⟨?_, ?_, ?_, ?_⟩ <;> first | omega | assumption | trivial | rfl) | (refine ⟨?_, ?_, ?_, ?_, ?_⟩ <;> first | omega | assumption | trivial | rfl) | (refine ⟨?_, ?_, ?_, ?_, ?_, ?_⟩ <;> first | omega | assumption | trivial | rfl) | (refine ⟨?_, ?_, ?_, ?_, ?_, ?_, ?_⟩ <;> first | omega | assumption | trivial | rfl) | (refine ⟨?_, ?_, ?_, ?_, ?_, ?_, ?_, ?_⟩ <;> first | omega | assumption | trivial | rfl))
              · refine ok_c (ixo (by omega) (by omega)) ?_
                try have a109 := FA_at (f := f_t_forms) (by assumption) p2.toNatClampNeg
                refine ok_o (sp_X9_degreeOf (f_t_forms p2.toNatClampNeg) ) (fun r69_8 h110 => ?_)
                have h110 : r69_8.toInt = DG (f_t_forms p2.toNatClampNeg) ∧ -1 ≤ r69_8.toInt ∧ r69_8.toInt ≤ 63 := h110
                refine ok_le (fun c111 => ?_) (fun c111 => ?_)
                · refine ok_c (ixo (by omega) (by omega)) ?_
                  refine ok_c (ixo (by omega) (by omega)) ?_
                  try have a112 := FA_at (f := f_t_forms) (by assumption) p0.toNatClampNeg
                  try have a113 := FA_at (f := f_t_forms) (by assumption) p2.toNatClampNeg
                  refine ok_o (sp_X9_powerOf (f_t_forms p0.toNatClampNeg) p1 (f_t_forms p2.toNatClampNeg) (by first | omega | assumption | trivial | exact wt_of (by assumption) (by omega)) (by first | omega | assumption | trivial | exact wt_of (by assumption) (by omega)) (by first | omega | assumption | trivial | exact wt_of (by assumption) (by omega)) (by first | omega | assumption | trivial | exact wt_of (by assumption) (by omega)) (by first | omega | assumption | trivial | exact wt_of (by assumption) (by omega))) (fun r100_8 h114 => ?_)
                  have h114 : DG r100_8 ≤ 39 := h114
                  refine ok_o3 (sp_X9_give c_t_acts f_t_forms p3 r100_8 (by first | omega | assumption | trivial | exact wt_of (by assumption) (by omega)) (by first | omega | assumption | trivial | exact wt_of (by assumption) (by omega)) (by first | omega | assumption | trivial | exact wt_of (by assumption) (by omega)) (by first | omega | assumption | trivial | exact wt_of (by assumption) (by omega))) (fun r103_8 c_t_acts_103_8 f_t_forms_103_8 h115 => ?_)
                  have h115 : FA f_t_forms_103_8 := h115
                  exact ok_s (show FA f_t_forms_103_8 from by first | omega | assumption | trivial | (refine ⟨?_, ?_⟩ <;> first | omega | assumption | trivial | rfl) | (refine ⟨?_, ?_, ?_⟩ <;> first | omega | assumption | trivial | rfl) | (refine ⟨?_, ?_, ?_, ?_⟩ <;> first | omega | assumption | trivial | rfl) | (refine ⟨?_, ?_, ?_, ?_, ?_⟩ <;> first | omega | assumption | trivial | rfl) | (refine ⟨?_, ?_, ?_, ?_, ?_, ?_⟩ <;> first | omega | assumption | trivial | rfl) | (refine ⟨?_, ?_, ?_, ?_, ?_, ?_, ?_⟩ <;> first | omega | assumption | trivial | rfl) | (refine ⟨?_, ?_, ?_, ?_, ?_, ?_, ?_, ?_⟩ <;> first | omega | assumption | trivial | rfl))
                · refine ok_o2 (sp_X9_no c_t_refused ) (fun r78_16 c_t_refused_78_16 h116 => ?_)
                  exact ok_s (show FA f_t_forms from by first | omega | assumption | trivial | (refine ⟨?_, ?_⟩ <;> first | omega | assumption | trivial | rfl) | (refine ⟨?_, ?_, ?_⟩ <;> first | omega | assumption | trivial | rfl) | (refine ⟨?_, ?_, ?_, ?_⟩ <;> first | omega | assumption | trivial | rfl) | (refine ⟨?_, ?_, ?_, ?_, ?_⟩ <;> first | omega | assumption | trivial | rfl) | (refine ⟨?_, ?_, ?_, ?_, ?_, ?_⟩ <;> first | omega | assumption | trivial | rfl) | (refine ⟨?_, ?_, ?_, ?_, ?_, ?_, ?_⟩ <;> first | omega | assumption | trivial | rfl) | (refine ⟨?_, ?_, ?_, ?_, ?_, ?_, ?_, ?_⟩ <;> first | omega | assumption | trivial | rfl))
            · exact ok_s (show FA f_t_forms from by first | omega | assumption | trivial | (refine ⟨?_, ?_⟩ <;> first | omega | assumption | trivial | rfl) | (refine ⟨?_, ?_, ?_⟩ <;> first | omega | assumption | trivial | rfl) | (refine ⟨?_, ?_, ?_, ?_⟩ <;> first | omega | assumption | trivial | rfl) | (refine ⟨?_, ?_, ?_, ?_, ?_⟩ <;> first | omega | assumption | trivial | rfl) | (refine ⟨?_, ?_, ?_, ?_, ?_, ?_⟩ <;> first | omega | assumption | trivial | rfl) | (refine ⟨?_, ?_, ?_, ?_, ?_, ?_, ?_⟩ <;> first | omega | assumption | trivial | rfl) | (refine ⟨?_, ?_, ?_, ?_, ?_, ?_, ?_, ?_⟩ <;> first | omega | assumption | trivial | rfl))
          · first | unfold J_X9_power_39 | skip
            first | unfold J_X9_power_44 | skip
            refine ok_o2 (sp_X9_isThrown (1 : Int32) (1 : Int32) ) (fun r44_9 c_t_thrown_44_9 h117 => ?_)
            have h117 : (r44_9.toInt = 0 ∧ c_t_thrown_44_9.toInt = 0 ∧ (1 : Int32).toInt = 0 ∧ (1 : Int32).toInt = 0) ∨ (r44_9.toInt = 1 ∧ c_t_thrown_44_9.toInt = 1 ∧ (1 : Int32).toInt ≠ 0) ∨ (r44_9.toInt = 1 ∧ c_t_thrown_44_9.toInt = 2 ∧ (1 : Int32).toInt = 0 ∧ (1 : Int32).toInt ≠ 0) := h117
            refine ok_eq (fun c118 => ?_) (fun c118 => ?_)
            · refine ok_c (ixo (by omega) (by omega)) ?_
              try have a120 := FA_at (f := f_t_forms) (by assumption) p2.toNatClampNeg
              have z_c119 := DG_z (f_t_forms p2.toNatClampNeg)
              refine ok_eqL (fun c119 => ?_) (fun c119 => ?_)
              · refine ok_o2 (sp_X9_no c_t_refused ) (fun r78_17 c_t_refused_78_17 h121 => ?_)
                exact ok_s (show FA f_t_forms from by first | omega | assumption | trivial | (refine ⟨?_, ?_⟩ <;> first | omega | assumption | trivial | rfl) | (refine ⟨?_, ?_, ?_⟩ <;> first | omega | assumption | trivial | rfl) | (refine ⟨?_, ?_, ?_, ?_⟩ <;> first | omega | assumption | trivial | rfl) | (refine ⟨?_, ?_, ?_, ?_, ?_⟩ <;> first | omega | assumption | trivial | rfl) | (refine ⟨?_, ?_, ?_, ?_, ?_, ?_⟩ <;> first | omega | assumption | trivial | rfl) | (refine ⟨?_, ?_, ?_, ?_, ?_, ?_, ?_⟩ <;> first | omega | assumption | trivial | rfl) | (refine ⟨?_, ?_, ?_, ?_, ?_, ?_, ?_, ?_⟩ <;> first | omega | assumption | trivial | rfl))
              · refine ok_c (ixo (by omega) (by omega)) ?_
                try have a122 := FA_at (f := f_t_forms) (by assumption) p2.toNatClampNeg
                refine ok_o (sp_X9_degreeOf (f_t_forms p2.toNatClampNeg) ) (fun r69_9 h123 => ?_)
                have h123 : r69_9.toInt = DG (f_t_forms p2.toNatClampNeg) ∧ -1 ≤ r69_9.toInt ∧ r69_9.toInt ≤ 63 := h123
                refine ok_le (fun c124 => ?_) (fun c124 => ?_)
                · refine ok_c (ixo (by omega) (by omega)) ?_
                  refine ok_c (ixo (by omega) (by omega)) ?_
                  try have a125 := FA_at (f := f_t_forms) (by assumption) p0.toNatClampNeg
                  try have a126 := FA_at (f := f_t_forms) (by assumption) p2.toNatClampNeg
                  refine ok_o (sp_X9_powerOf (f_t_forms p0.toNatClampNeg) p1 (f_t_forms p2.toNatClampNeg) (by first | omega | assumption | trivial | exact wt_of (by assumption) (by omega)) (by first | omega | assumption | trivial | exact wt_of (by assumption) (by omega)) (by first | omega | assumption | trivial | exact wt_of (by assumption) (by omega)) (by first | omega | assumption | trivial | exact wt_of (by assumption) (by omega)) (by first | omega | assumption | trivial | exact wt_of (by assumption) (by omega))) (fun r100_9 h127 => ?_)
                  have h127 : DG r100_9 ≤ 39 := h127
                  refine ok_o3 (sp_X9_give c_t_acts f_t_forms p3 r100_9 (by first | omega | assumption | trivial | exact wt_of (by assumption) (by omega)) (by first | omega | assumption | trivial | exact wt_of (by assumption) (by omega)) (by first | omega | assumption | trivial | exact wt_of (by assumption) (by omega)) (by first | omega | assumption | trivial | exact wt_of (by assumption) (by omega))) (fun r103_9 c_t_acts_103_9 f_t_forms_103_9 h128 => ?_)
                  have h128 : FA f_t_forms_103_9 := h128
                  exact ok_s (show FA f_t_forms_103_9 from by first | omega | assumption | trivial | (refine ⟨?_, ?_⟩ <;> first | omega | assumption | trivial | rfl) | (refine ⟨?_, ?_, ?_⟩ <;> first | omega | assumption | trivial | rfl) | (refine ⟨?_, ?_, ?_, ?_⟩ <;> first | omega | assumption | trivial | rfl) | (refine ⟨?_, ?_, ?_, ?_, ?_⟩ <;> first | omega | assumption | trivial | rfl) | (refine ⟨?_, ?_, ?_, ?_, ?_, ?_⟩ <;> first | omega | assumption | trivial | rfl) | (refine ⟨?_, ?_, ?_, ?_, ?_, ?_, ?_⟩ <;> first | omega | assumption | trivial | rfl) | (refine ⟨?_, ?_, ?_, ?_, ?_, ?_, ?_, ?_⟩ <;> first | omega | assumption | trivial | rfl))
                · refine ok_o2 (sp_X9_no c_t_refused ) (fun r78_18 c_t_refused_78_18 h129 => ?_)
                  exact ok_s (show FA f_t_forms from by first | omega | assumption | trivial | (refine ⟨?_, ?_⟩ <;> first | omega | assumption | trivial | rfl) | (refine ⟨?_, ?_, ?_⟩ <;> first | omega | assumption | trivial | rfl) | (refine ⟨?_, ?_, ?_, ?_⟩ <;> first | omega | assumption | trivial | rfl) | (refine ⟨?_, ?_, ?_, ?_, ?_⟩ <;> first | omega | assumption | trivial | rfl) | (refine ⟨?_, ?_, ?_, ?_, ?_, ?_⟩ <;> first | omega | assumption | trivial | rfl) | (refine ⟨?_, ?_, ?_, ?_, ?_, ?_, ?_⟩ <;> first | omega | assumption | trivial | rfl) | (refine ⟨?_, ?_, ?_, ?_, ?_, ?_, ?_, ?_⟩ <;> first | omega | assumption | trivial | rfl))
            · exact ok_s (show FA f_t_forms from by first | omega | assumption | trivial | (refine ⟨?_, ?_⟩ <;> first | omega | assumption | trivial | rfl) | (refine ⟨?_, ?_, ?_⟩ <;> first | omega | assumption | trivial | rfl) | (refine ⟨?_, ?_, ?_, ?_⟩ <;> first | omega | assumption | trivial | rfl) | (refine ⟨?_, ?_, ?_, ?_, ?_⟩ <;> first | omega | assumption | trivial | rfl) | (refine ⟨?_, ?_, ?_, ?_, ?_, ?_⟩ <;> first | omega | assumption | trivial | rfl) | (refine ⟨?_, ?_, ?_, ?_, ?_, ?_, ?_⟩ <;> first | omega | assumption | trivial | rfl) | (refine ⟨?_, ?_, ?_, ?_, ?_, ?_, ?_, ?_⟩ <;> first | omega | assumption | trivial | rfl))
      · first | unfold J_X9_power_28 | skip
        refine ok_lt (fun c130 => ?_) (fun c130 => ?_)
        · first | unfold J_X9_power_39 | skip
          first | unfold J_X9_power_44 | skip
          refine ok_o2 (sp_X9_isThrown (0 : Int32) (1 : Int32) ) (fun r44_10 c_t_thrown_44_10 h131 => ?_)
          have h131 : (r44_10.toInt = 0 ∧ c_t_thrown_44_10.toInt = 0 ∧ (0 : Int32).toInt = 0 ∧ (1 : Int32).toInt = 0) ∨ (r44_10.toInt = 1 ∧ c_t_thrown_44_10.toInt = 1 ∧ (0 : Int32).toInt ≠ 0) ∨ (r44_10.toInt = 1 ∧ c_t_thrown_44_10.toInt = 2 ∧ (0 : Int32).toInt = 0 ∧ (1 : Int32).toInt ≠ 0) := h131
          refine ok_eq (fun c132 => ?_) (fun c132 => ?_)
          · refine ok_c (ixo (by omega) (by omega)) ?_
            try have a134 := FA_at (f := f_t_forms) (by assumption) p2.toNatClampNeg
            have z_c133 := DG_z (f_t_forms p2.toNatClampNeg)
            refine ok_eqL (fun c133 => ?_) (fun c133 => ?_)
            · refine ok_o2 (sp_X9_no c_t_refused ) (fun r78_19 c_t_refused_78_19 h135 => ?_)
              exact ok_s (show FA f_t_forms from by first | omega | assumption | trivial | (refine ⟨?_, ?_⟩ <;> first | omega | assumption | trivial | rfl) | (refine ⟨?_, ?_, ?_⟩ <;> first | omega | assumption | trivial | rfl) | (refine ⟨?_, ?_, ?_, ?_⟩ <;> first | omega | assumption | trivial | rfl) | (refine ⟨?_, ?_, ?_, ?_, ?_⟩ <;> first | omega | assumption | trivial | rfl) | (refine ⟨?_, ?_, ?_, ?_, ?_, ?_⟩ <;> first | omega | assumption | trivial | rfl) | (refine ⟨?_, ?_, ?_, ?_, ?_, ?_, ?_⟩ <;> first | omega | assumption | trivial | rfl) | (refine ⟨?_, ?_, ?_, ?_, ?_, ?_, ?_, ?_⟩ <;> first | omega | assumption | trivial | rfl))
            · refine ok_c (ixo (by omega) (by omega)) ?_
              try have a136 := FA_at (f := f_t_forms) (by assumption) p2.toNatClampNeg
              refine ok_o (sp_X9_degreeOf (f_t_forms p2.toNatClampNeg) ) (fun r69_10 h137 => ?_)
              have h137 : r69_10.toInt = DG (f_t_forms p2.toNatClampNeg) ∧ -1 ≤ r69_10.toInt ∧ r69_10.toInt ≤ 63 := h137
              refine ok_le (fun c138 => ?_) (fun c138 => ?_)
              · refine ok_c (ixo (by omega) (by omega)) ?_
                refine ok_c (ixo (by omega) (by omega)) ?_
                try have a139 := FA_at (f := f_t_forms) (by assumption) p0.toNatClampNeg
                try have a140 := FA_at (f := f_t_forms) (by assumption) p2.toNatClampNeg
                refine ok_o (sp_X9_powerOf (f_t_forms p0.toNatClampNeg) p1 (f_t_forms p2.toNatClampNeg) (by first | omega | assumption | trivial | exact wt_of (by assumption) (by omega)) (by first | omega | assumption | trivial | exact wt_of (by assumption) (by omega)) (by first | omega | assumption | trivial | exact wt_of (by assumption) (by omega)) (by first | omega | assumption | trivial | exact wt_of (by assumption) (by omega)) (by first | omega | assumption | trivial | exact wt_of (by assumption) (by omega))) (fun r100_10 h141 => ?_)
                have h141 : DG r100_10 ≤ 39 := h141
                refine ok_o3 (sp_X9_give c_t_acts f_t_forms p3 r100_10 (by first | omega | assumption | trivial | exact wt_of (by assumption) (by omega)) (by first | omega | assumption | trivial | exact wt_of (by assumption) (by omega)) (by first | omega | assumption | trivial | exact wt_of (by assumption) (by omega)) (by first | omega | assumption | trivial | exact wt_of (by assumption) (by omega))) (fun r103_10 c_t_acts_103_10 f_t_forms_103_10 h142 => ?_)
                have h142 : FA f_t_forms_103_10 := h142
                exact ok_s (show FA f_t_forms_103_10 from by first | omega | assumption | trivial | (refine ⟨?_, ?_⟩ <;> first | omega | assumption | trivial | rfl) | (refine ⟨?_, ?_, ?_⟩ <;> first | omega | assumption | trivial | rfl) | (refine ⟨?_, ?_, ?_, ?_⟩ <;> first | omega | assumption | trivial | rfl) | (refine ⟨?_, ?_, ?_, ?_, ?_⟩ <;> first | omega | assumption | trivial | rfl) | (refine ⟨?_, ?_, ?_, ?_, ?_, ?_⟩ <;> first | omega | assumption | trivial | rfl) | (refine ⟨?_, ?_, ?_, ?_, ?_, ?_, ?_⟩ <;> first | omega | assumption | trivial | rfl) | (refine ⟨?_, ?_, ?_, ?_, ?_, ?_, ?_, ?_⟩ <;> first | omega | assumption | trivial | rfl))
              · refine ok_o2 (sp_X9_no c_t_refused ) (fun r78_20 c_t_refused_78_20 h143 => ?_)
                exact ok_s (show FA f_t_forms from by first | omega | assumption | trivial | (refine ⟨?_, ?_⟩ <;> first | omega | assumption | trivial | rfl) | (refine ⟨?_, ?_, ?_⟩ <;> first | omega | assumption | trivial | rfl) | (refine ⟨?_, ?_, ?_, ?_⟩ <;> first | omega | assumption | trivial | rfl) | (refine ⟨?_, ?_, ?_, ?_, ?_⟩ <;> first | omega | assumption | trivial | rfl) | (refine ⟨?_, ?_, ?_, ?_, ?_, ?_⟩ <;> first | omega | assumption | trivial | rfl) | (refine ⟨?_, ?_, ?_, ?_, ?_, ?_, ?_⟩ <;> first | omega | assumption | trivial | rfl) | (refine ⟨?_, ?_, ?_, ?_, ?_, ?_, ?_, ?_⟩ <;> first | omega | assumption | trivial | rfl))
          · exact ok_s (show FA f_t_forms from by first | omega | assumption | trivial | (refine ⟨?_, ?_⟩ <;> first | omega | assumption | trivial | rfl) | (refine ⟨?_, ?_, ?_⟩ <;> first | omega | assumption | trivial | rfl) | (refine ⟨?_, ?_, ?_, ?_⟩ <;> first | omega | assumption | trivial | rfl) | (refine ⟨?_, ?_, ?_, ?_, ?_⟩ <;> first | omega | assumption | trivial | rfl) | (refine ⟨?_, ?_, ?_, ?_, ?_, ?_⟩ <;> first | omega | assumption | trivial | rfl) | (refine ⟨?_, ?_, ?_, ?_, ?_, ?_, ?_⟩ <;> first | omega | assumption | trivial | rfl) | (refine ⟨?_, ?_, ?_, ?_, ?_, ?_, ?_, ?_⟩ <;> first | omega | assumption | trivial | rfl))
        · refine ok_le (fun c144 => ?_) (fun c144 => ?_)
          · first | unfold J_X9_power_44 | skip
            refine ok_o2 (sp_X9_isThrown (0 : Int32) (0 : Int32) ) (fun r44_11 c_t_thrown_44_11 h145 => ?_)
            have h145 : (r44_11.toInt = 0 ∧ c_t_thrown_44_11.toInt = 0 ∧ (0 : Int32).toInt = 0 ∧ (0 : Int32).toInt = 0) ∨ (r44_11.toInt = 1 ∧ c_t_thrown_44_11.toInt = 1 ∧ (0 : Int32).toInt ≠ 0) ∨ (r44_11.toInt = 1 ∧ c_t_thrown_44_11.toInt = 2 ∧ (0 : Int32).toInt = 0 ∧ (0 : Int32).toInt ≠ 0) := h145
            refine ok_eq (fun c146 => ?_) (fun c146 => ?_)
            · refine ok_c (ixo (by omega) (by omega)) ?_
              try have a148 := FA_at (f := f_t_forms) (by assumption) p2.toNatClampNeg
              have z_c147 := DG_z (f_t_forms p2.toNatClampNeg)
              refine ok_eqL (fun c147 => ?_) (fun c147 => ?_)
              · refine ok_o2 (sp_X9_no c_t_refused ) (fun r78_21 c_t_refused_78_21 h149 => ?_)
                exact ok_s (show FA f_t_forms from by first | omega | assumption | trivial | (refine ⟨?_, ?_⟩ <;> first | omega | assumption | trivial | rfl) | (refine ⟨?_, ?_, ?_⟩ <;> first | omega | assumption | trivial | rfl) | (refine ⟨?_, ?_, ?_, ?_⟩ <;> first | omega | assumption | trivial | rfl) | (refine ⟨?_, ?_, ?_, ?_, ?_⟩ <;> first | omega | assumption | trivial | rfl) | (refine ⟨?_, ?_, ?_, ?_, ?_, ?_⟩ <;> first | omega | assumption | trivial | rfl) | (refine ⟨?_, ?_, ?_, ?_, ?_, ?_, ?_⟩ <;> first | omega | assumption | trivial | rfl) | (refine ⟨?_, ?_, ?_, ?_, ?_, ?_, ?_, ?_⟩ <;> first | omega | assumption | trivial | rfl))
              · refine ok_c (ixo (by omega) (by omega)) ?_
                try have a150 := FA_at (f := f_t_forms) (by assumption) p2.toNatClampNeg
                refine ok_o (sp_X9_degreeOf (f_t_forms p2.toNatClampNeg) ) (fun r69_11 h151 => ?_)
                have h151 : r69_11.toInt = DG (f_t_forms p2.toNatClampNeg) ∧ -1 ≤ r69_11.toInt ∧ r69_11.toInt ≤ 63 := h151
                refine ok_le (fun c152 => ?_) (fun c152 => ?_)
                · refine ok_c (ixo (by omega) (by omega)) ?_
                  refine ok_c (ixo (by omega) (by omega)) ?_
                  try have a153 := FA_at (f := f_t_forms) (by assumption) p0.toNatClampNeg
                  try have a154 := FA_at (f := f_t_forms) (by assumption) p2.toNatClampNeg
                  refine ok_o (sp_X9_powerOf (f_t_forms p0.toNatClampNeg) p1 (f_t_forms p2.toNatClampNeg) (by first | omega | assumption | trivial | exact wt_of (by assumption) (by omega)) (by first | omega | assumption | trivial | exact wt_of (by assumption) (by omega)) (by first | omega | assumption | trivial | exact wt_of (by assumption) (by omega)) (by first | omega | assumption | trivial | exact wt_of (by assumption) (by omega)) (by first | omega | assumption | trivial | exact wt_of (by assumption) (by omega))) (fun r100_11 h155 => ?_)
                  have h155 : DG r100_11 ≤ 39 := h155
                  refine ok_o3 (sp_X9_give c_t_acts f_t_forms p3 r100_11 (by first | omega | assumption | trivial | exact wt_of (by assumption) (by omega)) (by first | omega | assumption | trivial | exact wt_of (by assumption) (by omega)) (by first | omega | assumption | trivial | exact wt_of (by assumption) (by omega)) (by first | omega | assumption | trivial | exact wt_of (by assumption) (by omega))) (fun r103_11 c_t_acts_103_11 f_t_forms_103_11 h156 => ?_)
                  have h156 : FA f_t_forms_103_11 := h156
                  exact ok_s (show FA f_t_forms_103_11 from by first | omega | assumption | trivial | (refine ⟨?_, ?_⟩ <;> first | omega | assumption | trivial | rfl) | (refine ⟨?_, ?_, ?_⟩ <;> first | omega | assumption | trivial | rfl) | (refine ⟨?_, ?_, ?_, ?_⟩ <;> first | omega | assumption | trivial | rfl) | (refine ⟨?_, ?_, ?_, ?_, ?_⟩ <;> first | omega | assumption | trivial | rfl) | (refine ⟨?_, ?_, ?_, ?_, ?_, ?_⟩ <;> first | omega | assumption | trivial | rfl) | (refine ⟨?_, ?_, ?_, ?_, ?_, ?_, ?_⟩ <;> first | omega | assumption | trivial | rfl) | (refine ⟨?_, ?_, ?_, ?_, ?_, ?_, ?_, ?_⟩ <;> first | omega | assumption | trivial | rfl))
                · refine ok_o2 (sp_X9_no c_t_refused ) (fun r78_22 c_t_refused_78_22 h157 => ?_)
                  exact ok_s (show FA f_t_forms from by first | omega | assumption | trivial | (refine ⟨?_, ?_⟩ <;> first | omega | assumption | trivial | rfl) | (refine ⟨?_, ?_, ?_⟩ <;> first | omega | assumption | trivial | rfl) | (refine ⟨?_, ?_, ?_, ?_⟩ <;> first | omega | assumption | trivial | rfl) | (refine ⟨?_, ?_, ?_, ?_, ?_⟩ <;> first | omega | assumption | trivial | rfl) | (refine ⟨?_, ?_, ?_, ?_, ?_, ?_⟩ <;> first | omega | assumption | trivial | rfl) | (refine ⟨?_, ?_, ?_, ?_, ?_, ?_, ?_⟩ <;> first | omega | assumption | trivial | rfl) | (refine ⟨?_, ?_, ?_, ?_, ?_, ?_, ?_, ?_⟩ <;> first | omega | assumption | trivial | rfl))
            · exact ok_s (show FA f_t_forms from by first | omega | assumption | trivial | (refine ⟨?_, ?_⟩ <;> first | omega | assumption | trivial | rfl) | (refine ⟨?_, ?_, ?_⟩ <;> first | omega | assumption | trivial | rfl) | (refine ⟨?_, ?_, ?_, ?_⟩ <;> first | omega | assumption | trivial | rfl) | (refine ⟨?_, ?_, ?_, ?_, ?_⟩ <;> first | omega | assumption | trivial | rfl) | (refine ⟨?_, ?_, ?_, ?_, ?_, ?_⟩ <;> first | omega | assumption | trivial | rfl) | (refine ⟨?_, ?_, ?_, ?_, ?_, ?_, ?_⟩ <;> first | omega | assumption | trivial | rfl) | (refine ⟨?_, ?_, ?_, ?_, ?_, ?_, ?_, ?_⟩ <;> first | omega | assumption | trivial | rfl))
          · first | unfold J_X9_power_39 | skip
            first | unfold J_X9_power_44 | skip
            refine ok_o2 (sp_X9_isThrown (0 : Int32) (1 : Int32) ) (fun r44_12 c_t_thrown_44_12 h158 => ?_)
            have h158 : (r44_12.toInt = 0 ∧ c_t_thrown_44_12.toInt = 0 ∧ (0 : Int32).toInt = 0 ∧ (1 : Int32).toInt = 0) ∨ (r44_12.toInt = 1 ∧ c_t_thrown_44_12.toInt = 1 ∧ (0 : Int32).toInt ≠ 0) ∨ (r44_12.toInt = 1 ∧ c_t_thrown_44_12.toInt = 2 ∧ (0 : Int32).toInt = 0 ∧ (1 : Int32).toInt ≠ 0) := h158
            refine ok_eq (fun c159 => ?_) (fun c159 => ?_)
            · refine ok_c (ixo (by omega) (by omega)) ?_
              try have a161 := FA_at (f := f_t_forms) (by assumption) p2.toNatClampNeg
              have z_c160 := DG_z (f_t_forms p2.toNatClampNeg)
              refine ok_eqL (fun c160 => ?_) (fun c160 => ?_)
              · refine ok_o2 (sp_X9_no c_t_refused ) (fun r78_23 c_t_refused_78_23 h162 => ?_)
                exact ok_s (show FA f_t_forms from by first | omega | assumption | trivial | (refine ⟨?_, ?_⟩ <;> first | omega | assumption | trivial | rfl) | (refine ⟨?_, ?_, ?_⟩ <;> first | omega | assumption | trivial | rfl) | (refine ⟨?_, ?_, ?_, ?_⟩ <;> first | omega | assumption | trivial | rfl) | (refine ⟨?_, ?_, ?_, ?_, ?_⟩ <;> first | omega | assumption | trivial | rfl) | (refine ⟨?_, ?_, ?_, ?_, ?_, ?_⟩ <;> first | omega | assumption | trivial | rfl) | (refine ⟨?_, ?_, ?_, ?_, ?_, ?_, ?_⟩ <;> first | omega | assumption | trivial | rfl) | (refine ⟨?_, ?_, ?_, ?_, ?_, ?_, ?_, ?_⟩ <;> first | omega | assumption | trivial | rfl))
              · refine ok_c (ixo (by omega) (by omega)) ?_
                try have a163 := FA_at (f := f_t_forms) (by assumption) p2.toNatClampNeg
                refine ok_o (sp_X9_degreeOf (f_t_forms p2.toNatClampNeg) ) (fun r69_12 h164 => ?_)
                have h164 : r69_12.toInt = DG (f_t_forms p2.toNatClampNeg) ∧ -1 ≤ r69_12.toInt ∧ r69_12.toInt ≤ 63 := h164
                refine ok_le (fun c165 => ?_) (fun c165 => ?_)
                · refine ok_c (ixo (by omega) (by omega)) ?_
                  refine ok_c (ixo (by omega) (by omega)) ?_
                  try have a166 := FA_at (f := f_t_forms) (by assumption) p0.toNatClampNeg
                  try have a167 := FA_at (f := f_t_forms) (by assumption) p2.toNatClampNeg
                  refine ok_o (sp_X9_powerOf (f_t_forms p0.toNatClampNeg) p1 (f_t_forms p2.toNatClampNeg) (by first | omega | assumption | trivial | exact wt_of (by assumption) (by omega)) (by first | omega | assumption | trivial | exact wt_of (by assumption) (by omega)) (by first | omega | assumption | trivial | exact wt_of (by assumption) (by omega)) (by first | omega | assumption | trivial | exact wt_of (by assumption) (by omega)) (by first | omega | assumption | trivial | exact wt_of (by assumption) (by omega))) (fun r100_12 h168 => ?_)
                  have h168 : DG r100_12 ≤ 39 := h168
                  refine ok_o3 (sp_X9_give c_t_acts f_t_forms p3 r100_12 (by first | omega | assumption | trivial | exact wt_of (by assumption) (by omega)) (by first | omega | assumption | trivial | exact wt_of (by assumption) (by omega)) (by first | omega | assumption | trivial | exact wt_of (by assumption) (by omega)) (by first | omega | assumption | trivial | exact wt_of (by assumption) (by omega))) (fun r103_12 c_t_acts_103_12 f_t_forms_103_12 h169 => ?_)
                  have h169 : FA f_t_forms_103_12 := h169
                  exact ok_s (show FA f_t_forms_103_12 from by first | omega | assumption | trivial | (refine ⟨?_, ?_⟩ <;> first | omega | assumption | trivial | rfl) | (refine ⟨?_, ?_, ?_⟩ <;> first | omega | assumption | trivial | rfl) | (refine ⟨?_, ?_, ?_, ?_⟩ <;> first | omega | assumption | trivial | rfl) | (refine ⟨?_, ?_, ?_, ?_, ?_⟩ <;> first | omega | assumption | trivial | rfl) | (refine ⟨?_, ?_, ?_, ?_, ?_, ?_⟩ <;> first | omega | assumption | trivial | rfl) | (refine ⟨?_, ?_, ?_, ?_, ?_, ?_, ?_⟩ <;> first | omega | assumption | trivial | rfl) | (refine ⟨?_, ?_, ?_, ?_, ?_, ?_, ?_, ?_⟩ <;> first | omega | assumption | trivial | rfl))
                · refine ok_o2 (sp_X9_no c_t_refused ) (fun r78_24 c_t_refused_78_24 h170 => ?_)
                  exact ok_s (show FA f_t_forms from by first | omega | assumption | trivial | (refine ⟨?_, ?_⟩ <;> first | omega | assumption | trivial | rfl) | (refine ⟨?_, ?_, ?_⟩ <;> first | omega | assumption | trivial | rfl) | (refine ⟨?_, ?_, ?_, ?_⟩ <;> first | omega | assumption | trivial | rfl) | (refine ⟨?_, ?_, ?_, ?_, ?_⟩ <;> first | omega | assumption | trivial | rfl) | (refine ⟨?_, ?_, ?_, ?_, ?_, ?_⟩ <;> first | omega | assumption | trivial | rfl) | (refine ⟨?_, ?_, ?_, ?_, ?_, ?_, ?_⟩ <;> first | omega | assumption | trivial | rfl) | (refine ⟨?_, ?_, ?_, ?_, ?_, ?_, ?_, ?_⟩ <;> first | omega | assumption | trivial | rfl))
            · exact ok_s (show FA f_t_forms from by first | omega | assumption | trivial | (refine ⟨?_, ?_⟩ <;> first | omega | assumption | trivial | rfl) | (refine ⟨?_, ?_, ?_⟩ <;> first | omega | assumption | trivial | rfl) | (refine ⟨?_, ?_, ?_, ?_⟩ <;> first | omega | assumption | trivial | rfl) | (refine ⟨?_, ?_, ?_, ?_, ?_⟩ <;> first | omega | assumption | trivial | rfl) | (refine ⟨?_, ?_, ?_, ?_, ?_, ?_⟩ <;> first | omega | assumption | trivial | rfl) | (refine ⟨?_, ?_, ?_, ?_, ?_, ?_, ?_⟩ <;> first | omega | assumption | trivial | rfl) | (refine ⟨?_, ?_, ?_, ?_, ?_, ?_, ?_, ?_⟩ <;> first | omega | assumption | trivial | rfl))
set_option maxHeartbeats 1000000 in
theorem sp_X9_allPrimes (c_t_acts : Int32) (c_t_thrown : Int32) (f_t_forms : Nat → Int64) (p0 : Int32) (p1 : Int32) (hp0 : FA f_t_forms) : ok (F_X9_allPrimes c_t_acts c_t_thrown f_t_forms p0 p1) (fun r => FA r.2.2.2) := by
  have l032 : (0 : Int32).toInt = 0 := by decide
  have l132 : (1 : Int32).toInt = 1 := by decide
  have l164 : (1 : Int64).toInt = 1 := by decide
  have l264 : (2 : Int64).toInt = 2 := by decide
  have l532 : (5 : Int32).toInt = 5 := by decide
  unfold F_X9_allPrimes
  refine ok_o (sp_X9_isForm p1 ) (fun r2 h1 => ?_)
  have h1 : (r2.toInt = 1 ∧ 0 ≤ p1.toInt ∧ p1.toInt ≤ 5) ∨ (r2.toInt = 0 ∧ (p1.toInt < 0 ∨ 6 ≤ p1.toInt)) := h1
  refine ok_eq (fun c2 => ?_) (fun c2 => ?_)
  · first | unfold J_X9_allPrimes_13 | skip
    refine ok_lt (fun c3 => ?_) (fun c3 => ?_)
    · first | unfold J_X9_allPrimes_23 | skip
      first | unfold J_X9_allPrimes_28 | skip
      refine ok_o2 (sp_X9_isThrown (1 : Int32) (1 : Int32) ) (fun r28 c_t_thrown_28 h4 => ?_)
      have h4 : (r28.toInt = 0 ∧ c_t_thrown_28.toInt = 0 ∧ (1 : Int32).toInt = 0 ∧ (1 : Int32).toInt = 0) ∨ (r28.toInt = 1 ∧ c_t_thrown_28.toInt = 1 ∧ (1 : Int32).toInt ≠ 0) ∨ (r28.toInt = 1 ∧ c_t_thrown_28.toInt = 2 ∧ (1 : Int32).toInt = 0 ∧ (1 : Int32).toInt ≠ 0) := h4
      refine ok_eq (fun c5 => ?_) (fun c5 => ?_)
      · refine ap_loop _ (fun y3_41_105 hI6 => ?_) p0 (by omega) (by omega)
        refine ok_o3 (sp_X9_give c_t_acts f_t_forms p1 y3_41_105 (by first | omega | assumption | trivial | exact wt_of (by assumption) (by omega)) (by first | omega | assumption | trivial | exact wt_of (by assumption) (by omega)) (by first | omega | assumption | trivial | exact wt_of (by assumption) (by omega)) (by first | omega | assumption | trivial | exact wt_of (by assumption) (by omega))) (fun r108 c_t_acts_108 f_t_forms_108 h7 => ?_)
        have h7 : FA f_t_forms_108 := h7
        exact ok_s (show FA f_t_forms_108 from by first | omega | assumption | trivial | (refine ⟨?_, ?_⟩ <;> first | omega | assumption | trivial | rfl) | (refine ⟨?_, ?_, ?_⟩ <;> first | omega | assumption | trivial | rfl) | (refine ⟨?_, ?_, ?_, ?_⟩ <;> first | omega | assumption | trivial | rfl) | (refine ⟨?_, ?_, ?_, ?_, ?_⟩ <;> first | omega | assumption | trivial | rfl) | (refine ⟨?_, ?_, ?_, ?_, ?_, ?_⟩ <;> first | omega | assumption | trivial | rfl) | (refine ⟨?_, ?_, ?_, ?_, ?_, ?_, ?_⟩ <;> first | omega | assumption | trivial | rfl) | (refine ⟨?_, ?_, ?_, ?_, ?_, ?_, ?_, ?_⟩ <;> first | omega | assumption | trivial | rfl))
      · exact ok_s (show FA f_t_forms from by first | omega | assumption | trivial | (refine ⟨?_, ?_⟩ <;> first | omega | assumption | trivial | rfl) | (refine ⟨?_, ?_, ?_⟩ <;> first | omega | assumption | trivial | rfl) | (refine ⟨?_, ?_, ?_, ?_⟩ <;> first | omega | assumption | trivial | rfl) | (refine ⟨?_, ?_, ?_, ?_, ?_⟩ <;> first | omega | assumption | trivial | rfl) | (refine ⟨?_, ?_, ?_, ?_, ?_, ?_⟩ <;> first | omega | assumption | trivial | rfl) | (refine ⟨?_, ?_, ?_, ?_, ?_, ?_, ?_⟩ <;> first | omega | assumption | trivial | rfl) | (refine ⟨?_, ?_, ?_, ?_, ?_, ?_, ?_, ?_⟩ <;> first | omega | assumption | trivial | rfl))
    · refine ok_le (fun c8 => ?_) (fun c8 => ?_)
      · first | unfold J_X9_allPrimes_28 | skip
        refine ok_o2 (sp_X9_isThrown (1 : Int32) (0 : Int32) ) (fun r28_2 c_t_thrown_28_2 h9 => ?_)
        have h9 : (r28_2.toInt = 0 ∧ c_t_thrown_28_2.toInt = 0 ∧ (1 : Int32).toInt = 0 ∧ (0 : Int32).toInt = 0) ∨ (r28_2.toInt = 1 ∧ c_t_thrown_28_2.toInt = 1 ∧ (1 : Int32).toInt ≠ 0) ∨ (r28_2.toInt = 1 ∧ c_t_thrown_28_2.toInt = 2 ∧ (1 : Int32).toInt = 0 ∧ (0 : Int32).toInt ≠ 0) := h9
        refine ok_eq (fun c10 => ?_) (fun c10 => ?_)
        · refine ap_loop _ (fun y3_41_105_2 hI11 => ?_) p0 (by omega) (by omega)
          refine ok_o3 (sp_X9_give c_t_acts f_t_forms p1 y3_41_105_2 (by first | omega | assumption | trivial | exact wt_of (by assumption) (by omega)) (by first | omega | assumption | trivial | exact wt_of (by assumption) (by omega)) (by first | omega | assumption | trivial | exact wt_of (by assumption) (by omega)) (by first | omega | assumption | trivial | exact wt_of (by assumption) (by omega))) (fun r108_2 c_t_acts_108_2 f_t_forms_108_2 h12 => ?_)
          have h12 : FA f_t_forms_108_2 := h12
          exact ok_s (show FA f_t_forms_108_2 from by first | omega | assumption | trivial | (refine ⟨?_, ?_⟩ <;> first | omega | assumption | trivial | rfl) | (refine ⟨?_, ?_, ?_⟩ <;> first | omega | assumption | trivial | rfl) | (refine ⟨?_, ?_, ?_, ?_⟩ <;> first | omega | assumption | trivial | rfl) | (refine ⟨?_, ?_, ?_, ?_, ?_⟩ <;> first | omega | assumption | trivial | rfl) | (refine ⟨?_, ?_, ?_, ?_, ?_, ?_⟩ <;> first | omega | assumption | trivial | rfl) | (refine ⟨?_, ?_, ?_, ?_, ?_, ?_, ?_⟩ <;> first | omega | assumption | trivial | rfl) | (refine ⟨?_, ?_, ?_, ?_, ?_, ?_, ?_, ?_⟩ <;> first | omega | assumption | trivial | rfl))
        · exact ok_s (show FA f_t_forms from by first | omega | assumption | trivial | (refine ⟨?_, ?_⟩ <;> first | omega | assumption | trivial | rfl) | (refine ⟨?_, ?_, ?_⟩ <;> first | omega | assumption | trivial | rfl) | (refine ⟨?_, ?_, ?_, ?_⟩ <;> first | omega | assumption | trivial | rfl) | (refine ⟨?_, ?_, ?_, ?_, ?_⟩ <;> first | omega | assumption | trivial | rfl) | (refine ⟨?_, ?_, ?_, ?_, ?_, ?_⟩ <;> first | omega | assumption | trivial | rfl) | (refine ⟨?_, ?_, ?_, ?_, ?_, ?_, ?_⟩ <;> first | omega | assumption | trivial | rfl) | (refine ⟨?_, ?_, ?_, ?_, ?_, ?_, ?_, ?_⟩ <;> first | omega | assumption | trivial | rfl))
      · first | unfold J_X9_allPrimes_23 | skip
        first | unfold J_X9_allPrimes_28 | skip
        refine ok_o2 (sp_X9_isThrown (1 : Int32) (1 : Int32) ) (fun r28_3 c_t_thrown_28_3 h13 => ?_)
        have h13 : (r28_3.toInt = 0 ∧ c_t_thrown_28_3.toInt = 0 ∧ (1 : Int32).toInt = 0 ∧ (1 : Int32).toInt = 0) ∨ (r28_3.toInt = 1 ∧ c_t_thrown_28_3.toInt = 1 ∧ (1 : Int32).toInt ≠ 0) ∨ (r28_3.toInt = 1 ∧ c_t_thrown_28_3.toInt = 2 ∧ (1 : Int32).toInt = 0 ∧ (1 : Int32).toInt ≠ 0) := h13
        refine ok_eq (fun c14 => ?_) (fun c14 => ?_)
        · refine ap_loop _ (fun y3_41_105_3 hI15 => ?_) p0 (by omega) (by omega)
          refine ok_o3 (sp_X9_give c_t_acts f_t_forms p1 y3_41_105_3 (by first | omega | assumption | trivial | exact wt_of (by assumption) (by omega)) (by first | omega | assumption | trivial | exact wt_of (by assumption) (by omega)) (by first | omega | assumption | trivial | exact wt_of (by assumption) (by omega)) (by first | omega | assumption | trivial | exact wt_of (by assumption) (by omega))) (fun r108_3 c_t_acts_108_3 f_t_forms_108_3 h16 => ?_)
          have h16 : FA f_t_forms_108_3 := h16
          exact ok_s (show FA f_t_forms_108_3 from by first | omega | assumption | trivial | (refine ⟨?_, ?_⟩ <;> first | omega | assumption | trivial | rfl) | (refine ⟨?_, ?_, ?_⟩ <;> first | omega | assumption | trivial | rfl) | (refine ⟨?_, ?_, ?_, ?_⟩ <;> first | omega | assumption | trivial | rfl) | (refine ⟨?_, ?_, ?_, ?_, ?_⟩ <;> first | omega | assumption | trivial | rfl) | (refine ⟨?_, ?_, ?_, ?_, ?_, ?_⟩ <;> first | omega | assumption | trivial | rfl) | (refine ⟨?_, ?_, ?_, ?_, ?_, ?_, ?_⟩ <;> first | omega | assumption | trivial | rfl) | (refine ⟨?_, ?_, ?_, ?_, ?_, ?_, ?_, ?_⟩ <;> first | omega | assumption | trivial | rfl))
        · exact ok_s (show FA f_t_forms from by first | omega | assumption | trivial | (refine ⟨?_, ?_⟩ <;> first | omega | assumption | trivial | rfl) | (refine ⟨?_, ?_, ?_⟩ <;> first | omega | assumption | trivial | rfl) | (refine ⟨?_, ?_, ?_, ?_⟩ <;> first | omega | assumption | trivial | rfl) | (refine ⟨?_, ?_, ?_, ?_, ?_⟩ <;> first | omega | assumption | trivial | rfl) | (refine ⟨?_, ?_, ?_, ?_, ?_, ?_⟩ <;> first | omega | assumption | trivial | rfl) | (refine ⟨?_, ?_, ?_, ?_, ?_, ?_, ?_⟩ <;> first | omega | assumption | trivial | rfl) | (refine ⟨?_, ?_, ?_, ?_, ?_, ?_, ?_, ?_⟩ <;> first | omega | assumption | trivial | rfl))
  · first | unfold J_X9_allPrimes_13 | skip
    refine ok_lt (fun c17 => ?_) (fun c17 => ?_)
    · first | unfold J_X9_allPrimes_23 | skip
      first | unfold J_X9_allPrimes_28 | skip
      refine ok_o2 (sp_X9_isThrown (0 : Int32) (1 : Int32) ) (fun r28_4 c_t_thrown_28_4 h18 => ?_)
      have h18 : (r28_4.toInt = 0 ∧ c_t_thrown_28_4.toInt = 0 ∧ (0 : Int32).toInt = 0 ∧ (1 : Int32).toInt = 0) ∨ (r28_4.toInt = 1 ∧ c_t_thrown_28_4.toInt = 1 ∧ (0 : Int32).toInt ≠ 0) ∨ (r28_4.toInt = 1 ∧ c_t_thrown_28_4.toInt = 2 ∧ (0 : Int32).toInt = 0 ∧ (1 : Int32).toInt ≠ 0) := h18
      refine ok_eq (fun c19 => ?_) (fun c19 => ?_)
      · refine ap_loop _ (fun y3_41_105_4 hI20 => ?_) p0 (by omega) (by omega)
        refine ok_o3 (sp_X9_give c_t_acts f_t_forms p1 y3_41_105_4 (by first | omega | assumption | trivial | exact wt_of (by assumption) (by omega)) (by first | omega | assumption | trivial | exact wt_of (by assumption) (by omega)) (by first | omega | assumption | trivial | exact wt_of (by assumption) (by omega)) (by first | omega | assumption | trivial | exact wt_of (by assumption) (by omega))) (fun r108_4 c_t_acts_108_4 f_t_forms_108_4 h21 => ?_)
        have h21 : FA f_t_forms_108_4 := h21
        exact ok_s (show FA f_t_forms_108_4 from by first | omega | assumption | trivial | (refine ⟨?_, ?_⟩ <;> first | omega | assumption | trivial | rfl) | (refine ⟨?_, ?_, ?_⟩ <;> first | omega | assumption | trivial | rfl) | (refine ⟨?_, ?_, ?_, ?_⟩ <;> first | omega | assumption | trivial | rfl) | (refine ⟨?_, ?_, ?_, ?_, ?_⟩ <;> first | omega | assumption | trivial | rfl) | (refine ⟨?_, ?_, ?_, ?_, ?_, ?_⟩ <;> first | omega | assumption | trivial | rfl) | (refine ⟨?_, ?_, ?_, ?_, ?_, ?_, ?_⟩ <;> first | omega | assumption | trivial | rfl) | (refine ⟨?_, ?_, ?_, ?_, ?_, ?_, ?_, ?_⟩ <;> first | omega | assumption | trivial | rfl))
      · exact ok_s (show FA f_t_forms from by first | omega | assumption | trivial | (refine ⟨?_, ?_⟩ <;> first | omega | assumption | trivial | rfl) | (refine ⟨?_, ?_, ?_⟩ <;> first | omega | assumption | trivial | rfl) | (refine ⟨?_, ?_, ?_, ?_⟩ <;> first | omega | assumption | trivial | rfl) | (refine ⟨?_, ?_, ?_, ?_, ?_⟩ <;> first | omega | assumption | trivial | rfl) | (refine ⟨?_, ?_, ?_, ?_, ?_, ?_⟩ <;> first | omega | assumption | trivial | rfl) | (refine ⟨?_, ?_, ?_, ?_, ?_, ?_, ?_⟩ <;> first | omega | assumption | trivial | rfl) | (refine ⟨?_, ?_, ?_, ?_, ?_, ?_, ?_, ?_⟩ <;> first | omega | assumption | trivial | rfl))
    · refine ok_le (fun c22 => ?_) (fun c22 => ?_)
      · first | unfold J_X9_allPrimes_28 | skip
        refine ok_o2 (sp_X9_isThrown (0 : Int32) (0 : Int32) ) (fun r28_5 c_t_thrown_28_5 h23 => ?_)
        have h23 : (r28_5.toInt = 0 ∧ c_t_thrown_28_5.toInt = 0 ∧ (0 : Int32).toInt = 0 ∧ (0 : Int32).toInt = 0) ∨ (r28_5.toInt = 1 ∧ c_t_thrown_28_5.toInt = 1 ∧ (0 : Int32).toInt ≠ 0) ∨ (r28_5.toInt = 1 ∧ c_t_thrown_28_5.toInt = 2 ∧ (0 : Int32).toInt = 0 ∧ (0 : Int32).toInt ≠ 0) := h23
        refine ok_eq (fun c24 => ?_) (fun c24 => ?_)
        · refine ap_loop _ (fun y3_41_105_5 hI25 => ?_) p0 (by omega) (by omega)
          refine ok_o3 (sp_X9_give c_t_acts f_t_forms p1 y3_41_105_5 (by first | omega | assumption | trivial | exact wt_of (by assumption) (by omega)) (by first | omega | assumption | trivial | exact wt_of (by assumption) (by omega)) (by first | omega | assumption | trivial | exact wt_of (by assumption) (by omega)) (by first | omega | assumption | trivial | exact wt_of (by assumption) (by omega))) (fun r108_5 c_t_acts_108_5 f_t_forms_108_5 h26 => ?_)
          have h26 : FA f_t_forms_108_5 := h26
          exact ok_s (show FA f_t_forms_108_5 from by first | omega | assumption | trivial | (refine ⟨?_, ?_⟩ <;> first | omega | assumption | trivial | rfl) | (refine ⟨?_, ?_, ?_⟩ <;> first | omega | assumption | trivial | rfl) | (refine ⟨?_, ?_, ?_, ?_⟩ <;> first | omega | assumption | trivial | rfl) | (refine ⟨?_, ?_, ?_, ?_, ?_⟩ <;> first | omega | assumption | trivial | rfl) | (refine ⟨?_, ?_, ?_, ?_, ?_, ?_⟩ <;> first | omega | assumption | trivial | rfl) | (refine ⟨?_, ?_, ?_, ?_, ?_, ?_, ?_⟩ <;> first | omega | assumption | trivial | rfl) | (refine ⟨?_, ?_, ?_, ?_, ?_, ?_, ?_, ?_⟩ <;> first | omega | assumption | trivial | rfl))
        · exact ok_s (show FA f_t_forms from by first | omega | assumption | trivial | (refine ⟨?_, ?_⟩ <;> first | omega | assumption | trivial | rfl) | (refine ⟨?_, ?_, ?_⟩ <;> first | omega | assumption | trivial | rfl) | (refine ⟨?_, ?_, ?_, ?_⟩ <;> first | omega | assumption | trivial | rfl) | (refine ⟨?_, ?_, ?_, ?_, ?_⟩ <;> first | omega | assumption | trivial | rfl) | (refine ⟨?_, ?_, ?_, ?_, ?_, ?_⟩ <;> first | omega | assumption | trivial | rfl) | (refine ⟨?_, ?_, ?_, ?_, ?_, ?_, ?_⟩ <;> first | omega | assumption | trivial | rfl) | (refine ⟨?_, ?_, ?_, ?_, ?_, ?_, ?_, ?_⟩ <;> first | omega | assumption | trivial | rfl))
      · first | unfold J_X9_allPrimes_23 | skip
        first | unfold J_X9_allPrimes_28 | skip
        refine ok_o2 (sp_X9_isThrown (0 : Int32) (1 : Int32) ) (fun r28_6 c_t_thrown_28_6 h27 => ?_)
        have h27 : (r28_6.toInt = 0 ∧ c_t_thrown_28_6.toInt = 0 ∧ (0 : Int32).toInt = 0 ∧ (1 : Int32).toInt = 0) ∨ (r28_6.toInt = 1 ∧ c_t_thrown_28_6.toInt = 1 ∧ (0 : Int32).toInt ≠ 0) ∨ (r28_6.toInt = 1 ∧ c_t_thrown_28_6.toInt = 2 ∧ (0 : Int32).toInt = 0 ∧ (1 : Int32).toInt ≠ 0) := h27
        refine ok_eq (fun c28 => ?_) (fun c28 => ?_)
        · refine ap_loop _ (fun y3_41_105_6 hI29 => ?_) p0 (by omega) (by omega)
          refine ok_o3 (sp_X9_give c_t_acts f_t_forms p1 y3_41_105_6 (by first | omega | assumption | trivial | exact wt_of (by assumption) (by omega)) (by first | omega | assumption | trivial | exact wt_of (by assumption) (by omega)) (by first | omega | assumption | trivial | exact wt_of (by assumption) (by omega)) (by first | omega | assumption | trivial | exact wt_of (by assumption) (by omega))) (fun r108_6 c_t_acts_108_6 f_t_forms_108_6 h30 => ?_)
          have h30 : FA f_t_forms_108_6 := h30
          exact ok_s (show FA f_t_forms_108_6 from by first | omega | assumption | trivial | (refine ⟨?_, ?_⟩ <;> first | omega | assumption | trivial | rfl) | (refine ⟨?_, ?_, ?_⟩ <;> first | omega | assumption | trivial | rfl) | (refine ⟨?_, ?_, ?_, ?_⟩ <;> first | omega | assumption | trivial | rfl) | (refine ⟨?_, ?_, ?_, ?_, ?_⟩ <;> first | omega | assumption | trivial | rfl) | (refine ⟨?_, ?_, ?_, ?_, ?_, ?_⟩ <;> first | omega | assumption | trivial | rfl) | (refine ⟨?_, ?_, ?_, ?_, ?_, ?_, ?_⟩ <;> first | omega | assumption | trivial | rfl) | (refine ⟨?_, ?_, ?_, ?_, ?_, ?_, ?_, ?_⟩ <;> first | omega | assumption | trivial | rfl))
        · exact ok_s (show FA f_t_forms from by first | omega | assumption | trivial | (refine ⟨?_, ?_⟩ <;> first | omega | assumption | trivial | rfl) | (refine ⟨?_, ?_, ?_⟩ <;> first | omega | assumption | trivial | rfl) | (refine ⟨?_, ?_, ?_, ?_⟩ <;> first | omega | assumption | trivial | rfl) | (refine ⟨?_, ?_, ?_, ?_, ?_⟩ <;> first | omega | assumption | trivial | rfl) | (refine ⟨?_, ?_, ?_, ?_, ?_, ?_⟩ <;> first | omega | assumption | trivial | rfl) | (refine ⟨?_, ?_, ?_, ?_, ?_, ?_, ?_⟩ <;> first | omega | assumption | trivial | rfl) | (refine ⟨?_, ?_, ?_, ?_, ?_, ?_, ?_, ?_⟩ <;> first | omega | assumption | trivial | rfl))
set_option maxHeartbeats 1000000 in
theorem sp_X9_checkOf (p0 : Int64) (p1 : Int64) (hp0 : 1 ≤ DG p1) (hp1 : DG p1 ≤ 39) (hp2 : DG p0 + DG p1 ≤ 39) : ok (F_X9_checkOf p0 p1) (fun r => DG r ≤ 39 ∧ -1 ≤ DG r ∧ DG r < DG p1) := by
  unfold F_X9_checkOf
  refine ok_o (sp_X9_degreeOf p1 ) (fun r2 h1 => ?_)
  have h1 : r2.toInt = DG p1 ∧ -1 ≤ r2.toInt ∧ r2.toInt ≤ 63 := h1
  have hs : DG (p0 <<< (r2.toInt64 &&& 63)) ≤ 39 := DG_shlx (by omega) (by omega) (by omega) (by decide) (by decide)
  refine ok_o (sp_X9_restOf (p0 <<< (r2.toInt64 &&& 63)) p1 (by first | omega | assumption | trivial | exact wt_of (by assumption) (by omega)) (by first | omega | assumption | trivial | exact wt_of (by assumption) (by omega)) (by first | omega | assumption | trivial | exact wt_of (by assumption) (by omega))) (fun r7 h2 => ?_)
  have h2 : -1 ≤ DG r7 ∧ DG r7 < DG p1 ∧ DG r7 ≤ DG (p0 <<< (r2.toInt64 &&& 63)) := h2
  exact ok_s (show DG r7 ≤ 39 ∧ -1 ≤ DG r7 ∧ DG r7 < DG p1 from by first | omega | assumption | trivial | (refine ⟨?_, ?_⟩ <;> first | omega | assumption | trivial | rfl) | (refine ⟨?_, ?_, ?_⟩ <;> first | omega | assumption | trivial | rfl) | (refine ⟨?_, ?_, ?_, ?_⟩ <;> first | omega | assumption | trivial | rfl) | (refine ⟨?_, ?_, ?_, ?_, ?_⟩ <;> first | omega | assumption | trivial | rfl) | (refine ⟨?_, ?_, ?_, ?_, ?_, ?_⟩ <;> first | omega | assumption | trivial | rfl) | (refine ⟨?_, ?_, ?_, ?_, ?_, ?_, ?_⟩ <;> first | omega | assumption | trivial | rfl) | (refine ⟨?_, ?_, ?_, ?_, ?_, ?_, ?_, ?_⟩ <;> first | omega | assumption | trivial | rfl))
set_option maxHeartbeats 1000000 in
theorem sp_X9_isNoSeal (p0 : Int64) (p1 : Int64) (p2 : Int32) (hp0 : DG p0 ≤ 39) (hp1 : DG p1 ≤ 39) : ok (F_X9_isNoSeal p0 p1 p2) (fun r => (r.toInt = 0 ∧ 1 ≤ DG p1 ∧ DG p1 ≤ p2.toInt ∧ DG p0 + DG p1 ≤ 39) ∨ r.toInt = 1) := by
  have l032 : (0 : Int32).toInt = 0 := by decide
  have l132 : (1 : Int32).toInt = 1 := by decide
  have l4032 : (40 : Int32).toInt = 40 := by decide
  unfold F_X9_isNoSeal
  refine ok_o (sp_X9_degreeOf p1 ) (fun r1 h1 => ?_)
  have h1 : r1.toInt = DG p1 ∧ -1 ≤ r1.toInt ∧ r1.toInt ≤ 63 := h1
  refine ok_lt (fun c2 => ?_) (fun c2 => ?_)
  · exact ok_s (show ((1 : Int32).toInt = 0 ∧ 1 ≤ DG p1 ∧ DG p1 ≤ p2.toInt ∧ DG p0 + DG p1 ≤ 39) ∨ (1 : Int32).toInt = 1 from by first | omega | assumption | trivial | (refine ⟨?_, ?_⟩ <;> first | omega | assumption | trivial | rfl) | (refine ⟨?_, ?_, ?_⟩ <;> first | omega | assumption | trivial | rfl) | (refine ⟨?_, ?_, ?_, ?_⟩ <;> first | omega | assumption | trivial | rfl) | (refine ⟨?_, ?_, ?_, ?_, ?_⟩ <;> first | omega | assumption | trivial | rfl) | (refine ⟨?_, ?_, ?_, ?_, ?_, ?_⟩ <;> first | omega | assumption | trivial | rfl) | (refine ⟨?_, ?_, ?_, ?_, ?_, ?_, ?_⟩ <;> first | omega | assumption | trivial | rfl) | (refine ⟨?_, ?_, ?_, ?_, ?_, ?_, ?_, ?_⟩ <;> first | omega | assumption | trivial | rfl))
  · refine ok_o (sp_X9_degreeOf p1 ) (fun r9 h3 => ?_)
    have h3 : r9.toInt = DG p1 ∧ -1 ≤ r9.toInt ∧ r9.toInt ≤ 63 := h3
    refine ok_lt (fun c4 => ?_) (fun c4 => ?_)
    · exact ok_s (show ((1 : Int32).toInt = 0 ∧ 1 ≤ DG p1 ∧ DG p1 ≤ p2.toInt ∧ DG p0 + DG p1 ≤ 39) ∨ (1 : Int32).toInt = 1 from by first | omega | assumption | trivial | (refine ⟨?_, ?_⟩ <;> first | omega | assumption | trivial | rfl) | (refine ⟨?_, ?_, ?_⟩ <;> first | omega | assumption | trivial | rfl) | (refine ⟨?_, ?_, ?_, ?_⟩ <;> first | omega | assumption | trivial | rfl) | (refine ⟨?_, ?_, ?_, ?_, ?_⟩ <;> first | omega | assumption | trivial | rfl) | (refine ⟨?_, ?_, ?_, ?_, ?_, ?_⟩ <;> first | omega | assumption | trivial | rfl) | (refine ⟨?_, ?_, ?_, ?_, ?_, ?_, ?_⟩ <;> first | omega | assumption | trivial | rfl) | (refine ⟨?_, ?_, ?_, ?_, ?_, ?_, ?_, ?_⟩ <;> first | omega | assumption | trivial | rfl))
    · refine ok_o (sp_X9_degreeOf p0 ) (fun r18 h5 => ?_)
      have h5 : r18.toInt = DG p0 ∧ -1 ≤ r18.toInt ∧ r18.toInt ≤ 63 := h5
      refine ok_o (sp_X9_degreeOf p1 ) (fun r22 h6 => ?_)
      have h6 : r22.toInt = DG p1 ∧ -1 ≤ r22.toInt ∧ r22.toInt ≤ 63 := h6
      obtain ⟨w7, e_w7⟩ : ∃ w : Int32, w = r18 + r22 := ⟨_, rfl⟩
      try have t_w7 : w7.toInt = r18.toInt + r22.toInt := by rw [e_w7]; exact addT1 (Eq.refl _) (by omega) (by omega)
      try rw [← e_w7]
      refine ok_lt (fun c8 => ?_) (fun c8 => ?_)
      · exact ok_s (show ((0 : Int32).toInt = 0 ∧ 1 ≤ DG p1 ∧ DG p1 ≤ p2.toInt ∧ DG p0 + DG p1 ≤ 39) ∨ (0 : Int32).toInt = 1 from by first | omega | assumption | trivial | (refine ⟨?_, ?_⟩ <;> first | omega | assumption | trivial | rfl) | (refine ⟨?_, ?_, ?_⟩ <;> first | omega | assumption | trivial | rfl) | (refine ⟨?_, ?_, ?_, ?_⟩ <;> first | omega | assumption | trivial | rfl) | (refine ⟨?_, ?_, ?_, ?_, ?_⟩ <;> first | omega | assumption | trivial | rfl) | (refine ⟨?_, ?_, ?_, ?_, ?_, ?_⟩ <;> first | omega | assumption | trivial | rfl) | (refine ⟨?_, ?_, ?_, ?_, ?_, ?_, ?_⟩ <;> first | omega | assumption | trivial | rfl) | (refine ⟨?_, ?_, ?_, ?_, ?_, ?_, ?_, ?_⟩ <;> first | omega | assumption | trivial | rfl))
      · exact ok_s (show ((1 : Int32).toInt = 0 ∧ 1 ≤ DG p1 ∧ DG p1 ≤ p2.toInt ∧ DG p0 + DG p1 ≤ 39) ∨ (1 : Int32).toInt = 1 from by first | omega | assumption | trivial | (refine ⟨?_, ?_⟩ <;> first | omega | assumption | trivial | rfl) | (refine ⟨?_, ?_, ?_⟩ <;> first | omega | assumption | trivial | rfl) | (refine ⟨?_, ?_, ?_, ?_⟩ <;> first | omega | assumption | trivial | rfl) | (refine ⟨?_, ?_, ?_, ?_, ?_⟩ <;> first | omega | assumption | trivial | rfl) | (refine ⟨?_, ?_, ?_, ?_, ?_, ?_⟩ <;> first | omega | assumption | trivial | rfl) | (refine ⟨?_, ?_, ?_, ?_, ?_, ?_, ?_⟩ <;> first | omega | assumption | trivial | rfl) | (refine ⟨?_, ?_, ?_, ?_, ?_, ?_, ?_, ?_⟩ <;> first | omega | assumption | trivial | rfl))
set_option maxHeartbeats 1000000 in
theorem sp_X9_seal (c_t_acts : Int32) (c_t_refused : Int32) (f_t_forms : Nat → Int64) (p0 : Int32) (p1 : Int32) (p2 : Int32) (hp0 : FA f_t_forms) : ok (F_X9_seal c_t_acts c_t_refused f_t_forms p0 p1 p2) (fun r => FA r.2.2.2.2) := by
  have l032 : (0 : Int32).toInt = 0 := by decide
  have l4032 : (40 : Int32).toInt = 40 := by decide
  unfold F_X9_seal
  refine ok_o2 (sp_X9_areNot p0 p1 p2 ) (fun r4 c_t_thrown_4 h1 => ?_)
  have h1 : (r4.toInt = 0 ∧ c_t_thrown_4.toInt = 0 ∧ 0 ≤ p0.toInt ∧ p0.toInt ≤ 5 ∧ 0 ≤ p1.toInt ∧ p1.toInt ≤ 5 ∧ 0 ≤ p2.toInt ∧ p2.toInt ≤ 5) ∨ (r4.toInt = 1 ∧ c_t_thrown_4.toInt = 1) := h1
  refine ok_eq (fun c2 => ?_) (fun c2 => ?_)
  · refine ok_c (ixo (by omega) (by omega)) ?_
    refine ok_c (ixo (by omega) (by omega)) ?_
    try have a3 := FA_at (f := f_t_forms) (by assumption) p0.toNatClampNeg
    try have a4 := FA_at (f := f_t_forms) (by assumption) p1.toNatClampNeg
    refine ok_o (sp_X9_isNoSeal (f_t_forms p0.toNatClampNeg) (f_t_forms p1.toNatClampNeg) (40 : Int32) (by first | omega | assumption | trivial | exact wt_of (by assumption) (by omega)) (by first | omega | assumption | trivial | exact wt_of (by assumption) (by omega))) (fun r26 h5 => ?_)
    have h5 : (r26.toInt = 0 ∧ 1 ≤ DG (f_t_forms p1.toNatClampNeg) ∧ DG (f_t_forms p1.toNatClampNeg) ≤ (40 : Int32).toInt ∧ DG (f_t_forms p0.toNatClampNeg) + DG (f_t_forms p1.toNatClampNeg) ≤ 39) ∨ r26.toInt = 1 := h5
    refine ok_eq (fun c6 => ?_) (fun c6 => ?_)
    · refine ok_c (ixo (by omega) (by omega)) ?_
      refine ok_c (ixo (by omega) (by omega)) ?_
      try have a7 := FA_at (f := f_t_forms) (by assumption) p0.toNatClampNeg
      try have a8 := FA_at (f := f_t_forms) (by assumption) p1.toNatClampNeg
      refine ok_o (sp_X9_checkOf (f_t_forms p0.toNatClampNeg) (f_t_forms p1.toNatClampNeg) (by first | omega | assumption | trivial | exact wt_of (by assumption) (by omega)) (by first | omega | assumption | trivial | exact wt_of (by assumption) (by omega)) (by first | omega | assumption | trivial | exact wt_of (by assumption) (by omega))) (fun r49 h9 => ?_)
      have h9 : DG r49 ≤ 39 ∧ -1 ≤ DG r49 ∧ DG r49 < DG (f_t_forms p1.toNatClampNeg) := h9
      refine ok_c (ixo (by omega) (by omega)) ?_
      refine ok_c (ixo (by omega) (by omega)) ?_
      try have a10 := FA_at (f := f_t_forms) (by assumption) p1.toNatClampNeg
      refine ok_o (sp_X9_degreeOf (f_t_forms p1.toNatClampNeg) ) (fun r71 h11 => ?_)
      have h11 : r71.toInt = DG (f_t_forms p1.toNatClampNeg) ∧ -1 ≤ r71.toInt ∧ r71.toInt ≤ 63 := h11
      refine ok_c (ixo (by omega) (by omega)) ?_
      try have a12 := FA_at (f := f_t_forms) (by assumption) p0.toNatClampNeg
      have hx : DG (((f_t_forms p0.toNatClampNeg) <<< (r71.toInt64 &&& 63)) ^^^ r49) ≤ 39 := DG_xor (DG_shlx (by omega) (by omega) (by omega) (by decide) (by decide)) (by omega)
      refine ok_bx (fun f_t_forms_78 e_f_t_forms_78 => ?_)
      try have t_f_t_forms_78 : FA f_t_forms_78 := by rw [e_f_t_forms_78]; exact FA_upd (by first | assumption | exact FA_0) _ (by first | omega | assumption | trivial)
      refine ok_o (sp_X9_onesOf r49 ) (fun r82 h13 => ?_)
      have h13 : 0 ≤ r82.toInt ∧ r82.toInt ≤ 127 := h13
      refine ok_o2 (sp_X9_done c_t_acts r82 ) (fun r85 c_t_acts_85 h14 => ?_)
      exact ok_s (show FA f_t_forms_78 from by first | omega | assumption | trivial | (refine ⟨?_, ?_⟩ <;> first | omega | assumption | trivial | rfl) | (refine ⟨?_, ?_, ?_⟩ <;> first | omega | assumption | trivial | rfl) | (refine ⟨?_, ?_, ?_, ?_⟩ <;> first | omega | assumption | trivial | rfl) | (refine ⟨?_, ?_, ?_, ?_, ?_⟩ <;> first | omega | assumption | trivial | rfl) | (refine ⟨?_, ?_, ?_, ?_, ?_, ?_⟩ <;> first | omega | assumption | trivial | rfl) | (refine ⟨?_, ?_, ?_, ?_, ?_, ?_, ?_⟩ <;> first | omega | assumption | trivial | rfl) | (refine ⟨?_, ?_, ?_, ?_, ?_, ?_, ?_, ?_⟩ <;> first | omega | assumption | trivial | rfl))
    · refine ok_o2 (sp_X9_no c_t_refused ) (fun r33 c_t_refused_33 h15 => ?_)
      exact ok_s (show FA f_t_forms from by first | omega | assumption | trivial | (refine ⟨?_, ?_⟩ <;> first | omega | assumption | trivial | rfl) | (refine ⟨?_, ?_, ?_⟩ <;> first | omega | assumption | trivial | rfl) | (refine ⟨?_, ?_, ?_, ?_⟩ <;> first | omega | assumption | trivial | rfl) | (refine ⟨?_, ?_, ?_, ?_, ?_⟩ <;> first | omega | assumption | trivial | rfl) | (refine ⟨?_, ?_, ?_, ?_, ?_, ?_⟩ <;> first | omega | assumption | trivial | rfl) | (refine ⟨?_, ?_, ?_, ?_, ?_, ?_, ?_⟩ <;> first | omega | assumption | trivial | rfl) | (refine ⟨?_, ?_, ?_, ?_, ?_, ?_, ?_, ?_⟩ <;> first | omega | assumption | trivial | rfl))
  · exact ok_s (show FA f_t_forms from by first | omega | assumption | trivial | (refine ⟨?_, ?_⟩ <;> first | omega | assumption | trivial | rfl) | (refine ⟨?_, ?_, ?_⟩ <;> first | omega | assumption | trivial | rfl) | (refine ⟨?_, ?_, ?_, ?_⟩ <;> first | omega | assumption | trivial | rfl) | (refine ⟨?_, ?_, ?_, ?_, ?_⟩ <;> first | omega | assumption | trivial | rfl) | (refine ⟨?_, ?_, ?_, ?_, ?_, ?_⟩ <;> first | omega | assumption | trivial | rfl) | (refine ⟨?_, ?_, ?_, ?_, ?_, ?_, ?_⟩ <;> first | omega | assumption | trivial | rfl) | (refine ⟨?_, ?_, ?_, ?_, ?_, ?_, ?_, ?_⟩ <;> first | omega | assumption | trivial | rfl))
set_option maxHeartbeats 1000000 in
theorem sp_X9_burst (c_t_acts : Int32) (c_t_refused : Int32) (c_t_thrown : Int32) (f_t_forms : Nat → Int64) (p0 : Int32) (p1 : Int32) (p2 : Int32) (hp0 : FA f_t_forms) : ok (F_X9_burst c_t_acts c_t_refused c_t_thrown f_t_forms p0 p1 p2) (fun r => FA r.2.2.2.2) := by
  have l032 : (0 : Int32).toInt = 0 := by decide
  have l132 : (1 : Int32).toInt = 1 := by decide
  have l4032 : (40 : Int32).toInt = 40 := by decide
  have l409532 : (4095 : Int32).toInt = 4095 := by decide
  unfold F_X9_burst
  refine ok_o (sp_X9_isForm p0 ) (fun r2 h1 => ?_)
  have h1 : (r2.toInt = 1 ∧ 0 ≤ p0.toInt ∧ p0.toInt ≤ 5) ∨ (r2.toInt = 0 ∧ (p0.toInt < 0 ∨ 6 ≤ p0.toInt)) := h1
  refine ok_eq (fun c2 => ?_) (fun c2 => ?_)
  · first | unfold J_X9_burst_15 | skip
    first | unfold J_X9_burst_20 | skip
    refine ok_lt (fun c3 => ?_) (fun c3 => ?_)
    · first | unfold J_X9_burst_31 | skip
      first | unfold J_X9_burst_36 | skip
      refine ok_o2 (sp_X9_isThrown (1 : Int32) (1 : Int32) ) (fun r36 c_t_thrown_36 h4 => ?_)
      have h4 : (r36.toInt = 0 ∧ c_t_thrown_36.toInt = 0 ∧ (1 : Int32).toInt = 0 ∧ (1 : Int32).toInt = 0) ∨ (r36.toInt = 1 ∧ c_t_thrown_36.toInt = 1 ∧ (1 : Int32).toInt ≠ 0) ∨ (r36.toInt = 1 ∧ c_t_thrown_36.toInt = 2 ∧ (1 : Int32).toInt = 0 ∧ (1 : Int32).toInt ≠ 0) := h4
      refine ok_eq (fun c5 => ?_) (fun c5 => ?_)
      · refine ok_le (fun c6 => ?_) (fun c6 => ?_)
        · first | unfold J_X9_burst_65 | skip
          refine ok_c (ixo (by omega) (by omega)) ?_
          refine ok_c (ixo (by omega) (by omega)) ?_
          try have a7 := FA_at (f := f_t_forms) (by assumption) p0.toNatClampNeg
          have hz : DG p2.toInt64 + p1.toInt ≤ 39 := by first | omega | (rw [DG_i0 (by omega)]; omega)
          have hx : DG ((f_t_forms p0.toNatClampNeg) ^^^ (p2.toInt64 <<< (p1.toInt64 &&& 63))) ≤ 39 := DG_xor (by omega) (DG_shlx (by omega) (by omega) hz (by decide) (by decide))
          refine ok_bx (fun f_t_forms_77 e_f_t_forms_77 => ?_)
          try have t_f_t_forms_77 : FA f_t_forms_77 := by rw [e_f_t_forms_77]; exact FA_upd (by first | assumption | exact FA_0) _ (by first | omega | assumption | trivial)
          refine ok_c (ixo (by omega) (by omega)) ?_
          try have a8 := FA_at (f := f_t_forms_77) (by assumption) p0.toNatClampNeg
          refine ok_o (sp_X9_onesOf (f_t_forms_77 p0.toNatClampNeg) ) (fun r85 h9 => ?_)
          have h9 : 0 ≤ r85.toInt ∧ r85.toInt ≤ 127 := h9
          refine ok_o2 (sp_X9_done c_t_acts r85 ) (fun r88 c_t_acts_88 h10 => ?_)
          exact ok_s (show FA f_t_forms_77 from by first | omega | assumption | trivial | (refine ⟨?_, ?_⟩ <;> first | omega | assumption | trivial | rfl) | (refine ⟨?_, ?_, ?_⟩ <;> first | omega | assumption | trivial | rfl) | (refine ⟨?_, ?_, ?_, ?_⟩ <;> first | omega | assumption | trivial | rfl) | (refine ⟨?_, ?_, ?_, ?_, ?_⟩ <;> first | omega | assumption | trivial | rfl) | (refine ⟨?_, ?_, ?_, ?_, ?_, ?_⟩ <;> first | omega | assumption | trivial | rfl) | (refine ⟨?_, ?_, ?_, ?_, ?_, ?_, ?_⟩ <;> first | omega | assumption | trivial | rfl) | (refine ⟨?_, ?_, ?_, ?_, ?_, ?_, ?_, ?_⟩ <;> first | omega | assumption | trivial | rfl))
        · refine ok_o (sp_X9_degreeOf p2.toInt64 ) (fun r50 h11 => ?_)
          have h11 : r50.toInt = DG p2.toInt64 ∧ -1 ≤ r50.toInt ∧ r50.toInt ≤ 63 := h11
          obtain ⟨w12, e_w12⟩ : ∃ w : Int32, w = r50 + p1 := ⟨_, rfl⟩
          try have t_w12 : w12.toInt = r50.toInt + p1.toInt := by rw [e_w12]; exact addT1 (Eq.refl _) (by omega) (by omega)
          try rw [← e_w12]
          refine ok_lt (fun c13 => ?_) (fun c13 => ?_)
          · first | unfold J_X9_burst_65 | skip
            try rw [← e_w12]
            refine ok_c (ixo (by omega) (by omega)) ?_
            refine ok_c (ixo (by omega) (by omega)) ?_
            try have a14 := FA_at (f := f_t_forms) (by assumption) p0.toNatClampNeg
            have hz : DG p2.toInt64 + p1.toInt ≤ 39 := by first | omega | (rw [DG_i0 (by omega)]; omega)
            have hx : DG ((f_t_forms p0.toNatClampNeg) ^^^ (p2.toInt64 <<< (p1.toInt64 &&& 63))) ≤ 39 := DG_xor (by omega) (DG_shlx (by omega) (by omega) hz (by decide) (by decide))
            refine ok_bx (fun f_t_forms_77_2 e_f_t_forms_77_2 => ?_)
            try have t_f_t_forms_77_2 : FA f_t_forms_77_2 := by rw [e_f_t_forms_77_2]; exact FA_upd (by first | assumption | exact FA_0) _ (by first | omega | assumption | trivial)
            refine ok_c (ixo (by omega) (by omega)) ?_
            try have a15 := FA_at (f := f_t_forms_77_2) (by assumption) p0.toNatClampNeg
            refine ok_o (sp_X9_onesOf (f_t_forms_77_2 p0.toNatClampNeg) ) (fun r85_2 h16 => ?_)
            have h16 : 0 ≤ r85_2.toInt ∧ r85_2.toInt ≤ 127 := h16
            refine ok_o2 (sp_X9_done c_t_acts r85_2 ) (fun r88_2 c_t_acts_88_2 h17 => ?_)
            exact ok_s (show FA f_t_forms_77_2 from by first | omega | assumption | trivial | (refine ⟨?_, ?_⟩ <;> first | omega | assumption | trivial | rfl) | (refine ⟨?_, ?_, ?_⟩ <;> first | omega | assumption | trivial | rfl) | (refine ⟨?_, ?_, ?_, ?_⟩ <;> first | omega | assumption | trivial | rfl) | (refine ⟨?_, ?_, ?_, ?_, ?_⟩ <;> first | omega | assumption | trivial | rfl) | (refine ⟨?_, ?_, ?_, ?_, ?_, ?_⟩ <;> first | omega | assumption | trivial | rfl) | (refine ⟨?_, ?_, ?_, ?_, ?_, ?_, ?_⟩ <;> first | omega | assumption | trivial | rfl) | (refine ⟨?_, ?_, ?_, ?_, ?_, ?_, ?_, ?_⟩ <;> first | omega | assumption | trivial | rfl))
          · refine ok_o2 (sp_X9_no c_t_refused ) (fun r61 c_t_refused_61 h18 => ?_)
            exact ok_s (show FA f_t_forms from by first | omega | assumption | trivial | (refine ⟨?_, ?_⟩ <;> first | omega | assumption | trivial | rfl) | (refine ⟨?_, ?_, ?_⟩ <;> first | omega | assumption | trivial | rfl) | (refine ⟨?_, ?_, ?_, ?_⟩ <;> first | omega | assumption | trivial | rfl) | (refine ⟨?_, ?_, ?_, ?_, ?_⟩ <;> first | omega | assumption | trivial | rfl) | (refine ⟨?_, ?_, ?_, ?_, ?_, ?_⟩ <;> first | omega | assumption | trivial | rfl) | (refine ⟨?_, ?_, ?_, ?_, ?_, ?_, ?_⟩ <;> first | omega | assumption | trivial | rfl) | (refine ⟨?_, ?_, ?_, ?_, ?_, ?_, ?_, ?_⟩ <;> first | omega | assumption | trivial | rfl))
      · exact ok_s (show FA f_t_forms from by first | omega | assumption | trivial | (refine ⟨?_, ?_⟩ <;> first | omega | assumption | trivial | rfl) | (refine ⟨?_, ?_, ?_⟩ <;> first | omega | assumption | trivial | rfl) | (refine ⟨?_, ?_, ?_, ?_⟩ <;> first | omega | assumption | trivial | rfl) | (refine ⟨?_, ?_, ?_, ?_, ?_⟩ <;> first | omega | assumption | trivial | rfl) | (refine ⟨?_, ?_, ?_, ?_, ?_, ?_⟩ <;> first | omega | assumption | trivial | rfl) | (refine ⟨?_, ?_, ?_, ?_, ?_, ?_, ?_⟩ <;> first | omega | assumption | trivial | rfl) | (refine ⟨?_, ?_, ?_, ?_, ?_, ?_, ?_, ?_⟩ <;> first | omega | assumption | trivial | rfl))
    · refine ok_le (fun c19 => ?_) (fun c19 => ?_)
      · first | unfold J_X9_burst_36 | skip
        refine ok_o2 (sp_X9_isThrown (1 : Int32) (0 : Int32) ) (fun r36_2 c_t_thrown_36_2 h20 => ?_)
        have h20 : (r36_2.toInt = 0 ∧ c_t_thrown_36_2.toInt = 0 ∧ (1 : Int32).toInt = 0 ∧ (0 : Int32).toInt = 0) ∨ (r36_2.toInt = 1 ∧ c_t_thrown_36_2.toInt = 1 ∧ (1 : Int32).toInt ≠ 0) ∨ (r36_2.toInt = 1 ∧ c_t_thrown_36_2.toInt = 2 ∧ (1 : Int32).toInt = 0 ∧ (0 : Int32).toInt ≠ 0) := h20
        refine ok_eq (fun c21 => ?_) (fun c21 => ?_)
        · refine ok_le (fun c22 => ?_) (fun c22 => ?_)
          · first | unfold J_X9_burst_65 | skip
            refine ok_c (ixo (by omega) (by omega)) ?_
            refine ok_c (ixo (by omega) (by omega)) ?_
            try have a23 := FA_at (f := f_t_forms) (by assumption) p0.toNatClampNeg
            have hz : DG p2.toInt64 + p1.toInt ≤ 39 := by first | omega | (rw [DG_i0 (by omega)]; omega)
            have hx : DG ((f_t_forms p0.toNatClampNeg) ^^^ (p2.toInt64 <<< (p1.toInt64 &&& 63))) ≤ 39 := DG_xor (by omega) (DG_shlx (by omega) (by omega) hz (by decide) (by decide))
            refine ok_bx (fun f_t_forms_77_3 e_f_t_forms_77_3 => ?_)
            try have t_f_t_forms_77_3 : FA f_t_forms_77_3 := by rw [e_f_t_forms_77_3]; exact FA_upd (by first | assumption | exact FA_0) _ (by first | omega | assumption | trivial)
            refine ok_c (ixo (by omega) (by omega)) ?_
            try have a24 := FA_at (f := f_t_forms_77_3) (by assumption) p0.toNatClampNeg
            refine ok_o (sp_X9_onesOf (f_t_forms_77_3 p0.toNatClampNeg) ) (fun r85_3 h25 => ?_)
            have h25 : 0 ≤ r85_3.toInt ∧ r85_3.toInt ≤ 127 := h25
            refine ok_o2 (sp_X9_done c_t_acts r85_3 ) (fun r88_3 c_t_acts_88_3 h26 => ?_)
            exact ok_s (show FA f_t_forms_77_3 from by first | omega | assumption | trivial | (refine ⟨?_, ?_⟩ <;> first | omega | assumption | trivial | rfl) | (refine ⟨?_, ?_, ?_⟩ <;> first | omega | assumption | trivial | rfl) | (refine ⟨?_, ?_, ?_, ?_⟩ <;> first | omega | assumption | trivial | rfl) | (refine ⟨?_, ?_, ?_, ?_, ?_⟩ <;> first | omega | assumption | trivial | rfl) | (refine ⟨?_, ?_, ?_, ?_, ?_, ?_⟩ <;> first | omega | assumption | trivial | rfl) | (refine ⟨?_, ?_, ?_, ?_, ?_, ?_, ?_⟩ <;> first | omega | assumption | trivial | rfl) | (refine ⟨?_, ?_, ?_, ?_, ?_, ?_, ?_, ?_⟩ <;> first | omega | assumption | trivial | rfl))
          · refine ok_o (sp_X9_degreeOf p2.toInt64 ) (fun r50_2 h27 => ?_)
            have h27 : r50_2.toInt = DG p2.toInt64 ∧ -1 ≤ r50_2.toInt ∧ r50_2.toInt ≤ 63 := h27
            obtain ⟨w28, e_w28⟩ : ∃ w : Int32, w = r50_2 + p1 := ⟨_, rfl⟩
            try have t_w28 : w28.toInt = r50_2.toInt + p1.toInt := by rw [e_w28]; exact addT1 (Eq.refl _) (by omega) (by omega)
            try rw [← e_w28]
            refine ok_lt (fun c29 => ?_) (fun c29 => ?_)
            · first | unfold J_X9_burst_65 | skip
              try rw [← e_w28]
              refine ok_c (ixo (by omega) (by omega)) ?_
              refine ok_c (ixo (by omega) (by omega)) ?_
              try have a30 := FA_at (f := f_t_forms) (by assumption) p0.toNatClampNeg
              have hz : DG p2.toInt64 + p1.toInt ≤ 39 := by first | omega | (rw [DG_i0 (by omega)]; omega)
              have hx : DG ((f_t_forms p0.toNatClampNeg) ^^^ (p2.toInt64 <<< (p1.toInt64 &&& 63))) ≤ 39 := DG_xor (by omega) (DG_shlx (by omega) (by omega) hz (by decide) (by decide))
              refine ok_bx (fun f_t_forms_77_4 e_f_t_forms_77_4 => ?_)
              try have t_f_t_forms_77_4 : FA f_t_forms_77_4 := by rw [e_f_t_forms_77_4]; exact FA_upd (by first | assumption | exact FA_0) _ (by first | omega | assumption | trivial)
              refine ok_c (ixo (by omega) (by omega)) ?_
              try have a31 := FA_at (f := f_t_forms_77_4) (by assumption) p0.toNatClampNeg
              refine ok_o (sp_X9_onesOf (f_t_forms_77_4 p0.toNatClampNeg) ) (fun r85_4 h32 => ?_)
              have h32 : 0 ≤ r85_4.toInt ∧ r85_4.toInt ≤ 127 := h32
              refine ok_o2 (sp_X9_done c_t_acts r85_4 ) (fun r88_4 c_t_acts_88_4 h33 => ?_)
              exact ok_s (show FA f_t_forms_77_4 from by first | omega | assumption | trivial | (refine ⟨?_, ?_⟩ <;> first | omega | assumption | trivial | rfl) | (refine ⟨?_, ?_, ?_⟩ <;> first | omega | assumption | trivial | rfl) | (refine ⟨?_, ?_, ?_, ?_⟩ <;> first | omega | assumption | trivial | rfl) | (refine ⟨?_, ?_, ?_, ?_, ?_⟩ <;> first | omega | assumption | trivial | rfl) | (refine ⟨?_, ?_, ?_, ?_, ?_, ?_⟩ <;> first | omega | assumption | trivial | rfl) | (refine ⟨?_, ?_, ?_, ?_, ?_, ?_, ?_⟩ <;> first | omega | assumption | trivial | rfl) | (refine ⟨?_, ?_, ?_, ?_, ?_, ?_, ?_, ?_⟩ <;> first | omega | assumption | trivial | rfl))
            · refine ok_o2 (sp_X9_no c_t_refused ) (fun r61_2 c_t_refused_61_2 h34 => ?_)
              exact ok_s (show FA f_t_forms from by first | omega | assumption | trivial | (refine ⟨?_, ?_⟩ <;> first | omega | assumption | trivial | rfl) | (refine ⟨?_, ?_, ?_⟩ <;> first | omega | assumption | trivial | rfl) | (refine ⟨?_, ?_, ?_, ?_⟩ <;> first | omega | assumption | trivial | rfl) | (refine ⟨?_, ?_, ?_, ?_, ?_⟩ <;> first | omega | assumption | trivial | rfl) | (refine ⟨?_, ?_, ?_, ?_, ?_, ?_⟩ <;> first | omega | assumption | trivial | rfl) | (refine ⟨?_, ?_, ?_, ?_, ?_, ?_, ?_⟩ <;> first | omega | assumption | trivial | rfl) | (refine ⟨?_, ?_, ?_, ?_, ?_, ?_, ?_, ?_⟩ <;> first | omega | assumption | trivial | rfl))
        · exact ok_s (show FA f_t_forms from by first | omega | assumption | trivial | (refine ⟨?_, ?_⟩ <;> first | omega | assumption | trivial | rfl) | (refine ⟨?_, ?_, ?_⟩ <;> first | omega | assumption | trivial | rfl) | (refine ⟨?_, ?_, ?_, ?_⟩ <;> first | omega | assumption | trivial | rfl) | (refine ⟨?_, ?_, ?_, ?_, ?_⟩ <;> first | omega | assumption | trivial | rfl) | (refine ⟨?_, ?_, ?_, ?_, ?_, ?_⟩ <;> first | omega | assumption | trivial | rfl) | (refine ⟨?_, ?_, ?_, ?_, ?_, ?_, ?_⟩ <;> first | omega | assumption | trivial | rfl) | (refine ⟨?_, ?_, ?_, ?_, ?_, ?_, ?_, ?_⟩ <;> first | omega | assumption | trivial | rfl))
      · first | unfold J_X9_burst_31 | skip
        first | unfold J_X9_burst_36 | skip
        refine ok_o2 (sp_X9_isThrown (1 : Int32) (1 : Int32) ) (fun r36_3 c_t_thrown_36_3 h35 => ?_)
        have h35 : (r36_3.toInt = 0 ∧ c_t_thrown_36_3.toInt = 0 ∧ (1 : Int32).toInt = 0 ∧ (1 : Int32).toInt = 0) ∨ (r36_3.toInt = 1 ∧ c_t_thrown_36_3.toInt = 1 ∧ (1 : Int32).toInt ≠ 0) ∨ (r36_3.toInt = 1 ∧ c_t_thrown_36_3.toInt = 2 ∧ (1 : Int32).toInt = 0 ∧ (1 : Int32).toInt ≠ 0) := h35
        refine ok_eq (fun c36 => ?_) (fun c36 => ?_)
        · refine ok_le (fun c37 => ?_) (fun c37 => ?_)
          · first | unfold J_X9_burst_65 | skip
            refine ok_c (ixo (by omega) (by omega)) ?_
            refine ok_c (ixo (by omega) (by omega)) ?_
            try have a38 := FA_at (f := f_t_forms) (by assumption) p0.toNatClampNeg
            have hz : DG p2.toInt64 + p1.toInt ≤ 39 := by first | omega | (rw [DG_i0 (by omega)]; omega)
            have hx : DG ((f_t_forms p0.toNatClampNeg) ^^^ (p2.toInt64 <<< (p1.toInt64 &&& 63))) ≤ 39 := DG_xor (by omega) (DG_shlx (by omega) (by omega) hz (by decide) (by decide))
            refine ok_bx (fun f_t_forms_77_5 e_f_t_forms_77_5 => ?_)
            try have t_f_t_forms_77_5 : FA f_t_forms_77_5 := by rw [e_f_t_forms_77_5]; exact FA_upd (by first | assumption | exact FA_0) _ (by first | omega | assumption | trivial)
            refine ok_c (ixo (by omega) (by omega)) ?_
            try have a39 := FA_at (f := f_t_forms_77_5) (by assumption) p0.toNatClampNeg
            refine ok_o (sp_X9_onesOf (f_t_forms_77_5 p0.toNatClampNeg) ) (fun r85_5 h40 => ?_)
            have h40 : 0 ≤ r85_5.toInt ∧ r85_5.toInt ≤ 127 := h40
            refine ok_o2 (sp_X9_done c_t_acts r85_5 ) (fun r88_5 c_t_acts_88_5 h41 => ?_)
            exact ok_s (show FA f_t_forms_77_5 from by first | omega | assumption | trivial | (refine ⟨?_, ?_⟩ <;> first | omega | assumption | trivial | rfl) | (refine ⟨?_, ?_, ?_⟩ <;> first | omega | assumption | trivial | rfl) | (refine ⟨?_, ?_, ?_, ?_⟩ <;> first | omega | assumption | trivial | rfl) | (refine ⟨?_, ?_, ?_, ?_, ?_⟩ <;> first | omega | assumption | trivial | rfl) | (refine ⟨?_, ?_, ?_, ?_, ?_, ?_⟩ <;> first | omega | assumption | trivial | rfl) | (refine ⟨?_, ?_, ?_, ?_, ?_, ?_, ?_⟩ <;> first | omega | assumption | trivial | rfl) | (refine ⟨?_, ?_, ?_, ?_, ?_, ?_, ?_, ?_⟩ <;> first | omega | assumption | trivial | rfl))
          · refine ok_o (sp_X9_degreeOf p2.toInt64 ) (fun r50_3 h42 => ?_)
            have h42 : r50_3.toInt = DG p2.toInt64 ∧ -1 ≤ r50_3.toInt ∧ r50_3.toInt ≤ 63 := h42
            obtain ⟨w43, e_w43⟩ : ∃ w : Int32, w = r50_3 + p1 := ⟨_, rfl⟩
            try have t_w43 : w43.toInt = r50_3.toInt + p1.toInt := by rw [e_w43]; exact addT1 (Eq.refl _) (by omega) (by omega)
            try rw [← e_w43]
            refine ok_lt (fun c44 => ?_) (fun c44 => ?_)
            · first | unfold J_X9_burst_65 | skip
              try rw [← e_w43]
              refine ok_c (ixo (by omega) (by omega)) ?_
              refine ok_c (ixo (by omega) (by omega)) ?_
              try have a45 := FA_at (f := f_t_forms) (by assumption) p0.toNatClampNeg
              have hz : DG p2.toInt64 + p1.toInt ≤ 39 := by first | omega | (rw [DG_i0 (by omega)]; omega)
              have hx : DG ((f_t_forms p0.toNatClampNeg) ^^^ (p2.toInt64 <<< (p1.toInt64 &&& 63))) ≤ 39 := DG_xor (by omega) (DG_shlx (by omega) (by omega) hz (by decide) (by decide))
              refine ok_bx (fun f_t_forms_77_6 e_f_t_forms_77_6 => ?_)
              try have t_f_t_forms_77_6 : FA f_t_forms_77_6 := by rw [e_f_t_forms_77_6]; exact FA_upd (by first | assumption | exact FA_0) _ (by first | omega | assumption | trivial)
              refine ok_c (ixo (by omega) (by omega)) ?_
              try have a46 := FA_at (f := f_t_forms_77_6) (by assumption) p0.toNatClampNeg
              refine ok_o (sp_X9_onesOf (f_t_forms_77_6 p0.toNatClampNeg) ) (fun r85_6 h47 => ?_)
              have h47 : 0 ≤ r85_6.toInt ∧ r85_6.toInt ≤ 127 := h47
              refine ok_o2 (sp_X9_done c_t_acts r85_6 ) (fun r88_6 c_t_acts_88_6 h48 => ?_)
              exact ok_s (show FA f_t_forms_77_6 from by first | omega | assumption | trivial | (refine ⟨?_, ?_⟩ <;> first | omega | assumption | trivial | rfl) | (refine ⟨?_, ?_, ?_⟩ <;> first | omega | assumption | trivial | rfl) | (refine ⟨?_, ?_, ?_, ?_⟩ <;> first | omega | assumption | trivial | rfl) | (refine ⟨?_, ?_, ?_, ?_, ?_⟩ <;> first | omega | assumption | trivial | rfl) | (refine ⟨?_, ?_, ?_, ?_, ?_, ?_⟩ <;> first | omega | assumption | trivial | rfl) | (refine ⟨?_, ?_, ?_, ?_, ?_, ?_, ?_⟩ <;> first | omega | assumption | trivial | rfl) | (refine ⟨?_, ?_, ?_, ?_, ?_, ?_, ?_, ?_⟩ <;> first | omega | assumption | trivial | rfl))
            · refine ok_o2 (sp_X9_no c_t_refused ) (fun r61_3 c_t_refused_61_3 h49 => ?_)
              exact ok_s (show FA f_t_forms from by first | omega | assumption | trivial | (refine ⟨?_, ?_⟩ <;> first | omega | assumption | trivial | rfl) | (refine ⟨?_, ?_, ?_⟩ <;> first | omega | assumption | trivial | rfl) | (refine ⟨?_, ?_, ?_, ?_⟩ <;> first | omega | assumption | trivial | rfl) | (refine ⟨?_, ?_, ?_, ?_, ?_⟩ <;> first | omega | assumption | trivial | rfl) | (refine ⟨?_, ?_, ?_, ?_, ?_, ?_⟩ <;> first | omega | assumption | trivial | rfl) | (refine ⟨?_, ?_, ?_, ?_, ?_, ?_, ?_⟩ <;> first | omega | assumption | trivial | rfl) | (refine ⟨?_, ?_, ?_, ?_, ?_, ?_, ?_, ?_⟩ <;> first | omega | assumption | trivial | rfl))
        · exact ok_s (show FA f_t_forms from by first | omega | assumption | trivial | (refine ⟨?_, ?_⟩ <;> first | omega | assumption | trivial | rfl) | (refine ⟨?_, ?_, ?_⟩ <;> first | omega | assumption | trivial | rfl) | (refine ⟨?_, ?_, ?_, ?_⟩ <;> first | omega | assumption | trivial | rfl) | (refine ⟨?_, ?_, ?_, ?_, ?_⟩ <;> first | omega | assumption | trivial | rfl) | (refine ⟨?_, ?_, ?_, ?_, ?_, ?_⟩ <;> first | omega | assumption | trivial | rfl) | (refine ⟨?_, ?_, ?_, ?_, ?_, ?_, ?_⟩ <;> first | omega | assumption | trivial | rfl) | (refine ⟨?_, ?_, ?_, ?_, ?_, ?_, ?_, ?_⟩ <;> first | omega | assumption | trivial | rfl))
  · refine ok_o (sp_X9_isPlace p1 ) (fun r9 h50 => ?_)
    have h50 : (r9.toInt = 1 ∧ 0 ≤ p1.toInt ∧ p1.toInt ≤ 39) ∨ (r9.toInt = 0 ∧ (p1.toInt < 0 ∨ 40 ≤ p1.toInt)) := h50
    refine ok_eq (fun c51 => ?_) (fun c51 => ?_)
    · first | unfold J_X9_burst_15 | skip
      first | unfold J_X9_burst_20 | skip
      refine ok_lt (fun c52 => ?_) (fun c52 => ?_)
      · first | unfold J_X9_burst_31 | skip
        first | unfold J_X9_burst_36 | skip
        refine ok_o2 (sp_X9_isThrown (1 : Int32) (1 : Int32) ) (fun r36_4 c_t_thrown_36_4 h53 => ?_)
        have h53 : (r36_4.toInt = 0 ∧ c_t_thrown_36_4.toInt = 0 ∧ (1 : Int32).toInt = 0 ∧ (1 : Int32).toInt = 0) ∨ (r36_4.toInt = 1 ∧ c_t_thrown_36_4.toInt = 1 ∧ (1 : Int32).toInt ≠ 0) ∨ (r36_4.toInt = 1 ∧ c_t_thrown_36_4.toInt = 2 ∧ (1 : Int32).toInt = 0 ∧ (1 : Int32).toInt ≠ 0) := h53
        refine ok_eq (fun c54 => ?_) (fun c54 => ?_)
        · refine ok_le (fun c55 => ?_) (fun c55 => ?_)
          · first | unfold J_X9_burst_65 | skip
            refine ok_c (ixo (by omega) (by omega)) ?_
            refine ok_c (ixo (by omega) (by omega)) ?_
            try have a56 := FA_at (f := f_t_forms) (by assumption) p0.toNatClampNeg
            have hz : DG p2.toInt64 + p1.toInt ≤ 39 := by first | omega | (rw [DG_i0 (by omega)]; omega)
            have hx : DG ((f_t_forms p0.toNatClampNeg) ^^^ (p2.toInt64 <<< (p1.toInt64 &&& 63))) ≤ 39 := DG_xor (by omega) (DG_shlx (by omega) (by omega) hz (by decide) (by decide))
            refine ok_bx (fun f_t_forms_77_7 e_f_t_forms_77_7 => ?_)
            try have t_f_t_forms_77_7 : FA f_t_forms_77_7 := by rw [e_f_t_forms_77_7]; exact FA_upd (by first | assumption | exact FA_0) _ (by first | omega | assumption | trivial)
            refine ok_c (ixo (by omega) (by omega)) ?_
            try have a57 := FA_at (f := f_t_forms_77_7) (by assumption) p0.toNatClampNeg
            refine ok_o (sp_X9_onesOf (f_t_forms_77_7 p0.toNatClampNeg) ) (fun r85_7 h58 => ?_)
            have h58 : 0 ≤ r85_7.toInt ∧ r85_7.toInt ≤ 127 := h58
            refine ok_o2 (sp_X9_done c_t_acts r85_7 ) (fun r88_7 c_t_acts_88_7 h59 => ?_)
            exact ok_s (show FA f_t_forms_77_7 from by first | omega | assumption | trivial | (refine ⟨?_, ?_⟩ <;> first | omega | assumption | trivial | rfl) | (refine ⟨?_, ?_, ?_⟩ <;> first | omega | assumption | trivial | rfl) | (refine ⟨?_, ?_, ?_, ?_⟩ <;> first | omega | assumption | trivial | rfl) | (refine ⟨?_, ?_, ?_, ?_, ?_⟩ <;> first | omega | assumption | trivial | rfl) | (refine ⟨?_, ?_, ?_, ?_, ?_, ?_⟩ <;> first | omega | assumption | trivial | rfl) | (refine ⟨?_, ?_, ?_, ?_, ?_, ?_, ?_⟩ <;> first | omega | assumption | trivial | rfl) | (refine ⟨?_, ?_, ?_, ?_, ?_, ?_, ?_, ?_⟩ <;> first | omega | assumption | trivial | rfl))
          · refine ok_o (sp_X9_degreeOf p2.toInt64 ) (fun r50_4 h60 => ?_)
            have h60 : r50_4.toInt = DG p2.toInt64 ∧ -1 ≤ r50_4.toInt ∧ r50_4.toInt ≤ 63 := h60
            obtain ⟨w61, e_w61⟩ : ∃ w : Int32, w = r50_4 + p1 := ⟨_, rfl⟩
            try have t_w61 : w61.toInt = r50_4.toInt + p1.toInt := by rw [e_w61]; exact addT1 (Eq.refl _) (by omega) (by omega)
            try rw [← e_w61]
            refine ok_lt (fun c62 => ?_) (fun c62 => ?_)
            · first | unfold J_X9_burst_65 | skip
              try rw [← e_w61]
              refine ok_c (ixo (by omega) (by omega)) ?_
              refine ok_c (ixo (by omega) (by omega)) ?_
              try have a63 := FA_at (f := f_t_forms) (by assumption) p0.toNatClampNeg
              have hz : DG p2.toInt64 + p1.toInt ≤ 39 := by first | omega | (rw [DG_i0 (by omega)]; omega)
              have hx : DG ((f_t_forms p0.toNatClampNeg) ^^^ (p2.toInt64 <<< (p1.toInt64 &&& 63))) ≤ 39 := DG_xor (by omega) (DG_shlx (by omega) (by omega) hz (by decide) (by decide))
              refine ok_bx (fun f_t_forms_77_8 e_f_t_forms_77_8 => ?_)
              try have t_f_t_forms_77_8 : FA f_t_forms_77_8 := by rw [e_f_t_forms_77_8]; exact FA_upd (by first | assumption | exact FA_0) _ (by first | omega | assumption | trivial)
              refine ok_c (ixo (by omega) (by omega)) ?_
              try have a64 := FA_at (f := f_t_forms_77_8) (by assumption) p0.toNatClampNeg
              refine ok_o (sp_X9_onesOf (f_t_forms_77_8 p0.toNatClampNeg) ) (fun r85_8 h65 => ?_)
              have h65 : 0 ≤ r85_8.toInt ∧ r85_8.toInt ≤ 127 := h65
              refine ok_o2 (sp_X9_done c_t_acts r85_8 ) (fun r88_8 c_t_acts_88_8 h66 => ?_)
              exact ok_s (show FA f_t_forms_77_8 from by first | omega | assumption | trivial | (refine ⟨?_, ?_⟩ <;> first | omega | assumption | trivial | rfl) | (refine ⟨?_, ?_, ?_⟩ <;> first | omega | assumption | trivial | rfl) | (refine ⟨?_, ?_, ?_, ?_⟩ <;> first | omega | assumption | trivial | rfl) | (refine ⟨?_, ?_, ?_, ?_, ?_⟩ <;> first | omega | assumption | trivial | rfl) | (refine ⟨?_, ?_, ?_, ?_, ?_, ?_⟩ <;> first | omega | assumption | trivial | rfl) | (refine ⟨?_, ?_, ?_, ?_, ?_, ?_, ?_⟩ <;> first | omega | assumption | trivial | rfl) | (refine ⟨?_, ?_, ?_, ?_, ?_, ?_, ?_, ?_⟩ <;> first | omega | assumption | trivial | rfl))
            · refine ok_o2 (sp_X9_no c_t_refused ) (fun r61_4 c_t_refused_61_4 h67 => ?_)
              exact ok_s (show FA f_t_forms from by first | omega | assumption | trivial | (refine ⟨?_, ?_⟩ <;> first | omega | assumption | trivial | rfl) | (refine ⟨?_, ?_, ?_⟩ <;> first | omega | assumption | trivial | rfl) | (refine ⟨?_, ?_, ?_, ?_⟩ <;> first | omega | assumption | trivial | rfl) | (refine ⟨?_, ?_, ?_, ?_, ?_⟩ <;> first | omega | assumption | trivial | rfl) | (refine ⟨?_, ?_, ?_, ?_, ?_, ?_⟩ <;> first | omega | assumption | trivial | rfl) | (refine ⟨?_, ?_, ?_, ?_, ?_, ?_, ?_⟩ <;> first | omega | assumption | trivial | rfl) | (refine ⟨?_, ?_, ?_, ?_, ?_, ?_, ?_, ?_⟩ <;> first | omega | assumption | trivial | rfl))
        · exact ok_s (show FA f_t_forms from by first | omega | assumption | trivial | (refine ⟨?_, ?_⟩ <;> first | omega | assumption | trivial | rfl) | (refine ⟨?_, ?_, ?_⟩ <;> first | omega | assumption | trivial | rfl) | (refine ⟨?_, ?_, ?_, ?_⟩ <;> first | omega | assumption | trivial | rfl) | (refine ⟨?_, ?_, ?_, ?_, ?_⟩ <;> first | omega | assumption | trivial | rfl) | (refine ⟨?_, ?_, ?_, ?_, ?_, ?_⟩ <;> first | omega | assumption | trivial | rfl) | (refine ⟨?_, ?_, ?_, ?_, ?_, ?_, ?_⟩ <;> first | omega | assumption | trivial | rfl) | (refine ⟨?_, ?_, ?_, ?_, ?_, ?_, ?_, ?_⟩ <;> first | omega | assumption | trivial | rfl))
      · refine ok_le (fun c68 => ?_) (fun c68 => ?_)
        · first | unfold J_X9_burst_36 | skip
          refine ok_o2 (sp_X9_isThrown (1 : Int32) (0 : Int32) ) (fun r36_5 c_t_thrown_36_5 h69 => ?_)
          have h69 : (r36_5.toInt = 0 ∧ c_t_thrown_36_5.toInt = 0 ∧ (1 : Int32).toInt = 0 ∧ (0 : Int32).toInt = 0) ∨ (r36_5.toInt = 1 ∧ c_t_thrown_36_5.toInt = 1 ∧ (1 : Int32).toInt ≠ 0) ∨ (r36_5.toInt = 1 ∧ c_t_thrown_36_5.toInt = 2 ∧ (1 : Int32).toInt = 0 ∧ (0 : Int32).toInt ≠ 0) := h69
          refine ok_eq (fun c70 => ?_) (fun c70 => ?_)
          · refine ok_le (fun c71 => ?_) (fun c71 => ?_)
            · first | unfold J_X9_burst_65 | skip
              refine ok_c (ixo (by omega) (by omega)) ?_
              refine ok_c (ixo (by omega) (by omega)) ?_
              try have a72 := FA_at (f := f_t_forms) (by assumption) p0.toNatClampNeg
              have hz : DG p2.toInt64 + p1.toInt ≤ 39 := by first | omega | (rw [DG_i0 (by omega)]; omega)
              have hx : DG ((f_t_forms p0.toNatClampNeg) ^^^ (p2.toInt64 <<< (p1.toInt64 &&& 63))) ≤ 39 := DG_xor (by omega) (DG_shlx (by omega) (by omega) hz (by decide) (by decide))
              refine ok_bx (fun f_t_forms_77_9 e_f_t_forms_77_9 => ?_)
              try have t_f_t_forms_77_9 : FA f_t_forms_77_9 := by rw [e_f_t_forms_77_9]; exact FA_upd (by first | assumption | exact FA_0) _ (by first | omega | assumption | trivial)
              refine ok_c (ixo (by omega) (by omega)) ?_
              try have a73 := FA_at (f := f_t_forms_77_9) (by assumption) p0.toNatClampNeg
              refine ok_o (sp_X9_onesOf (f_t_forms_77_9 p0.toNatClampNeg) ) (fun r85_9 h74 => ?_)
              have h74 : 0 ≤ r85_9.toInt ∧ r85_9.toInt ≤ 127 := h74
              refine ok_o2 (sp_X9_done c_t_acts r85_9 ) (fun r88_9 c_t_acts_88_9 h75 => ?_)
              exact ok_s (show FA f_t_forms_77_9 from by first | omega | assumption | trivial | (refine ⟨?_, ?_⟩ <;> first | omega | assumption | trivial | rfl) | (refine ⟨?_, ?_, ?_⟩ <;> first | omega | assumption | trivial | rfl) | (refine ⟨?_, ?_, ?_, ?_⟩ <;> first | omega | assumption | trivial | rfl) | (refine ⟨?_, ?_, ?_, ?_, ?_⟩ <;> first | omega | assumption | trivial | rfl) | (refine ⟨?_, ?_, ?_, ?_, ?_, ?_⟩ <;> first | omega | assumption | trivial | rfl) | (refine ⟨?_, ?_, ?_, ?_, ?_, ?_, ?_⟩ <;> first | omega | assumption | trivial | rfl) | (refine ⟨?_, ?_, ?_, ?_, ?_, ?_, ?_, ?_⟩ <;> first | omega | assumption | trivial | rfl))
            · refine ok_o (sp_X9_degreeOf p2.toInt64 ) (fun r50_5 h76 => ?_)
              have h76 : r50_5.toInt = DG p2.toInt64 ∧ -1 ≤ r50_5.toInt ∧ r50_5.toInt ≤ 63 := h76
              obtain ⟨w77, e_w77⟩ : ∃ w : Int32, w = r50_5 + p1 := ⟨_, rfl⟩
              try have t_w77 : w77.toInt = r50_5.toInt + p1.toInt := by rw [e_w77]; exact addT1 (Eq.refl _) (by omega) (by omega)
              try rw [← e_w77]
              refine ok_lt (fun c78 => ?_) (fun c78 => ?_)
              · first | unfold J_X9_burst_65 | skip
                try rw [← e_w77]
                refine ok_c (ixo (by omega) (by omega)) ?_
                refine ok_c (ixo (by omega) (by omega)) ?_
                try have a79 := FA_at (f := f_t_forms) (by assumption) p0.toNatClampNeg
                have hz : DG p2.toInt64 + p1.toInt ≤ 39 := by first | omega | (rw [DG_i0 (by omega)]; omega)
                have hx : DG ((f_t_forms p0.toNatClampNeg) ^^^ (p2.toInt64 <<< (p1.toInt64 &&& 63))) ≤ 39 := DG_xor (by omega) (DG_shlx (by omega) (by omega) hz (by decide) (by decide))
                refine ok_bx (fun f_t_forms_77_10 e_f_t_forms_77_10 => ?_)
                try have t_f_t_forms_77_10 : FA f_t_forms_77_10 := by rw [e_f_t_forms_77_10]; exact FA_upd (by first | assumption | exact FA_0) _ (by first | omega | assumption | trivial)
                refine ok_c (ixo (by omega) (by omega)) ?_
                try have a80 := FA_at (f := f_t_forms_77_10) (by assumption) p0.toNatClampNeg
                refine ok_o (sp_X9_onesOf (f_t_forms_77_10 p0.toNatClampNeg) ) (fun r85_10 h81 => ?_)
                have h81 : 0 ≤ r85_10.toInt ∧ r85_10.toInt ≤ 127 := h81
                refine ok_o2 (sp_X9_done c_t_acts r85_10 ) (fun r88_10 c_t_acts_88_10 h82 => ?_)
                exact ok_s (show FA f_t_forms_77_10 from by first | omega | assumption | trivial | (refine ⟨?_, ?_⟩ <;> first | omega | assumption | trivial | rfl) | (refine ⟨?_, ?_, ?_⟩ <;> first | omega | assumption | trivial | rfl) | (refine ⟨?_, ?_, ?_, ?_⟩ <;> first | omega | assumption | trivial | rfl) | (refine ⟨?_, ?_, ?_, ?_, ?_⟩ <;> first | omega | assumption | trivial | rfl) | (refine ⟨?_, ?_, ?_, ?_, ?_, ?_⟩ <;> first | omega | assumption | trivial | rfl) | (refine ⟨?_, ?_, ?_, ?_, ?_, ?_, ?_⟩ <;> first | omega | assumption | trivial | rfl) | (refine ⟨?_, ?_, ?_, ?_, ?_, ?_, ?_, ?_⟩ <;> first | omega | assumption | trivial | rfl))
              · refine ok_o2 (sp_X9_no c_t_refused ) (fun r61_5 c_t_refused_61_5 h83 => ?_)
                exact ok_s (show FA f_t_forms from by first | omega | assumption | trivial | (refine ⟨?_, ?_⟩ <;> first | omega | assumption | trivial | rfl) | (refine ⟨?_, ?_, ?_⟩ <;> first | omega | assumption | trivial | rfl) | (refine ⟨?_, ?_, ?_, ?_⟩ <;> first | omega | assumption | trivial | rfl) | (refine ⟨?_, ?_, ?_, ?_, ?_⟩ <;> first | omega | assumption | trivial | rfl) | (refine ⟨?_, ?_, ?_, ?_, ?_, ?_⟩ <;> first | omega | assumption | trivial | rfl) | (refine ⟨?_, ?_, ?_, ?_, ?_, ?_, ?_⟩ <;> first | omega | assumption | trivial | rfl) | (refine ⟨?_, ?_, ?_, ?_, ?_, ?_, ?_, ?_⟩ <;> first | omega | assumption | trivial | rfl))
          · exact ok_s (show FA f_t_forms from by first | omega | assumption | trivial | (refine ⟨?_, ?_⟩ <;> first | omega | assumption | trivial | rfl) | (refine ⟨?_, ?_, ?_⟩ <;> first | omega | assumption | trivial | rfl) | (refine ⟨?_, ?_, ?_, ?_⟩ <;> first | omega | assumption | trivial | rfl) | (refine ⟨?_, ?_, ?_, ?_, ?_⟩ <;> first | omega | assumption | trivial | rfl) | (refine ⟨?_, ?_, ?_, ?_, ?_, ?_⟩ <;> first | omega | assumption | trivial | rfl) | (refine ⟨?_, ?_, ?_, ?_, ?_, ?_, ?_⟩ <;> first | omega | assumption | trivial | rfl) | (refine ⟨?_, ?_, ?_, ?_, ?_, ?_, ?_, ?_⟩ <;> first | omega | assumption | trivial | rfl))
        · first | unfold J_X9_burst_31 | skip
          first | unfold J_X9_burst_36 | skip
          refine ok_o2 (sp_X9_isThrown (1 : Int32) (1 : Int32) ) (fun r36_6 c_t_thrown_36_6 h84 => ?_)
          have h84 : (r36_6.toInt = 0 ∧ c_t_thrown_36_6.toInt = 0 ∧ (1 : Int32).toInt = 0 ∧ (1 : Int32).toInt = 0) ∨ (r36_6.toInt = 1 ∧ c_t_thrown_36_6.toInt = 1 ∧ (1 : Int32).toInt ≠ 0) ∨ (r36_6.toInt = 1 ∧ c_t_thrown_36_6.toInt = 2 ∧ (1 : Int32).toInt = 0 ∧ (1 : Int32).toInt ≠ 0) := h84
          refine ok_eq (fun c85 => ?_) (fun c85 => ?_)
          · refine ok_le (fun c86 => ?_) (fun c86 => ?_)
            · first | unfold J_X9_burst_65 | skip
              refine ok_c (ixo (by omega) (by omega)) ?_
              refine ok_c (ixo (by omega) (by omega)) ?_
              try have a87 := FA_at (f := f_t_forms) (by assumption) p0.toNatClampNeg
              have hz : DG p2.toInt64 + p1.toInt ≤ 39 := by first | omega | (rw [DG_i0 (by omega)]; omega)
              have hx : DG ((f_t_forms p0.toNatClampNeg) ^^^ (p2.toInt64 <<< (p1.toInt64 &&& 63))) ≤ 39 := DG_xor (by omega) (DG_shlx (by omega) (by omega) hz (by decide) (by decide))
              refine ok_bx (fun f_t_forms_77_11 e_f_t_forms_77_11 => ?_)
              try have t_f_t_forms_77_11 : FA f_t_forms_77_11 := by rw [e_f_t_forms_77_11]; exact FA_upd (by first | assumption | exact FA_0) _ (by first | omega | assumption | trivial)
              refine ok_c (ixo (by omega) (by omega)) ?_
              try have a88 := FA_at (f := f_t_forms_77_11) (by assumption) p0.toNatClampNeg
              refine ok_o (sp_X9_onesOf (f_t_forms_77_11 p0.toNatClampNeg) ) (fun r85_11 h89 => ?_)
              have h89 : 0 ≤ r85_11.toInt ∧ r85_11.toInt ≤ 127 := h89
              refine ok_o2 (sp_X9_done c_t_acts r85_11 ) (fun r88_11 c_t_acts_88_11 h90 => ?_)
              exact ok_s (show FA f_t_forms_77_11 from by first | omega | assumption | trivial | (refine ⟨?_, ?_⟩ <;> first | omega | assumption | trivial | rfl) | (refine ⟨?_, ?_, ?_⟩ <;> first | omega | assumption | trivial | rfl) | (refine ⟨?_, ?_, ?_, ?_⟩ <;> first | omega | assumption | trivial | rfl) | (refine ⟨?_, ?_, ?_, ?_, ?_⟩ <;> first | omega | assumption | trivial | rfl) | (refine ⟨?_, ?_, ?_, ?_, ?_, ?_⟩ <;> first | omega | assumption | trivial | rfl) | (refine ⟨?_, ?_, ?_, ?_, ?_, ?_, ?_⟩ <;> first | omega | assumption | trivial | rfl) | (refine ⟨?_, ?_, ?_, ?_, ?_, ?_, ?_, ?_⟩ <;> first | omega | assumption | trivial | rfl))
            · refine ok_o (sp_X9_degreeOf p2.toInt64 ) (fun r50_6 h91 => ?_)
              have h91 : r50_6.toInt = DG p2.toInt64 ∧ -1 ≤ r50_6.toInt ∧ r50_6.toInt ≤ 63 := h91
              obtain ⟨w92, e_w92⟩ : ∃ w : Int32, w = r50_6 + p1 := ⟨_, rfl⟩
              try have t_w92 : w92.toInt = r50_6.toInt + p1.toInt := by rw [e_w92]; exact addT1 (Eq.refl _) (by omega) (by omega)
              try rw [← e_w92]
              refine ok_lt (fun c93 => ?_) (fun c93 => ?_)
              · first | unfold J_X9_burst_65 | skip
                try rw [← e_w92]
                refine ok_c (ixo (by omega) (by omega)) ?_
                refine ok_c (ixo (by omega) (by omega)) ?_
                try have a94 := FA_at (f := f_t_forms) (by assumption) p0.toNatClampNeg
                have hz : DG p2.toInt64 + p1.toInt ≤ 39 := by first | omega | (rw [DG_i0 (by omega)]; omega)
                have hx : DG ((f_t_forms p0.toNatClampNeg) ^^^ (p2.toInt64 <<< (p1.toInt64 &&& 63))) ≤ 39 := DG_xor (by omega) (DG_shlx (by omega) (by omega) hz (by decide) (by decide))
                refine ok_bx (fun f_t_forms_77_12 e_f_t_forms_77_12 => ?_)
                try have t_f_t_forms_77_12 : FA f_t_forms_77_12 := by rw [e_f_t_forms_77_12]; exact FA_upd (by first | assumption | exact FA_0) _ (by first | omega | assumption | trivial)
                refine ok_c (ixo (by omega) (by omega)) ?_
                try have a95 := FA_at (f := f_t_forms_77_12) (by assumption) p0.toNatClampNeg
                refine ok_o (sp_X9_onesOf (f_t_forms_77_12 p0.toNatClampNeg) ) (fun r85_12 h96 => ?_)
                have h96 : 0 ≤ r85_12.toInt ∧ r85_12.toInt ≤ 127 := h96
                refine ok_o2 (sp_X9_done c_t_acts r85_12 ) (fun r88_12 c_t_acts_88_12 h97 => ?_)
                exact ok_s (show FA f_t_forms_77_12 from by first | omega | assumption | trivial | (refine ⟨?_, ?_⟩ <;> first | omega | assumption | trivial | rfl) | (refine ⟨?_, ?_, ?_⟩ <;> first | omega | assumption | trivial | rfl) | (refine ⟨?_, ?_, ?_, ?_⟩ <;> first | omega | assumption | trivial | rfl) | (refine ⟨?_, ?_, ?_, ?_, ?_⟩ <;> first | omega | assumption | trivial | rfl) | (refine ⟨?_, ?_, ?_, ?_, ?_, ?_⟩ <;> first | omega | assumption | trivial | rfl) | (refine ⟨?_, ?_, ?_, ?_, ?_, ?_, ?_⟩ <;> first | omega | assumption | trivial | rfl) | (refine ⟨?_, ?_, ?_, ?_, ?_, ?_, ?_, ?_⟩ <;> first | omega | assumption | trivial | rfl))
              · refine ok_o2 (sp_X9_no c_t_refused ) (fun r61_6 c_t_refused_61_6 h98 => ?_)
                exact ok_s (show FA f_t_forms from by first | omega | assumption | trivial | (refine ⟨?_, ?_⟩ <;> first | omega | assumption | trivial | rfl) | (refine ⟨?_, ?_, ?_⟩ <;> first | omega | assumption | trivial | rfl) | (refine ⟨?_, ?_, ?_, ?_⟩ <;> first | omega | assumption | trivial | rfl) | (refine ⟨?_, ?_, ?_, ?_, ?_⟩ <;> first | omega | assumption | trivial | rfl) | (refine ⟨?_, ?_, ?_, ?_, ?_, ?_⟩ <;> first | omega | assumption | trivial | rfl) | (refine ⟨?_, ?_, ?_, ?_, ?_, ?_, ?_⟩ <;> first | omega | assumption | trivial | rfl) | (refine ⟨?_, ?_, ?_, ?_, ?_, ?_, ?_, ?_⟩ <;> first | omega | assumption | trivial | rfl))
          · exact ok_s (show FA f_t_forms from by first | omega | assumption | trivial | (refine ⟨?_, ?_⟩ <;> first | omega | assumption | trivial | rfl) | (refine ⟨?_, ?_, ?_⟩ <;> first | omega | assumption | trivial | rfl) | (refine ⟨?_, ?_, ?_, ?_⟩ <;> first | omega | assumption | trivial | rfl) | (refine ⟨?_, ?_, ?_, ?_, ?_⟩ <;> first | omega | assumption | trivial | rfl) | (refine ⟨?_, ?_, ?_, ?_, ?_, ?_⟩ <;> first | omega | assumption | trivial | rfl) | (refine ⟨?_, ?_, ?_, ?_, ?_, ?_, ?_⟩ <;> first | omega | assumption | trivial | rfl) | (refine ⟨?_, ?_, ?_, ?_, ?_, ?_, ?_, ?_⟩ <;> first | omega | assumption | trivial | rfl))
    · first | unfold J_X9_burst_20 | skip
      refine ok_lt (fun c99 => ?_) (fun c99 => ?_)
      · first | unfold J_X9_burst_31 | skip
        first | unfold J_X9_burst_36 | skip
        refine ok_o2 (sp_X9_isThrown (0 : Int32) (1 : Int32) ) (fun r36_7 c_t_thrown_36_7 h100 => ?_)
        have h100 : (r36_7.toInt = 0 ∧ c_t_thrown_36_7.toInt = 0 ∧ (0 : Int32).toInt = 0 ∧ (1 : Int32).toInt = 0) ∨ (r36_7.toInt = 1 ∧ c_t_thrown_36_7.toInt = 1 ∧ (0 : Int32).toInt ≠ 0) ∨ (r36_7.toInt = 1 ∧ c_t_thrown_36_7.toInt = 2 ∧ (0 : Int32).toInt = 0 ∧ (1 : Int32).toInt ≠ 0) := h100
        refine ok_eq (fun c101 => ?_) (fun c101 => ?_)
        · refine ok_le (fun c102 => ?_) (fun c102 => ?_)
          · first | unfold J_X9_burst_65 | skip
            refine ok_c (ixo (by omega) (by omega)) ?_
            refine ok_c (ixo (by omega) (by omega)) ?_
            try have a103 := FA_at (f := f_t_forms) (by assumption) p0.toNatClampNeg
            have hz : DG p2.toInt64 + p1.toInt ≤ 39 := by first | omega | (rw [DG_i0 (by omega)]; omega)
            have hx : DG ((f_t_forms p0.toNatClampNeg) ^^^ (p2.toInt64 <<< (p1.toInt64 &&& 63))) ≤ 39 := DG_xor (by omega) (DG_shlx (by omega) (by omega) hz (by decide) (by decide))
            refine ok_bx (fun f_t_forms_77_13 e_f_t_forms_77_13 => ?_)
            try have t_f_t_forms_77_13 : FA f_t_forms_77_13 := by rw [e_f_t_forms_77_13]; exact FA_upd (by first | assumption | exact FA_0) _ (by first | omega | assumption | trivial)
            refine ok_c (ixo (by omega) (by omega)) ?_
            try have a104 := FA_at (f := f_t_forms_77_13) (by assumption) p0.toNatClampNeg
            refine ok_o (sp_X9_onesOf (f_t_forms_77_13 p0.toNatClampNeg) ) (fun r85_13 h105 => ?_)
            have h105 : 0 ≤ r85_13.toInt ∧ r85_13.toInt ≤ 127 := h105
            refine ok_o2 (sp_X9_done c_t_acts r85_13 ) (fun r88_13 c_t_acts_88_13 h106 => ?_)
            exact ok_s (show FA f_t_forms_77_13 from by first | omega | assumption | trivial | (refine ⟨?_, ?_⟩ <;> first | omega | assumption | trivial | rfl) | (refine ⟨?_, ?_, ?_⟩ <;> first | omega | assumption | trivial | rfl) | (refine ⟨?_, ?_, ?_, ?_⟩ <;> first | omega | assumption | trivial | rfl) | (refine ⟨?_, ?_, ?_, ?_, ?_⟩ <;> first | omega | assumption | trivial | rfl) | (refine ⟨?_, ?_, ?_, ?_, ?_, ?_⟩ <;> first | omega | assumption | trivial | rfl) | (refine ⟨?_, ?_, ?_, ?_, ?_, ?_, ?_⟩ <;> first | omega | assumption | trivial | rfl) | (refine ⟨?_, ?_, ?_, ?_, ?_, ?_, ?_, ?_⟩ <;> first | omega | assumption | trivial | rfl))
          · refine ok_o (sp_X9_degreeOf p2.toInt64 ) (fun r50_7 h107 => ?_)
            have h107 : r50_7.toInt = DG p2.toInt64 ∧ -1 ≤ r50_7.toInt ∧ r50_7.toInt ≤ 63 := h107
            obtain ⟨w108, e_w108⟩ : ∃ w : Int32, w = r50_7 + p1 := ⟨_, rfl⟩
            try have t_w108 : w108.toInt = r50_7.toInt + p1.toInt := by rw [e_w108]; exact addT1 (Eq.refl _) (by omega) (by omega)
            try rw [← e_w108]
            refine ok_lt (fun c109 => ?_) (fun c109 => ?_)
            · first | unfold J_X9_burst_65 | skip
              try rw [← e_w108]
              refine ok_c (ixo (by omega) (by omega)) ?_
              refine ok_c (ixo (by omega) (by omega)) ?_
              try have a110 := FA_at (f := f_t_forms) (by assumption) p0.toNatClampNeg
              have hz : DG p2.toInt64 + p1.toInt ≤ 39 := by first | omega | (rw [DG_i0 (by omega)]; omega)
              have hx : DG ((f_t_forms p0.toNatClampNeg) ^^^ (p2.toInt64 <<< (p1.toInt64 &&& 63))) ≤ 39 := DG_xor (by omega) (DG_shlx (by omega) (by omega) hz (by decide) (by decide))
              refine ok_bx (fun f_t_forms_77_14 e_f_t_forms_77_14 => ?_)
              try have t_f_t_forms_77_14 : FA f_t_forms_77_14 := by rw [e_f_t_forms_77_14]; exact FA_upd (by first | assumption | exact FA_0) _ (by first | omega | assumption | trivial)
              refine ok_c (ixo (by omega) (by omega)) ?_
              try have a111 := FA_at (f := f_t_forms_77_14) (by assumption) p0.toNatClampNeg
              refine ok_o (sp_X9_onesOf (f_t_forms_77_14 p0.toNatClampNeg) ) (fun r85_14 h112 => ?_)
              have h112 : 0 ≤ r85_14.toInt ∧ r85_14.toInt ≤ 127 := h112
              refine ok_o2 (sp_X9_done c_t_acts r85_14 ) (fun r88_14 c_t_acts_88_14 h113 => ?_)
              exact ok_s (show FA f_t_forms_77_14 from by first | omega | assumption | trivial | (refine ⟨?_, ?_⟩ <;> first | omega | assumption | trivial | rfl) | (refine ⟨?_, ?_, ?_⟩ <;> first | omega | assumption | trivial | rfl) | (refine ⟨?_, ?_, ?_, ?_⟩ <;> first | omega | assumption | trivial | rfl) | (refine ⟨?_, ?_, ?_, ?_, ?_⟩ <;> first | omega | assumption | trivial | rfl) | (refine ⟨?_, ?_, ?_, ?_, ?_, ?_⟩ <;> first | omega | assumption | trivial | rfl) | (refine ⟨?_, ?_, ?_, ?_, ?_, ?_, ?_⟩ <;> first | omega | assumption | trivial | rfl) | (refine ⟨?_, ?_, ?_, ?_, ?_, ?_, ?_, ?_⟩ <;> first | omega | assumption | trivial | rfl))
            · refine ok_o2 (sp_X9_no c_t_refused ) (fun r61_7 c_t_refused_61_7 h114 => ?_)
              exact ok_s (show FA f_t_forms from by first | omega | assumption | trivial | (refine ⟨?_, ?_⟩ <;> first | omega | assumption | trivial | rfl) | (refine ⟨?_, ?_, ?_⟩ <;> first | omega | assumption | trivial | rfl) | (refine ⟨?_, ?_, ?_, ?_⟩ <;> first | omega | assumption | trivial | rfl) | (refine ⟨?_, ?_, ?_, ?_, ?_⟩ <;> first | omega | assumption | trivial | rfl) | (refine ⟨?_, ?_, ?_, ?_, ?_, ?_⟩ <;> first | omega | assumption | trivial | rfl) | (refine ⟨?_, ?_, ?_, ?_, ?_, ?_, ?_⟩ <;> first | omega | assumption | trivial | rfl) | (refine ⟨?_, ?_, ?_, ?_, ?_, ?_, ?_, ?_⟩ <;> first | omega | assumption | trivial | rfl))
        · exact ok_s (show FA f_t_forms from by first | omega | assumption | trivial | (refine ⟨?_, ?_⟩ <;> first | omega | assumption | trivial | rfl) | (refine ⟨?_, ?_, ?_⟩ <;> first | omega | assumption | trivial | rfl) | (refine ⟨?_, ?_, ?_, ?_⟩ <;> first | omega | assumption | trivial | rfl) | (refine ⟨?_, ?_, ?_, ?_, ?_⟩ <;> first | omega | assumption | trivial | rfl) | (refine ⟨?_, ?_, ?_, ?_, ?_, ?_⟩ <;> first | omega | assumption | trivial | rfl) | (refine ⟨?_, ?_, ?_, ?_, ?_, ?_, ?_⟩ <;> first | omega | assumption | trivial | rfl) | (refine ⟨?_, ?_, ?_, ?_, ?_, ?_, ?_, ?_⟩ <;> first | omega | assumption | trivial | rfl))
      · refine ok_le (fun c115 => ?_) (fun c115 => ?_)
        · first | unfold J_X9_burst_36 | skip
          refine ok_o2 (sp_X9_isThrown (0 : Int32) (0 : Int32) ) (fun r36_8 c_t_thrown_36_8 h116 => ?_)
          have h116 : (r36_8.toInt = 0 ∧ c_t_thrown_36_8.toInt = 0 ∧ (0 : Int32).toInt = 0 ∧ (0 : Int32).toInt = 0) ∨ (r36_8.toInt = 1 ∧ c_t_thrown_36_8.toInt = 1 ∧ (0 : Int32).toInt ≠ 0) ∨ (r36_8.toInt = 1 ∧ c_t_thrown_36_8.toInt = 2 ∧ (0 : Int32).toInt = 0 ∧ (0 : Int32).toInt ≠ 0) := h116
          refine ok_eq (fun c117 => ?_) (fun c117 => ?_)
          · refine ok_le (fun c118 => ?_) (fun c118 => ?_)
            · first | unfold J_X9_burst_65 | skip
              refine ok_c (ixo (by omega) (by omega)) ?_
              refine ok_c (ixo (by omega) (by omega)) ?_
              try have a119 := FA_at (f := f_t_forms) (by assumption) p0.toNatClampNeg
              have hz : DG p2.toInt64 + p1.toInt ≤ 39 := by first | omega | (rw [DG_i0 (by omega)]; omega)
              have hx : DG ((f_t_forms p0.toNatClampNeg) ^^^ (p2.toInt64 <<< (p1.toInt64 &&& 63))) ≤ 39 := DG_xor (by omega) (DG_shlx (by omega) (by omega) hz (by decide) (by decide))
              refine ok_bx (fun f_t_forms_77_15 e_f_t_forms_77_15 => ?_)
              try have t_f_t_forms_77_15 : FA f_t_forms_77_15 := by rw [e_f_t_forms_77_15]; exact FA_upd (by first | assumption | exact FA_0) _ (by first | omega | assumption | trivial)
              refine ok_c (ixo (by omega) (by omega)) ?_
              try have a120 := FA_at (f := f_t_forms_77_15) (by assumption) p0.toNatClampNeg
              refine ok_o (sp_X9_onesOf (f_t_forms_77_15 p0.toNatClampNeg) ) (fun r85_15 h121 => ?_)
              have h121 : 0 ≤ r85_15.toInt ∧ r85_15.toInt ≤ 127 := h121
              refine ok_o2 (sp_X9_done c_t_acts r85_15 ) (fun r88_15 c_t_acts_88_15 h122 => ?_)
              exact ok_s (show FA f_t_forms_77_15 from by first | omega | assumption | trivial | (refine ⟨?_, ?_⟩ <;> first | omega | assumption | trivial | rfl) | (refine ⟨?_, ?_, ?_⟩ <;> first | omega | assumption | trivial | rfl) | (refine ⟨?_, ?_, ?_, ?_⟩ <;> first | omega | assumption | trivial | rfl) | (refine ⟨?_, ?_, ?_, ?_, ?_⟩ <;> first | omega | assumption | trivial | rfl) | (refine ⟨?_, ?_, ?_, ?_, ?_, ?_⟩ <;> first | omega | assumption | trivial | rfl) | (refine ⟨?_, ?_, ?_, ?_, ?_, ?_, ?_⟩ <;> first | omega | assumption | trivial | rfl) | (refine ⟨?_, ?_, ?_, ?_, ?_, ?_, ?_, ?_⟩ <;> first | omega | assumption | trivial | rfl))
            · refine ok_o (sp_X9_degreeOf p2.toInt64 ) (fun r50_8 h123 => ?_)
              have h123 : r50_8.toInt = DG p2.toInt64 ∧ -1 ≤ r50_8.toInt ∧ r50_8.toInt ≤ 63 := h123
              obtain ⟨w124, e_w124⟩ : ∃ w : Int32, w = r50_8 + p1 := ⟨_, rfl⟩
              try have t_w124 : w124.toInt = r50_8.toInt + p1.toInt := by rw [e_w124]; exact addT1 (Eq.refl _) (by omega) (by omega)
              try rw [← e_w124]
              refine ok_lt (fun c125 => ?_) (fun c125 => ?_)
              · first | unfold J_X9_burst_65 | skip
                try rw [← e_w124]
                refine ok_c (ixo (by omega) (by omega)) ?_
                refine ok_c (ixo (by omega) (by omega)) ?_
                try have a126 := FA_at (f := f_t_forms) (by assumption) p0.toNatClampNeg
                have hz : DG p2.toInt64 + p1.toInt ≤ 39 := by first | omega | (rw [DG_i0 (by omega)]; omega)
                have hx : DG ((f_t_forms p0.toNatClampNeg) ^^^ (p2.toInt64 <<< (p1.toInt64 &&& 63))) ≤ 39 := DG_xor (by omega) (DG_shlx (by omega) (by omega) hz (by decide) (by decide))
                refine ok_bx (fun f_t_forms_77_16 e_f_t_forms_77_16 => ?_)
                try have t_f_t_forms_77_16 : FA f_t_forms_77_16 := by rw [e_f_t_forms_77_16]; exact FA_upd (by first | assumption | exact FA_0) _ (by first | omega | assumption | trivial)
                refine ok_c (ixo (by omega) (by omega)) ?_
                try have a127 := FA_at (f := f_t_forms_77_16) (by assumption) p0.toNatClampNeg
                refine ok_o (sp_X9_onesOf (f_t_forms_77_16 p0.toNatClampNeg) ) (fun r85_16 h128 => ?_)
                have h128 : 0 ≤ r85_16.toInt ∧ r85_16.toInt ≤ 127 := h128
                refine ok_o2 (sp_X9_done c_t_acts r85_16 ) (fun r88_16 c_t_acts_88_16 h129 => ?_)
                exact ok_s (show FA f_t_forms_77_16 from by first | omega | assumption | trivial | (refine ⟨?_, ?_⟩ <;> first | omega | assumption | trivial | rfl) | (refine ⟨?_, ?_, ?_⟩ <;> first | omega | assumption | trivial | rfl) | (refine ⟨?_, ?_, ?_, ?_⟩ <;> first | omega | assumption | trivial | rfl) | (refine ⟨?_, ?_, ?_, ?_, ?_⟩ <;> first | omega | assumption | trivial | rfl) | (refine ⟨?_, ?_, ?_, ?_, ?_, ?_⟩ <;> first | omega | assumption | trivial | rfl) | (refine ⟨?_, ?_, ?_, ?_, ?_, ?_, ?_⟩ <;> first | omega | assumption | trivial | rfl) | (refine ⟨?_, ?_, ?_, ?_, ?_, ?_, ?_, ?_⟩ <;> first | omega | assumption | trivial | rfl))
              · refine ok_o2 (sp_X9_no c_t_refused ) (fun r61_8 c_t_refused_61_8 h130 => ?_)
                exact ok_s (show FA f_t_forms from by first | omega | assumption | trivial | (refine ⟨?_, ?_⟩ <;> first | omega | assumption | trivial | rfl) | (refine ⟨?_, ?_, ?_⟩ <;> first | omega | assumption | trivial | rfl) | (refine ⟨?_, ?_, ?_, ?_⟩ <;> first | omega | assumption | trivial | rfl) | (refine ⟨?_, ?_, ?_, ?_, ?_⟩ <;> first | omega | assumption | trivial | rfl) | (refine ⟨?_, ?_, ?_, ?_, ?_, ?_⟩ <;> first | omega | assumption | trivial | rfl) | (refine ⟨?_, ?_, ?_, ?_, ?_, ?_, ?_⟩ <;> first | omega | assumption | trivial | rfl) | (refine ⟨?_, ?_, ?_, ?_, ?_, ?_, ?_, ?_⟩ <;> first | omega | assumption | trivial | rfl))
          · exact ok_s (show FA f_t_forms from by first | omega | assumption | trivial | (refine ⟨?_, ?_⟩ <;> first | omega | assumption | trivial | rfl) | (refine ⟨?_, ?_, ?_⟩ <;> first | omega | assumption | trivial | rfl) | (refine ⟨?_, ?_, ?_, ?_⟩ <;> first | omega | assumption | trivial | rfl) | (refine ⟨?_, ?_, ?_, ?_, ?_⟩ <;> first | omega | assumption | trivial | rfl) | (refine ⟨?_, ?_, ?_, ?_, ?_, ?_⟩ <;> first | omega | assumption | trivial | rfl) | (refine ⟨?_, ?_, ?_, ?_, ?_, ?_, ?_⟩ <;> first | omega | assumption | trivial | rfl) | (refine ⟨?_, ?_, ?_, ?_, ?_, ?_, ?_, ?_⟩ <;> first | omega | assumption | trivial | rfl))
        · first | unfold J_X9_burst_31 | skip
          first | unfold J_X9_burst_36 | skip
          refine ok_o2 (sp_X9_isThrown (0 : Int32) (1 : Int32) ) (fun r36_9 c_t_thrown_36_9 h131 => ?_)
          have h131 : (r36_9.toInt = 0 ∧ c_t_thrown_36_9.toInt = 0 ∧ (0 : Int32).toInt = 0 ∧ (1 : Int32).toInt = 0) ∨ (r36_9.toInt = 1 ∧ c_t_thrown_36_9.toInt = 1 ∧ (0 : Int32).toInt ≠ 0) ∨ (r36_9.toInt = 1 ∧ c_t_thrown_36_9.toInt = 2 ∧ (0 : Int32).toInt = 0 ∧ (1 : Int32).toInt ≠ 0) := h131
          refine ok_eq (fun c132 => ?_) (fun c132 => ?_)
          · refine ok_le (fun c133 => ?_) (fun c133 => ?_)
            · first | unfold J_X9_burst_65 | skip
              refine ok_c (ixo (by omega) (by omega)) ?_
              refine ok_c (ixo (by omega) (by omega)) ?_
              try have a134 := FA_at (f := f_t_forms) (by assumption) p0.toNatClampNeg
              have hz : DG p2.toInt64 + p1.toInt ≤ 39 := by first | omega | (rw [DG_i0 (by omega)]; omega)
              have hx : DG ((f_t_forms p0.toNatClampNeg) ^^^ (p2.toInt64 <<< (p1.toInt64 &&& 63))) ≤ 39 := DG_xor (by omega) (DG_shlx (by omega) (by omega) hz (by decide) (by decide))
              refine ok_bx (fun f_t_forms_77_17 e_f_t_forms_77_17 => ?_)
              try have t_f_t_forms_77_17 : FA f_t_forms_77_17 := by rw [e_f_t_forms_77_17]; exact FA_upd (by first | assumption | exact FA_0) _ (by first | omega | assumption | trivial)
              refine ok_c (ixo (by omega) (by omega)) ?_
              try have a135 := FA_at (f := f_t_forms_77_17) (by assumption) p0.toNatClampNeg
              refine ok_o (sp_X9_onesOf (f_t_forms_77_17 p0.toNatClampNeg) ) (fun r85_17 h136 => ?_)
              have h136 : 0 ≤ r85_17.toInt ∧ r85_17.toInt ≤ 127 := h136
              refine ok_o2 (sp_X9_done c_t_acts r85_17 ) (fun r88_17 c_t_acts_88_17 h137 => ?_)
              exact ok_s (show FA f_t_forms_77_17 from by first | omega | assumption | trivial | (refine ⟨?_, ?_⟩ <;> first | omega | assumption | trivial | rfl) | (refine ⟨?_, ?_, ?_⟩ <;> first | omega | assumption | trivial | rfl) | (refine ⟨?_, ?_, ?_, ?_⟩ <;> first | omega | assumption | trivial | rfl) | (refine ⟨?_, ?_, ?_, ?_, ?_⟩ <;> first | omega | assumption | trivial | rfl) | (refine ⟨?_, ?_, ?_, ?_, ?_, ?_⟩ <;> first | omega | assumption | trivial | rfl) | (refine ⟨?_, ?_, ?_, ?_, ?_, ?_, ?_⟩ <;> first | omega | assumption | trivial | rfl) | (refine ⟨?_, ?_, ?_, ?_, ?_, ?_, ?_, ?_⟩ <;> first | omega | assumption | trivial | rfl))
            · refine ok_o (sp_X9_degreeOf p2.toInt64 ) (fun r50_9 h138 => ?_)
              have h138 : r50_9.toInt = DG p2.toInt64 ∧ -1 ≤ r50_9.toInt ∧ r50_9.toInt ≤ 63 := h138
              obtain ⟨w139, e_w139⟩ : ∃ w : Int32, w = r50_9 + p1 := ⟨_, rfl⟩
              try have t_w139 : w139.toInt = r50_9.toInt + p1.toInt := by rw [e_w139]; exact addT1 (Eq.refl _) (by omega) (by omega)
              try rw [← e_w139]
              refine ok_lt (fun c140 => ?_) (fun c140 => ?_)
              · first | unfold J_X9_burst_65 | skip
                try rw [← e_w139]
                refine ok_c (ixo (by omega) (by omega)) ?_
                refine ok_c (ixo (by omega) (by omega)) ?_
                try have a141 := FA_at (f := f_t_forms) (by assumption) p0.toNatClampNeg
                have hz : DG p2.toInt64 + p1.toInt ≤ 39 := by first | omega | (rw [DG_i0 (by omega)]; omega)
                have hx : DG ((f_t_forms p0.toNatClampNeg) ^^^ (p2.toInt64 <<< (p1.toInt64 &&& 63))) ≤ 39 := DG_xor (by omega) (DG_shlx (by omega) (by omega) hz (by decide) (by decide))
                refine ok_bx (fun f_t_forms_77_18 e_f_t_forms_77_18 => ?_)
                try have t_f_t_forms_77_18 : FA f_t_forms_77_18 := by rw [e_f_t_forms_77_18]; exact FA_upd (by first | assumption | exact FA_0) _ (by first | omega | assumption | trivial)
                refine ok_c (ixo (by omega) (by omega)) ?_
                try have a142 := FA_at (f := f_t_forms_77_18) (by assumption) p0.toNatClampNeg
                refine ok_o (sp_X9_onesOf (f_t_forms_77_18 p0.toNatClampNeg) ) (fun r85_18 h143 => ?_)
                have h143 : 0 ≤ r85_18.toInt ∧ r85_18.toInt ≤ 127 := h143
                refine ok_o2 (sp_X9_done c_t_acts r85_18 ) (fun r88_18 c_t_acts_88_18 h144 => ?_)
                exact ok_s (show FA f_t_forms_77_18 from by first | omega | assumption | trivial | (refine ⟨?_, ?_⟩ <;> first | omega | assumption | trivial | rfl) | (refine ⟨?_, ?_, ?_⟩ <;> first | omega | assumption | trivial | rfl) | (refine ⟨?_, ?_, ?_, ?_⟩ <;> first | omega | assumption | trivial | rfl) | (refine ⟨?_, ?_, ?_, ?_, ?_⟩ <;> first | omega | assumption | trivial | rfl) | (refine ⟨?_, ?_, ?_, ?_, ?_, ?_⟩ <;> first | omega | assumption | trivial | rfl) | (refine ⟨?_, ?_, ?_, ?_, ?_, ?_, ?_⟩ <;> first | omega | assumption | trivial | rfl) | (refine ⟨?_, ?_, ?_, ?_, ?_, ?_, ?_, ?_⟩ <;> first | omega | assumption | trivial | rfl))
              · refine ok_o2 (sp_X9_no c_t_refused ) (fun r61_9 c_t_refused_61_9 h145 => ?_)
                exact ok_s (show FA f_t_forms from by first | omega | assumption | trivial | (refine ⟨?_, ?_⟩ <;> first | omega | assumption | trivial | rfl) | (refine ⟨?_, ?_, ?_⟩ <;> first | omega | assumption | trivial | rfl) | (refine ⟨?_, ?_, ?_, ?_⟩ <;> first | omega | assumption | trivial | rfl) | (refine ⟨?_, ?_, ?_, ?_, ?_⟩ <;> first | omega | assumption | trivial | rfl) | (refine ⟨?_, ?_, ?_, ?_, ?_, ?_⟩ <;> first | omega | assumption | trivial | rfl) | (refine ⟨?_, ?_, ?_, ?_, ?_, ?_, ?_⟩ <;> first | omega | assumption | trivial | rfl) | (refine ⟨?_, ?_, ?_, ?_, ?_, ?_, ?_, ?_⟩ <;> first | omega | assumption | trivial | rfl))
          · exact ok_s (show FA f_t_forms from by first | omega | assumption | trivial | (refine ⟨?_, ?_⟩ <;> first | omega | assumption | trivial | rfl) | (refine ⟨?_, ?_, ?_⟩ <;> first | omega | assumption | trivial | rfl) | (refine ⟨?_, ?_, ?_, ?_⟩ <;> first | omega | assumption | trivial | rfl) | (refine ⟨?_, ?_, ?_, ?_, ?_⟩ <;> first | omega | assumption | trivial | rfl) | (refine ⟨?_, ?_, ?_, ?_, ?_, ?_⟩ <;> first | omega | assumption | trivial | rfl) | (refine ⟨?_, ?_, ?_, ?_, ?_, ?_, ?_⟩ <;> first | omega | assumption | trivial | rfl) | (refine ⟨?_, ?_, ?_, ?_, ?_, ?_, ?_, ?_⟩ <;> first | omega | assumption | trivial | rfl))
set_option maxHeartbeats 1000000 in
theorem sp_X9_factor (c_t_many : Int32) (c_t_acts : Int32) (c_t_refused : Int32) (c_t_thrown : Int32) (f_t_forms : Nat → Int64) (f_t_roll : Nat → Int64) (p0 : Int32) (p1 : Int32) (hp0 : 0 ≤ c_t_many.toInt) (hp1 : c_t_many.toInt ≤ 12) (hp2 : FA f_t_forms) (hp3 : FA f_t_roll) : ok (F_X9_factor c_t_many c_t_acts c_t_refused c_t_thrown f_t_forms f_t_roll p0 p1) (fun r => 0 ≤ r.2.1.toInt ∧ r.2.1.toInt ≤ 12 ∧ FA r.2.2.2.2.2) := by
  have l032 : (0 : Int32).toInt = 0 := by decide
  have l132 : (1 : Int32).toInt = 1 := by decide
  have l1032 : (10 : Int32).toInt = 10 := by decide
  unfold F_X9_factor
  refine ok_o (sp_X9_isForm p0 ) (fun r2 h1 => ?_)
  have h1 : (r2.toInt = 1 ∧ 0 ≤ p0.toInt ∧ p0.toInt ≤ 5) ∨ (r2.toInt = 0 ∧ (p0.toInt < 0 ∨ 6 ≤ p0.toInt)) := h1
  refine ok_eq (fun c2 => ?_) (fun c2 => ?_)
  · first | unfold J_X9_factor_13 | skip
    refine ok_lt (fun c3 => ?_) (fun c3 => ?_)
    · first | unfold J_X9_factor_22 | skip
      first | unfold J_X9_factor_27 | skip
      refine ok_o2 (sp_X9_isThrown (1 : Int32) (1 : Int32) ) (fun r27 c_t_thrown_27 h4 => ?_)
      have h4 : (r27.toInt = 0 ∧ c_t_thrown_27.toInt = 0 ∧ (1 : Int32).toInt = 0 ∧ (1 : Int32).toInt = 0) ∨ (r27.toInt = 1 ∧ c_t_thrown_27.toInt = 1 ∧ (1 : Int32).toInt ≠ 0) ∨ (r27.toInt = 1 ∧ c_t_thrown_27.toInt = 2 ∧ (1 : Int32).toInt = 0 ∧ (1 : Int32).toInt ≠ 0) := h4
      refine ok_eq (fun c5 => ?_) (fun c5 => ?_)
      · refine ok_c (ixo (by omega) (by omega)) ?_
        try have a6 := FA_at (f := f_t_forms) (by assumption) p0.toNatClampNeg
        refine ok_o (sp_X9_degreeOf (f_t_forms p0.toNatClampNeg) ) (fun r41 h7 => ?_)
        have h7 : r41.toInt = DG (f_t_forms p0.toNatClampNeg) ∧ -1 ≤ r41.toInt ∧ r41.toInt ≤ 63 := h7
        refine ok_lt (fun c8 => ?_) (fun c8 => ?_)
        · refine ok_o2 (sp_X9_no c_t_refused ) (fun r63 c_t_refused_63 h9 => ?_)
          exact ok_s (show 0 ≤ c_t_many.toInt ∧ c_t_many.toInt ≤ 12 ∧ FA f_t_roll from by first | omega | assumption | trivial | (refine ⟨?_, ?_⟩ <;> first | omega | assumption | trivial | rfl) | (refine ⟨?_, ?_, ?_⟩ <;> first | omega | assumption | trivial | rfl) | (refine ⟨?_, ?_, ?_, ?_⟩ <;> first | omega | assumption | trivial | rfl) | (refine ⟨?_, ?_, ?_, ?_, ?_⟩ <;> first | omega | assumption | trivial | rfl) | (refine ⟨?_, ?_, ?_, ?_, ?_, ?_⟩ <;> first | omega | assumption | trivial | rfl) | (refine ⟨?_, ?_, ?_, ?_, ?_, ?_, ?_⟩ <;> first | omega | assumption | trivial | rfl) | (refine ⟨?_, ?_, ?_, ?_, ?_, ?_, ?_, ?_⟩ <;> first | omega | assumption | trivial | rfl))
        · refine ok_c (ixo (by omega) (by omega)) ?_
          try have a10 := FA_at (f := f_t_forms) (by assumption) p0.toNatClampNeg
          refine ok_o (sp_X9_degreeOf (f_t_forms p0.toNatClampNeg) ) (fun r54 h11 => ?_)
          have h11 : r54.toInt = DG (f_t_forms p0.toNatClampNeg) ∧ -1 ≤ r54.toInt ∧ r54.toInt ≤ 63 := h11
          refine ok_le (fun c12 => ?_) (fun c12 => ?_)
          · refine ok_c (ixo (by omega) (by omega)) ?_
            try have a13 := FA_at (f := f_t_forms) (by assumption) p0.toNatClampNeg
            refine ok_bx (fun x3_78 e_x3_78 => ?_)
            try have q_x3_78 : DG x3_78 = DG (f_t_forms p0.toNatClampNeg) := by rw [e_x3_78]
            try have d_x3_78 : -1 ≤ DG x3_78 ∧ DG x3_78 ≤ 39 := by rw [e_x3_78]; exact FA_at (by assumption) _
            refine ok_L3 (fun y3_79 c_t_many_79 f_t_roll_79 => 0 ≤ DG y3_79 ∧ 0 ≤ c_t_many_79.toInt ∧ c_t_many_79.toInt + DG y3_79 ≤ 10 ∧ FA f_t_roll_79) (fun y3_79 c_t_many_79 f_t_roll_79 => (DG y3_79).toNat) (fun ih79 y3_79 c_t_many_79 f_t_roll_79 hI14 hih14 => ?_) 20000 x3_78 (0 : Int32) f_t_roll (show 0 ≤ DG x3_78 ∧ 0 ≤ (0 : Int32).toInt ∧ (0 : Int32).toInt + DG x3_78 ≤ 10 ∧ FA f_t_roll from by first | omega | assumption | trivial | (refine ⟨?_, ?_⟩ <;> first | omega | assumption | trivial | rfl) | (refine ⟨?_, ?_, ?_⟩ <;> first | omega | assumption | trivial | rfl) | (refine ⟨?_, ?_, ?_, ?_⟩ <;> first | omega | assumption | trivial | rfl) | (refine ⟨?_, ?_, ?_, ?_, ?_⟩ <;> first | omega | assumption | trivial | rfl) | (refine ⟨?_, ?_, ?_, ?_, ?_, ?_⟩ <;> first | omega | assumption | trivial | rfl) | (refine ⟨?_, ?_, ?_, ?_, ?_, ?_, ?_⟩ <;> first | omega | assumption | trivial | rfl) | (refine ⟨?_, ?_, ?_, ?_, ?_, ?_, ?_, ?_⟩ <;> first | omega | assumption | trivial | rfl)) (show (DG x3_78).toNat < 20000 from by omega)
            have hI14 : 0 ≤ DG y3_79 ∧ 0 ≤ c_t_many_79.toInt ∧ c_t_many_79.toInt + DG y3_79 ≤ 10 ∧ FA f_t_roll_79 := hI14
            obtain ⟨hI14_0, hI14_1, hI14_2, hI14_3⟩ := hI14
            unfold S_X9_factor_79
            refine ok_o (sp_X9_degreeOf y3_79 ) (fun r80 h15 => ?_)
            have h15 : r80.toInt = DG y3_79 ∧ -1 ≤ r80.toInt ∧ r80.toInt ≤ 63 := h15
            refine ok_le (fun c16 => ?_) (fun c16 => ?_)
            · refine ok_eq (fun c17 => ?_) (fun c17 => ?_)
              · refine ok_L2 (fun y3_132 f_t_roll_132 => 0 ≤ y3_132.toInt ∧ y3_132.toInt ≤ 12 ∧ FA f_t_roll_132) (fun y3_132 f_t_roll_132 => (c_t_many_79.toInt - y3_132.toInt + 1).toNat) (fun ih132 y3_132 f_t_roll_132 hI18 hih18 => ?_) 20000 (0 : Int32) f_t_roll_79 (show 0 ≤ (0 : Int32).toInt ∧ (0 : Int32).toInt ≤ 12 ∧ FA f_t_roll_79 from by first | omega | assumption | trivial | (refine ⟨?_, ?_⟩ <;> first | omega | assumption | trivial | rfl) | (refine ⟨?_, ?_, ?_⟩ <;> first | omega | assumption | trivial | rfl) | (refine ⟨?_, ?_, ?_, ?_⟩ <;> first | omega | assumption | trivial | rfl) | (refine ⟨?_, ?_, ?_, ?_, ?_⟩ <;> first | omega | assumption | trivial | rfl) | (refine ⟨?_, ?_, ?_, ?_, ?_, ?_⟩ <;> first | omega | assumption | trivial | rfl) | (refine ⟨?_, ?_, ?_, ?_, ?_, ?_, ?_⟩ <;> first | omega | assumption | trivial | rfl) | (refine ⟨?_, ?_, ?_, ?_, ?_, ?_, ?_, ?_⟩ <;> first | omega | assumption | trivial | rfl)) (show (c_t_many_79.toInt - (0 : Int32).toInt + 1).toNat < 20000 from by omega)
                have hI18 : 0 ≤ y3_132.toInt ∧ y3_132.toInt ≤ 12 ∧ FA f_t_roll_132 := hI18
                obtain ⟨hI18_0, hI18_1, hI18_2⟩ := hI18
                unfold S_X9_factor_132
                obtain ⟨w19, e_w19⟩ : ∃ w : Int32, w = c_t_many_79 - (1 : Int32) := ⟨_, rfl⟩
                try have t_w19 : w19.toInt = c_t_many_79.toInt - 1 := by rw [e_w19]; exact subT1 (show (1 : Int32).toInt = 1 from by decide) (by omega) (by omega)
                try rw [← e_w19]
                obtain ⟨w20, e_w20⟩ : ∃ w : Int32, w = w19 - y3_132 := ⟨_, rfl⟩
                try have t_w20 : w20.toInt = w19.toInt - y3_132.toInt := by rw [e_w20]; exact subT1 (Eq.refl _) (by omega) (by omega)
                try rw [← e_w20]
                refine ok_le (fun c21 => ?_) (fun c21 => ?_)
                · refine ok_o2 (sp_X9_done c_t_acts c_t_many_79 ) (fun r197 c_t_acts_197 h22 => ?_)
                  exact ok_s (show 0 ≤ c_t_many_79.toInt ∧ c_t_many_79.toInt ≤ 12 ∧ FA f_t_roll_132 from by first | omega | assumption | trivial | (refine ⟨?_, ?_⟩ <;> first | omega | assumption | trivial | rfl) | (refine ⟨?_, ?_, ?_⟩ <;> first | omega | assumption | trivial | rfl) | (refine ⟨?_, ?_, ?_, ?_⟩ <;> first | omega | assumption | trivial | rfl) | (refine ⟨?_, ?_, ?_, ?_, ?_⟩ <;> first | omega | assumption | trivial | rfl) | (refine ⟨?_, ?_, ?_, ?_, ?_, ?_⟩ <;> first | omega | assumption | trivial | rfl) | (refine ⟨?_, ?_, ?_, ?_, ?_, ?_, ?_⟩ <;> first | omega | assumption | trivial | rfl) | (refine ⟨?_, ?_, ?_, ?_, ?_, ?_, ?_, ?_⟩ <;> first | omega | assumption | trivial | rfl))
                · refine ok_c (ixo (by omega) (by omega)) ?_
                  try have a23 := FA_at (f := f_t_roll_132) (by assumption) y3_132.toNatClampNeg
                  refine ok_bx (fun x4_150 e_x4_150 => ?_)
                  try have q_x4_150 : DG x4_150 = DG (f_t_roll_132 y3_132.toNatClampNeg) := by rw [e_x4_150]
                  try have d_x4_150 : -1 ≤ DG x4_150 ∧ DG x4_150 ≤ 39 := by rw [e_x4_150]; exact FA_at (by assumption) _
                  refine ok_c (ixo (by omega) (by omega)) ?_
                  refine ok_c (ixo (by omega) (by omega)) ?_
                  try have a24 := FA_at (f := f_t_roll_132) (by assumption) w20.toNatClampNeg
                  refine ok_bx (fun f_t_roll_170 e_f_t_roll_170 => ?_)
                  try have t_f_t_roll_170 : FA f_t_roll_170 := by rw [e_f_t_roll_170]; exact FA_upd (by first | assumption | exact FA_0) _ (by first | omega | assumption | trivial)
                  refine ok_c (ixo (by omega) (by omega)) ?_
                  refine ok_bx (fun f_t_roll_185 e_f_t_roll_185 => ?_)
                  try have t_f_t_roll_185 : FA f_t_roll_185 := by rw [e_f_t_roll_185]; exact FA_upd (by first | assumption | exact FA_0) _ (by first | omega | assumption | trivial)
                  refine ok_bx (fun x3_186 e_x3_186 => ?_)
                  try have t_x3_186 : x3_186.toInt = y3_132.toInt + 1 := by rw [e_x3_186]; exact addT1 (show (1 : Int32).toInt = 1 from by decide) (by omega) (by omega)
                  exact hih18 x3_186 f_t_roll_185 (show 0 ≤ x3_186.toInt ∧ x3_186.toInt ≤ 12 ∧ FA f_t_roll_185 from by first | omega | assumption | trivial | (refine ⟨?_, ?_⟩ <;> first | omega | assumption | trivial | rfl) | (refine ⟨?_, ?_, ?_⟩ <;> first | omega | assumption | trivial | rfl) | (refine ⟨?_, ?_, ?_, ?_⟩ <;> first | omega | assumption | trivial | rfl) | (refine ⟨?_, ?_, ?_, ?_, ?_⟩ <;> first | omega | assumption | trivial | rfl) | (refine ⟨?_, ?_, ?_, ?_, ?_, ?_⟩ <;> first | omega | assumption | trivial | rfl) | (refine ⟨?_, ?_, ?_, ?_, ?_, ?_, ?_⟩ <;> first | omega | assumption | trivial | rfl) | (refine ⟨?_, ?_, ?_, ?_, ?_, ?_, ?_, ?_⟩ <;> first | omega | assumption | trivial | rfl)) (show (c_t_many_79.toInt - x3_186.toInt + 1).toNat < (c_t_many_79.toInt - y3_132.toInt + 1).toNat from by omega)
              · refine ok_o2 (sp_X9_done c_t_acts c_t_many_79 ) (fun r197_2 c_t_acts_197_2 h25 => ?_)
                exact ok_s (show 0 ≤ c_t_many_79.toInt ∧ c_t_many_79.toInt ≤ 12 ∧ FA f_t_roll_79 from by first | omega | assumption | trivial | (refine ⟨?_, ?_⟩ <;> first | omega | assumption | trivial | rfl) | (refine ⟨?_, ?_, ?_⟩ <;> first | omega | assumption | trivial | rfl) | (refine ⟨?_, ?_, ?_, ?_⟩ <;> first | omega | assumption | trivial | rfl) | (refine ⟨?_, ?_, ?_, ?_, ?_⟩ <;> first | omega | assumption | trivial | rfl) | (refine ⟨?_, ?_, ?_, ?_, ?_, ?_⟩ <;> first | omega | assumption | trivial | rfl) | (refine ⟨?_, ?_, ?_, ?_, ?_, ?_, ?_⟩ <;> first | omega | assumption | trivial | rfl) | (refine ⟨?_, ?_, ?_, ?_, ?_, ?_, ?_, ?_⟩ <;> first | omega | assumption | trivial | rfl))
            · refine ok_bx (fun c_t_many_98 e_c_t_many_98 => ?_)
              try have t_c_t_many_98 : c_t_many_98.toInt = c_t_many_79.toInt + 1 := by rw [e_c_t_many_98]; exact addT1 (show (1 : Int32).toInt = 1 from by decide) (by omega) (by omega)
              refine ok_o (sp_X9_least y3_79 (by first | omega | assumption | trivial | exact wt_of (by assumption) (by omega)) (by first | omega | assumption | trivial | exact wt_of (by assumption) (by omega))) (fun r102 h26 => ?_)
              have h26 : 1 ≤ DG r102 ∧ DG r102 ≤ DG y3_79 := h26
              refine ok_c (ixo (by omega) (by omega)) ?_
              refine ok_bx (fun f_t_roll_105 e_f_t_roll_105 => ?_)
              try have t_f_t_roll_105 : FA f_t_roll_105 := by rw [e_f_t_roll_105]; exact FA_upd (by first | assumption | exact FA_0) _ (by first | omega | assumption | trivial)
              obtain ⟨w27, e_w27⟩ : ∃ w : Int32, w = c_t_many_98 - (1 : Int32) := ⟨_, rfl⟩
              try have t_w27 : w27.toInt = c_t_many_98.toInt - 1 := by rw [e_w27]; exact subT1 (show (1 : Int32).toInt = 1 from by decide) (by omega) (by omega)
              try rw [← e_w27]
              refine ok_c (ixo (by omega) (by omega)) ?_
              try have a28 := FA_at (f := f_t_roll_105) (by assumption) w27.toNatClampNeg
              have hi : w27 = c_t_many_79 := Int32.toInt_inj.mp (by omega)
              have hv : DG (f_t_roll_105 w27.toNatClampNeg) = DG r102 := by rw [hi, e_f_t_roll_105]; simp [vp_updL]
              refine ok_o (sp_X9_quotientOf y3_79 (f_t_roll_105 w27.toNatClampNeg) (by first | omega | assumption | trivial | exact wt_of (by assumption) (by omega)) (by first | omega | assumption | trivial | exact wt_of (by assumption) (by omega)) (by first | omega | assumption | trivial | exact wt_of (by assumption) (by omega))) (fun r118 h29 => ?_)
              have h29 : (DG y3_79 < DG (f_t_roll_105 w27.toNatClampNeg) ∧ DG r118 = -1) ∨ (DG (f_t_roll_105 w27.toNatClampNeg) ≤ DG y3_79 ∧ DG r118 = DG y3_79 - DG (f_t_roll_105 w27.toNatClampNeg)) := h29
              exact hih14 r118 c_t_many_98 f_t_roll_105 (show 0 ≤ DG r118 ∧ 0 ≤ c_t_many_98.toInt ∧ c_t_many_98.toInt + DG r118 ≤ 10 ∧ FA f_t_roll_105 from by first | omega | assumption | trivial | (refine ⟨?_, ?_⟩ <;> first | omega | assumption | trivial | rfl) | (refine ⟨?_, ?_, ?_⟩ <;> first | omega | assumption | trivial | rfl) | (refine ⟨?_, ?_, ?_, ?_⟩ <;> first | omega | assumption | trivial | rfl) | (refine ⟨?_, ?_, ?_, ?_, ?_⟩ <;> first | omega | assumption | trivial | rfl) | (refine ⟨?_, ?_, ?_, ?_, ?_, ?_⟩ <;> first | omega | assumption | trivial | rfl) | (refine ⟨?_, ?_, ?_, ?_, ?_, ?_, ?_⟩ <;> first | omega | assumption | trivial | rfl) | (refine ⟨?_, ?_, ?_, ?_, ?_, ?_, ?_, ?_⟩ <;> first | omega | assumption | trivial | rfl)) (show (DG r118).toNat < (DG y3_79).toNat from by omega)
          · refine ok_o2 (sp_X9_no c_t_refused ) (fun r63_2 c_t_refused_63_2 h30 => ?_)
            exact ok_s (show 0 ≤ c_t_many.toInt ∧ c_t_many.toInt ≤ 12 ∧ FA f_t_roll from by first | omega | assumption | trivial | (refine ⟨?_, ?_⟩ <;> first | omega | assumption | trivial | rfl) | (refine ⟨?_, ?_, ?_⟩ <;> first | omega | assumption | trivial | rfl) | (refine ⟨?_, ?_, ?_, ?_⟩ <;> first | omega | assumption | trivial | rfl) | (refine ⟨?_, ?_, ?_, ?_, ?_⟩ <;> first | omega | assumption | trivial | rfl) | (refine ⟨?_, ?_, ?_, ?_, ?_, ?_⟩ <;> first | omega | assumption | trivial | rfl) | (refine ⟨?_, ?_, ?_, ?_, ?_, ?_, ?_⟩ <;> first | omega | assumption | trivial | rfl) | (refine ⟨?_, ?_, ?_, ?_, ?_, ?_, ?_, ?_⟩ <;> first | omega | assumption | trivial | rfl))
      · exact ok_s (show 0 ≤ c_t_many.toInt ∧ c_t_many.toInt ≤ 12 ∧ FA f_t_roll from by first | omega | assumption | trivial | (refine ⟨?_, ?_⟩ <;> first | omega | assumption | trivial | rfl) | (refine ⟨?_, ?_, ?_⟩ <;> first | omega | assumption | trivial | rfl) | (refine ⟨?_, ?_, ?_, ?_⟩ <;> first | omega | assumption | trivial | rfl) | (refine ⟨?_, ?_, ?_, ?_, ?_⟩ <;> first | omega | assumption | trivial | rfl) | (refine ⟨?_, ?_, ?_, ?_, ?_, ?_⟩ <;> first | omega | assumption | trivial | rfl) | (refine ⟨?_, ?_, ?_, ?_, ?_, ?_, ?_⟩ <;> first | omega | assumption | trivial | rfl) | (refine ⟨?_, ?_, ?_, ?_, ?_, ?_, ?_, ?_⟩ <;> first | omega | assumption | trivial | rfl))
    · refine ok_le (fun c31 => ?_) (fun c31 => ?_)
      · first | unfold J_X9_factor_27 | skip
        refine ok_o2 (sp_X9_isThrown (1 : Int32) (0 : Int32) ) (fun r27_2 c_t_thrown_27_2 h32 => ?_)
        have h32 : (r27_2.toInt = 0 ∧ c_t_thrown_27_2.toInt = 0 ∧ (1 : Int32).toInt = 0 ∧ (0 : Int32).toInt = 0) ∨ (r27_2.toInt = 1 ∧ c_t_thrown_27_2.toInt = 1 ∧ (1 : Int32).toInt ≠ 0) ∨ (r27_2.toInt = 1 ∧ c_t_thrown_27_2.toInt = 2 ∧ (1 : Int32).toInt = 0 ∧ (0 : Int32).toInt ≠ 0) := h32
        refine ok_eq (fun c33 => ?_) (fun c33 => ?_)
        · refine ok_c (ixo (by omega) (by omega)) ?_
          try have a34 := FA_at (f := f_t_forms) (by assumption) p0.toNatClampNeg
          refine ok_o (sp_X9_degreeOf (f_t_forms p0.toNatClampNeg) ) (fun r41_2 h35 => ?_)
          have h35 : r41_2.toInt = DG (f_t_forms p0.toNatClampNeg) ∧ -1 ≤ r41_2.toInt ∧ r41_2.toInt ≤ 63 := h35
          refine ok_lt (fun c36 => ?_) (fun c36 => ?_)
          · refine ok_o2 (sp_X9_no c_t_refused ) (fun r63_3 c_t_refused_63_3 h37 => ?_)
            exact ok_s (show 0 ≤ c_t_many.toInt ∧ c_t_many.toInt ≤ 12 ∧ FA f_t_roll from by first | omega | assumption | trivial | (refine ⟨?_, ?_⟩ <;> first | omega | assumption | trivial | rfl) | (refine ⟨?_, ?_, ?_⟩ <;> first | omega | assumption | trivial | rfl) | (refine ⟨?_, ?_, ?_, ?_⟩ <;> first | omega | assumption | trivial | rfl) | (refine ⟨?_, ?_, ?_, ?_, ?_⟩ <;> first | omega | assumption | trivial | rfl) | (refine ⟨?_, ?_, ?_, ?_, ?_, ?_⟩ <;> first | omega | assumption | trivial | rfl) | (refine ⟨?_, ?_, ?_, ?_, ?_, ?_, ?_⟩ <;> first | omega | assumption | trivial | rfl) | (refine ⟨?_, ?_, ?_, ?_, ?_, ?_, ?_, ?_⟩ <;> first | omega | assumption | trivial | rfl))
          · refine ok_c (ixo (by omega) (by omega)) ?_
            try have a38 := FA_at (f := f_t_forms) (by assumption) p0.toNatClampNeg
            refine ok_o (sp_X9_degreeOf (f_t_forms p0.toNatClampNeg) ) (fun r54_2 h39 => ?_)
            have h39 : r54_2.toInt = DG (f_t_forms p0.toNatClampNeg) ∧ -1 ≤ r54_2.toInt ∧ r54_2.toInt ≤ 63 := h39
            refine ok_le (fun c40 => ?_) (fun c40 => ?_)
            · refine ok_c (ixo (by omega) (by omega)) ?_
              try have a41 := FA_at (f := f_t_forms) (by assumption) p0.toNatClampNeg
              refine ok_bx (fun x3_78_2 e_x3_78_2 => ?_)
              try have q_x3_78_2 : DG x3_78_2 = DG (f_t_forms p0.toNatClampNeg) := by rw [e_x3_78_2]
              try have d_x3_78_2 : -1 ≤ DG x3_78_2 ∧ DG x3_78_2 ≤ 39 := by rw [e_x3_78_2]; exact FA_at (by assumption) _
              refine ok_L3 (fun y3_79_2 c_t_many_79_2 f_t_roll_79_2 => 0 ≤ DG y3_79_2 ∧ 0 ≤ c_t_many_79_2.toInt ∧ c_t_many_79_2.toInt + DG y3_79_2 ≤ 10 ∧ FA f_t_roll_79_2) (fun y3_79_2 c_t_many_79_2 f_t_roll_79_2 => (DG y3_79_2).toNat) (fun ih79_2 y3_79_2 c_t_many_79_2 f_t_roll_79_2 hI42 hih42 => ?_) 20000 x3_78_2 (0 : Int32) f_t_roll (show 0 ≤ DG x3_78_2 ∧ 0 ≤ (0 : Int32).toInt ∧ (0 : Int32).toInt + DG x3_78_2 ≤ 10 ∧ FA f_t_roll from by first | omega | assumption | trivial | (refine ⟨?_, ?_⟩ <;> first | omega | assumption | trivial | rfl) | (refine ⟨?_, ?_, ?_⟩ <;> first | omega | assumption | trivial | rfl) | (refine ⟨?_, ?_, ?_, ?_⟩ <;> first | omega | assumption | trivial | rfl) | (refine ⟨?_, ?_, ?_, ?_, ?_⟩ <;> first | omega | assumption | trivial | rfl) | (refine ⟨?_, ?_, ?_, ?_, ?_, ?_⟩ <;> first | omega | assumption | trivial | rfl) | (refine ⟨?_, ?_, ?_, ?_, ?_, ?_, ?_⟩ <;> first | omega | assumption | trivial | rfl) | (refine ⟨?_, ?_, ?_, ?_, ?_, ?_, ?_, ?_⟩ <;> first | omega | assumption | trivial | rfl)) (show (DG x3_78_2).toNat < 20000 from by omega)
              have hI42 : 0 ≤ DG y3_79_2 ∧ 0 ≤ c_t_many_79_2.toInt ∧ c_t_many_79_2.toInt + DG y3_79_2 ≤ 10 ∧ FA f_t_roll_79_2 := hI42
              obtain ⟨hI42_0, hI42_1, hI42_2, hI42_3⟩ := hI42
              unfold S_X9_factor_79
              refine ok_o (sp_X9_degreeOf y3_79_2 ) (fun r80_2 h43 => ?_)
              have h43 : r80_2.toInt = DG y3_79_2 ∧ -1 ≤ r80_2.toInt ∧ r80_2.toInt ≤ 63 := h43
              refine ok_le (fun c44 => ?_) (fun c44 => ?_)
              · refine ok_eq (fun c45 => ?_) (fun c45 => ?_)
                · refine ok_L2 (fun y3_132_2 f_t_roll_132_2 => 0 ≤ y3_132_2.toInt ∧ y3_132_2.toInt ≤ 12 ∧ FA f_t_roll_132_2) (fun y3_132_2 f_t_roll_132_2 => (c_t_many_79_2.toInt - y3_132_2.toInt + 1).toNat) (fun ih132_2 y3_132_2 f_t_roll_132_2 hI46 hih46 => ?_) 20000 (0 : Int32) f_t_roll_79_2 (show 0 ≤ (0 : Int32).toInt ∧ (0 : Int32).toInt ≤ 12 ∧ FA f_t_roll_79_2 from by first | omega | assumption | trivial | (refine ⟨?_, ?_⟩ <;> first | omega | assumption | trivial | rfl) | (refine ⟨?_, ?_, ?_⟩ <;> first | omega | assumption | trivial | rfl) | (refine ⟨?_, ?_, ?_, ?_⟩ <;> first | omega | assumption | trivial | rfl) | (refine ⟨?_, ?_, ?_, ?_, ?_⟩ <;> first | omega | assumption | trivial | rfl) | (refine ⟨?_, ?_, ?_, ?_, ?_, ?_⟩ <;> first | omega | assumption | trivial | rfl) | (refine ⟨?_, ?_, ?_, ?_, ?_, ?_, ?_⟩ <;> first | omega | assumption | trivial | rfl) | (refine ⟨?_, ?_, ?_, ?_, ?_, ?_, ?_, ?_⟩ <;> first | omega | assumption | trivial | rfl)) (show (c_t_many_79_2.toInt - (0 : Int32).toInt + 1).toNat < 20000 from by omega)
                  have hI46 : 0 ≤ y3_132_2.toInt ∧ y3_132_2.toInt ≤ 12 ∧ FA f_t_roll_132_2 := hI46
                  obtain ⟨hI46_0, hI46_1, hI46_2⟩ := hI46
                  unfold S_X9_factor_132
                  obtain ⟨w47, e_w47⟩ : ∃ w : Int32, w = c_t_many_79_2 - (1 : Int32) := ⟨_, rfl⟩
                  try have t_w47 : w47.toInt = c_t_many_79_2.toInt - 1 := by rw [e_w47]; exact subT1 (show (1 : Int32).toInt = 1 from by decide) (by omega) (by omega)
                  try rw [← e_w47]
                  obtain ⟨w48, e_w48⟩ : ∃ w : Int32, w = w47 - y3_132_2 := ⟨_, rfl⟩
                  try have t_w48 : w48.toInt = w47.toInt - y3_132_2.toInt := by rw [e_w48]; exact subT1 (Eq.refl _) (by omega) (by omega)
                  try rw [← e_w48]
                  refine ok_le (fun c49 => ?_) (fun c49 => ?_)
                  · refine ok_o2 (sp_X9_done c_t_acts c_t_many_79_2 ) (fun r197_3 c_t_acts_197_3 h50 => ?_)
                    exact ok_s (show 0 ≤ c_t_many_79_2.toInt ∧ c_t_many_79_2.toInt ≤ 12 ∧ FA f_t_roll_132_2 from by first | omega | assumption | trivial | (refine ⟨?_, ?_⟩ <;> first | omega | assumption | trivial | rfl) | (refine ⟨?_, ?_, ?_⟩ <;> first | omega | assumption | trivial | rfl) | (refine ⟨?_, ?_, ?_, ?_⟩ <;> first | omega | assumption | trivial | rfl) | (refine ⟨?_, ?_, ?_, ?_, ?_⟩ <;> first | omega | assumption | trivial | rfl) | (refine ⟨?_, ?_, ?_, ?_, ?_, ?_⟩ <;> first | omega | assumption | trivial | rfl) | (refine ⟨?_, ?_, ?_, ?_, ?_, ?_, ?_⟩ <;> first | omega | assumption | trivial | rfl) | (refine ⟨?_, ?_, ?_, ?_, ?_, ?_, ?_, ?_⟩ <;> first | omega | assumption | trivial | rfl))
                  · refine ok_c (ixo (by omega) (by omega)) ?_
                    try have a51 := FA_at (f := f_t_roll_132_2) (by assumption) y3_132_2.toNatClampNeg
                    refine ok_bx (fun x4_150_2 e_x4_150_2 => ?_)
                    try have q_x4_150_2 : DG x4_150_2 = DG (f_t_roll_132_2 y3_132_2.toNatClampNeg) := by rw [e_x4_150_2]
                    try have d_x4_150_2 : -1 ≤ DG x4_150_2 ∧ DG x4_150_2 ≤ 39 := by rw [e_x4_150_2]; exact FA_at (by assumption) _
                    refine ok_c (ixo (by omega) (by omega)) ?_
                    refine ok_c (ixo (by omega) (by omega)) ?_
                    try have a52 := FA_at (f := f_t_roll_132_2) (by assumption) w48.toNatClampNeg
                    refine ok_bx (fun f_t_roll_170_2 e_f_t_roll_170_2 => ?_)
                    try have t_f_t_roll_170_2 : FA f_t_roll_170_2 := by rw [e_f_t_roll_170_2]; exact FA_upd (by first | assumption | exact FA_0) _ (by first | omega | assumption | trivial)
                    refine ok_c (ixo (by omega) (by omega)) ?_
                    refine ok_bx (fun f_t_roll_185_2 e_f_t_roll_185_2 => ?_)
                    try have t_f_t_roll_185_2 : FA f_t_roll_185_2 := by rw [e_f_t_roll_185_2]; exact FA_upd (by first | assumption | exact FA_0) _ (by first | omega | assumption | trivial)
                    refine ok_bx (fun x3_186_2 e_x3_186_2 => ?_)
                    try have t_x3_186_2 : x3_186_2.toInt = y3_132_2.toInt + 1 := by rw [e_x3_186_2]; exact addT1 (show (1 : Int32).toInt = 1 from by decide) (by omega) (by omega)
                    exact hih46 x3_186_2 f_t_roll_185_2 (show 0 ≤ x3_186_2.toInt ∧ x3_186_2.toInt ≤ 12 ∧ FA f_t_roll_185_2 from by first | omega | assumption | trivial | (refine ⟨?_, ?_⟩ <;> first | omega | assumption | trivial | rfl) | (refine ⟨?_, ?_, ?_⟩ <;> first | omega | assumption | trivial | rfl) | (refine ⟨?_, ?_, ?_, ?_⟩ <;> first | omega | assumption | trivial | rfl) | (refine ⟨?_, ?_, ?_, ?_, ?_⟩ <;> first | omega | assumption | trivial | rfl) | (refine ⟨?_, ?_, ?_, ?_, ?_, ?_⟩ <;> first | omega | assumption | trivial | rfl) | (refine ⟨?_, ?_, ?_, ?_, ?_, ?_, ?_⟩ <;> first | omega | assumption | trivial | rfl) | (refine ⟨?_, ?_, ?_, ?_, ?_, ?_, ?_, ?_⟩ <;> first | omega | assumption | trivial | rfl)) (show (c_t_many_79_2.toInt - x3_186_2.toInt + 1).toNat < (c_t_many_79_2.toInt - y3_132_2.toInt + 1).toNat from by omega)
                · refine ok_o2 (sp_X9_done c_t_acts c_t_many_79_2 ) (fun r197_4 c_t_acts_197_4 h53 => ?_)
                  exact ok_s (show 0 ≤ c_t_many_79_2.toInt ∧ c_t_many_79_2.toInt ≤ 12 ∧ FA f_t_roll_79_2 from by first | omega | assumption | trivial | (refine ⟨?_, ?_⟩ <;> first | omega | assumption | trivial | rfl) | (refine ⟨?_, ?_, ?_⟩ <;> first | omega | assumption | trivial | rfl) | (refine ⟨?_, ?_, ?_, ?_⟩ <;> first | omega | assumption | trivial | rfl) | (refine ⟨?_, ?_, ?_, ?_, ?_⟩ <;> first | omega | assumption | trivial | rfl) | (refine ⟨?_, ?_, ?_, ?_, ?_, ?_⟩ <;> first | omega | assumption | trivial | rfl) | (refine ⟨?_, ?_, ?_, ?_, ?_, ?_, ?_⟩ <;> first | omega | assumption | trivial | rfl) | (refine ⟨?_, ?_, ?_, ?_, ?_, ?_, ?_, ?_⟩ <;> first | omega | assumption | trivial | rfl))
              · refine ok_bx (fun c_t_many_98_2 e_c_t_many_98_2 => ?_)
                try have t_c_t_many_98_2 : c_t_many_98_2.toInt = c_t_many_79_2.toInt + 1 := by rw [e_c_t_many_98_2]; exact addT1 (show (1 : Int32).toInt = 1 from by decide) (by omega) (by omega)
                refine ok_o (sp_X9_least y3_79_2 (by first | omega | assumption | trivial | exact wt_of (by assumption) (by omega)) (by first | omega | assumption | trivial | exact wt_of (by assumption) (by omega))) (fun r102_2 h54 => ?_)
                have h54 : 1 ≤ DG r102_2 ∧ DG r102_2 ≤ DG y3_79_2 := h54
                refine ok_c (ixo (by omega) (by omega)) ?_
                refine ok_bx (fun f_t_roll_105_2 e_f_t_roll_105_2 => ?_)
                try have t_f_t_roll_105_2 : FA f_t_roll_105_2 := by rw [e_f_t_roll_105_2]; exact FA_upd (by first | assumption | exact FA_0) _ (by first | omega | assumption | trivial)
                obtain ⟨w55, e_w55⟩ : ∃ w : Int32, w = c_t_many_98_2 - (1 : Int32) := ⟨_, rfl⟩
                try have t_w55 : w55.toInt = c_t_many_98_2.toInt - 1 := by rw [e_w55]; exact subT1 (show (1 : Int32).toInt = 1 from by decide) (by omega) (by omega)
                try rw [← e_w55]
                refine ok_c (ixo (by omega) (by omega)) ?_
                try have a56 := FA_at (f := f_t_roll_105_2) (by assumption) w55.toNatClampNeg
                have hi : w55 = c_t_many_79_2 := Int32.toInt_inj.mp (by omega)
                have hv : DG (f_t_roll_105_2 w55.toNatClampNeg) = DG r102_2 := by rw [hi, e_f_t_roll_105_2]; simp [vp_updL]
                refine ok_o (sp_X9_quotientOf y3_79_2 (f_t_roll_105_2 w55.toNatClampNeg) (by first | omega | assumption | trivial | exact wt_of (by assumption) (by omega)) (by first | omega | assumption | trivial | exact wt_of (by assumption) (by omega)) (by first | omega | assumption | trivial | exact wt_of (by assumption) (by omega))) (fun r118_2 h57 => ?_)
                have h57 : (DG y3_79_2 < DG (f_t_roll_105_2 w55.toNatClampNeg) ∧ DG r118_2 = -1) ∨ (DG (f_t_roll_105_2 w55.toNatClampNeg) ≤ DG y3_79_2 ∧ DG r118_2 = DG y3_79_2 - DG (f_t_roll_105_2 w55.toNatClampNeg)) := h57
                exact hih42 r118_2 c_t_many_98_2 f_t_roll_105_2 (show 0 ≤ DG r118_2 ∧ 0 ≤ c_t_many_98_2.toInt ∧ c_t_many_98_2.toInt + DG r118_2 ≤ 10 ∧ FA f_t_roll_105_2 from by first | omega | assumption | trivial | (refine ⟨?_, ?_⟩ <;> first | omega | assumption | trivial | rfl) | (refine ⟨?_, ?_, ?_⟩ <;> first | omega | assumption | trivial | rfl) | (refine ⟨?_, ?_, ?_, ?_⟩ <;> first | omega | assumption | trivial | rfl) | (refine ⟨?_, ?_, ?_, ?_, ?_⟩ <;> first | omega | assumption | trivial | rfl) | (refine ⟨?_, ?_, ?_, ?_, ?_, ?_⟩ <;> first | omega | assumption | trivial | rfl) | (refine ⟨?_, ?_, ?_, ?_, ?_, ?_, ?_⟩ <;> first | omega | assumption | trivial | rfl) | (refine ⟨?_, ?_, ?_, ?_, ?_, ?_, ?_, ?_⟩ <;> first | omega | assumption | trivial | rfl)) (show (DG r118_2).toNat < (DG y3_79_2).toNat from by omega)
            · refine ok_o2 (sp_X9_no c_t_refused ) (fun r63_4 c_t_refused_63_4 h58 => ?_)
              exact ok_s (show 0 ≤ c_t_many.toInt ∧ c_t_many.toInt ≤ 12 ∧ FA f_t_roll from by first | omega | assumption | trivial | (refine ⟨?_, ?_⟩ <;> first | omega | assumption | trivial | rfl) | (refine ⟨?_, ?_, ?_⟩ <;> first | omega | assumption | trivial | rfl) | (refine ⟨?_, ?_, ?_, ?_⟩ <;> first | omega | assumption | trivial | rfl) | (refine ⟨?_, ?_, ?_, ?_, ?_⟩ <;> first | omega | assumption | trivial | rfl) | (refine ⟨?_, ?_, ?_, ?_, ?_, ?_⟩ <;> first | omega | assumption | trivial | rfl) | (refine ⟨?_, ?_, ?_, ?_, ?_, ?_, ?_⟩ <;> first | omega | assumption | trivial | rfl) | (refine ⟨?_, ?_, ?_, ?_, ?_, ?_, ?_, ?_⟩ <;> first | omega | assumption | trivial | rfl))
        · exact ok_s (show 0 ≤ c_t_many.toInt ∧ c_t_many.toInt ≤ 12 ∧ FA f_t_roll from by first | omega | assumption | trivial | (refine ⟨?_, ?_⟩ <;> first | omega | assumption | trivial | rfl) | (refine ⟨?_, ?_, ?_⟩ <;> first | omega | assumption | trivial | rfl) | (refine ⟨?_, ?_, ?_, ?_⟩ <;> first | omega | assumption | trivial | rfl) | (refine ⟨?_, ?_, ?_, ?_, ?_⟩ <;> first | omega | assumption | trivial | rfl) | (refine ⟨?_, ?_, ?_, ?_, ?_, ?_⟩ <;> first | omega | assumption | trivial | rfl) | (refine ⟨?_, ?_, ?_, ?_, ?_, ?_, ?_⟩ <;> first | omega | assumption | trivial | rfl) | (refine ⟨?_, ?_, ?_, ?_, ?_, ?_, ?_, ?_⟩ <;> first | omega | assumption | trivial | rfl))
      · first | unfold J_X9_factor_22 | skip
        first | unfold J_X9_factor_27 | skip
        refine ok_o2 (sp_X9_isThrown (1 : Int32) (1 : Int32) ) (fun r27_3 c_t_thrown_27_3 h59 => ?_)
        have h59 : (r27_3.toInt = 0 ∧ c_t_thrown_27_3.toInt = 0 ∧ (1 : Int32).toInt = 0 ∧ (1 : Int32).toInt = 0) ∨ (r27_3.toInt = 1 ∧ c_t_thrown_27_3.toInt = 1 ∧ (1 : Int32).toInt ≠ 0) ∨ (r27_3.toInt = 1 ∧ c_t_thrown_27_3.toInt = 2 ∧ (1 : Int32).toInt = 0 ∧ (1 : Int32).toInt ≠ 0) := h59
        refine ok_eq (fun c60 => ?_) (fun c60 => ?_)
        · refine ok_c (ixo (by omega) (by omega)) ?_
          try have a61 := FA_at (f := f_t_forms) (by assumption) p0.toNatClampNeg
          refine ok_o (sp_X9_degreeOf (f_t_forms p0.toNatClampNeg) ) (fun r41_3 h62 => ?_)
          have h62 : r41_3.toInt = DG (f_t_forms p0.toNatClampNeg) ∧ -1 ≤ r41_3.toInt ∧ r41_3.toInt ≤ 63 := h62
          refine ok_lt (fun c63 => ?_) (fun c63 => ?_)
          · refine ok_o2 (sp_X9_no c_t_refused ) (fun r63_5 c_t_refused_63_5 h64 => ?_)
            exact ok_s (show 0 ≤ c_t_many.toInt ∧ c_t_many.toInt ≤ 12 ∧ FA f_t_roll from by first | omega | assumption | trivial | (refine ⟨?_, ?_⟩ <;> first | omega | assumption | trivial | rfl) | (refine ⟨?_, ?_, ?_⟩ <;> first | omega | assumption | trivial | rfl) | (refine ⟨?_, ?_, ?_, ?_⟩ <;> first | omega | assumption | trivial | rfl) | (refine ⟨?_, ?_, ?_, ?_, ?_⟩ <;> first | omega | assumption | trivial | rfl) | (refine ⟨?_, ?_, ?_, ?_, ?_, ?_⟩ <;> first | omega | assumption | trivial | rfl) | (refine ⟨?_, ?_, ?_, ?_, ?_, ?_, ?_⟩ <;> first | omega | assumption | trivial | rfl) | (refine ⟨?_, ?_, ?_, ?_, ?_, ?_, ?_, ?_⟩ <;> first | omega | assumption | trivial | rfl))
          · refine ok_c (ixo (by omega) (by omega)) ?_
            try have a65 := FA_at (f := f_t_forms) (by assumption) p0.toNatClampNeg
            refine ok_o (sp_X9_degreeOf (f_t_forms p0.toNatClampNeg) ) (fun r54_3 h66 => ?_)
            have h66 : r54_3.toInt = DG (f_t_forms p0.toNatClampNeg) ∧ -1 ≤ r54_3.toInt ∧ r54_3.toInt ≤ 63 := h66
            refine ok_le (fun c67 => ?_) (fun c67 => ?_)
            · refine ok_c (ixo (by omega) (by omega)) ?_
              try have a68 := FA_at (f := f_t_forms) (by assumption) p0.toNatClampNeg
              refine ok_bx (fun x3_78_3 e_x3_78_3 => ?_)
              try have q_x3_78_3 : DG x3_78_3 = DG (f_t_forms p0.toNatClampNeg) := by rw [e_x3_78_3]
              try have d_x3_78_3 : -1 ≤ DG x3_78_3 ∧ DG x3_78_3 ≤ 39 := by rw [e_x3_78_3]; exact FA_at (by assumption) _
              refine ok_L3 (fun y3_79_3 c_t_many_79_3 f_t_roll_79_3 => 0 ≤ DG y3_79_3 ∧ 0 ≤ c_t_many_79_3.toInt ∧ c_t_many_79_3.toInt + DG y3_79_3 ≤ 10 ∧ FA f_t_roll_79_3) (fun y3_79_3 c_t_many_79_3 f_t_roll_79_3 => (DG y3_79_3).toNat) (fun ih79_3 y3_79_3 c_t_many_79_3 f_t_roll_79_3 hI69 hih69 => ?_) 20000 x3_78_3 (0 : Int32) f_t_roll (show 0 ≤ DG x3_78_3 ∧ 0 ≤ (0 : Int32).toInt ∧ (0 : Int32).toInt + DG x3_78_3 ≤ 10 ∧ FA f_t_roll from by first | omega | assumption | trivial | (refine ⟨?_, ?_⟩ <;> first | omega | assumption | trivial | rfl) | (refine ⟨?_, ?_, ?_⟩ <;> first | omega | assumption | trivial | rfl) | (refine ⟨?_, ?_, ?_, ?_⟩ <;> first | omega | assumption | trivial | rfl) | (refine ⟨?_, ?_, ?_, ?_, ?_⟩ <;> first | omega | assumption | trivial | rfl) | (refine ⟨?_, ?_, ?_, ?_, ?_, ?_⟩ <;> first | omega | assumption | trivial | rfl) | (refine ⟨?_, ?_, ?_, ?_, ?_, ?_, ?_⟩ <;> first | omega | assumption | trivial | rfl) | (refine ⟨?_, ?_, ?_, ?_, ?_, ?_, ?_, ?_⟩ <;> first | omega | assumption | trivial | rfl)) (show (DG x3_78_3).toNat < 20000 from by omega)
              have hI69 : 0 ≤ DG y3_79_3 ∧ 0 ≤ c_t_many_79_3.toInt ∧ c_t_many_79_3.toInt + DG y3_79_3 ≤ 10 ∧ FA f_t_roll_79_3 := hI69
              obtain ⟨hI69_0, hI69_1, hI69_2, hI69_3⟩ := hI69
              unfold S_X9_factor_79
              refine ok_o (sp_X9_degreeOf y3_79_3 ) (fun r80_3 h70 => ?_)
              have h70 : r80_3.toInt = DG y3_79_3 ∧ -1 ≤ r80_3.toInt ∧ r80_3.toInt ≤ 63 := h70
              refine ok_le (fun c71 => ?_) (fun c71 => ?_)
              · refine ok_eq (fun c72 => ?_) (fun c72 => ?_)
                · refine ok_L2 (fun y3_132_3 f_t_roll_132_3 => 0 ≤ y3_132_3.toInt ∧ y3_132_3.toInt ≤ 12 ∧ FA f_t_roll_132_3) (fun y3_132_3 f_t_roll_132_3 => (c_t_many_79_3.toInt - y3_132_3.toInt + 1).toNat) (fun ih132_3 y3_132_3 f_t_roll_132_3 hI73 hih73 => ?_) 20000 (0 : Int32) f_t_roll_79_3 (show 0 ≤ (0 : Int32).toInt ∧ (0 : Int32).toInt ≤ 12 ∧ FA f_t_roll_79_3 from by first | omega | assumption | trivial | (refine ⟨?_, ?_⟩ <;> first | omega | assumption | trivial | rfl) | (refine ⟨?_, ?_, ?_⟩ <;> first | omega | assumption | trivial | rfl) | (refine ⟨?_, ?_, ?_, ?_⟩ <;> first | omega | assumption | trivial | rfl) | (refine ⟨?_, ?_, ?_, ?_, ?_⟩ <;> first | omega | assumption | trivial | rfl) | (refine ⟨?_, ?_, ?_, ?_, ?_, ?_⟩ <;> first | omega | assumption | trivial | rfl) | (refine ⟨?_, ?_, ?_, ?_, ?_, ?_, ?_⟩ <;> first | omega | assumption | trivial | rfl) | (refine ⟨?_, ?_, ?_, ?_, ?_, ?_, ?_, ?_⟩ <;> first | omega | assumption | trivial | rfl)) (show (c_t_many_79_3.toInt - (0 : Int32).toInt + 1).toNat < 20000 from by omega)
                  have hI73 : 0 ≤ y3_132_3.toInt ∧ y3_132_3.toInt ≤ 12 ∧ FA f_t_roll_132_3 := hI73
                  obtain ⟨hI73_0, hI73_1, hI73_2⟩ := hI73
                  unfold S_X9_factor_132
                  obtain ⟨w74, e_w74⟩ : ∃ w : Int32, w = c_t_many_79_3 - (1 : Int32) := ⟨_, rfl⟩
                  try have t_w74 : w74.toInt = c_t_many_79_3.toInt - 1 := by rw [e_w74]; exact subT1 (show (1 : Int32).toInt = 1 from by decide) (by omega) (by omega)
                  try rw [← e_w74]
                  obtain ⟨w75, e_w75⟩ : ∃ w : Int32, w = w74 - y3_132_3 := ⟨_, rfl⟩
                  try have t_w75 : w75.toInt = w74.toInt - y3_132_3.toInt := by rw [e_w75]; exact subT1 (Eq.refl _) (by omega) (by omega)
                  try rw [← e_w75]
                  refine ok_le (fun c76 => ?_) (fun c76 => ?_)
                  · refine ok_o2 (sp_X9_done c_t_acts c_t_many_79_3 ) (fun r197_5 c_t_acts_197_5 h77 => ?_)
                    exact ok_s (show 0 ≤ c_t_many_79_3.toInt ∧ c_t_many_79_3.toInt ≤ 12 ∧ FA f_t_roll_132_3 from by first | omega | assumption | trivial | (refine ⟨?_, ?_⟩ <;> first | omega | assumption | trivial | rfl) | (refine ⟨?_, ?_, ?_⟩ <;> first | omega | assumption | trivial | rfl) | (refine ⟨?_, ?_, ?_, ?_⟩ <;> first | omega | assumption | trivial | rfl) | (refine ⟨?_, ?_, ?_, ?_, ?_⟩ <;> first | omega | assumption | trivial | rfl) | (refine ⟨?_, ?_, ?_, ?_, ?_, ?_⟩ <;> first | omega | assumption | trivial | rfl) | (refine ⟨?_, ?_, ?_, ?_, ?_, ?_, ?_⟩ <;> first | omega | assumption | trivial | rfl) | (refine ⟨?_, ?_, ?_, ?_, ?_, ?_, ?_, ?_⟩ <;> first | omega | assumption | trivial | rfl))
                  · refine ok_c (ixo (by omega) (by omega)) ?_
                    try have a78 := FA_at (f := f_t_roll_132_3) (by assumption) y3_132_3.toNatClampNeg
                    refine ok_bx (fun x4_150_3 e_x4_150_3 => ?_)
                    try have q_x4_150_3 : DG x4_150_3 = DG (f_t_roll_132_3 y3_132_3.toNatClampNeg) := by rw [e_x4_150_3]
                    try have d_x4_150_3 : -1 ≤ DG x4_150_3 ∧ DG x4_150_3 ≤ 39 := by rw [e_x4_150_3]; exact FA_at (by assumption) _
                    refine ok_c (ixo (by omega) (by omega)) ?_
                    refine ok_c (ixo (by omega) (by omega)) ?_
                    try have a79 := FA_at (f := f_t_roll_132_3) (by assumption) w75.toNatClampNeg
                    refine ok_bx (fun f_t_roll_170_3 e_f_t_roll_170_3 => ?_)
                    try have t_f_t_roll_170_3 : FA f_t_roll_170_3 := by rw [e_f_t_roll_170_3]; exact FA_upd (by first | assumption | exact FA_0) _ (by first | omega | assumption | trivial)
                    refine ok_c (ixo (by omega) (by omega)) ?_
                    refine ok_bx (fun f_t_roll_185_3 e_f_t_roll_185_3 => ?_)
                    try have t_f_t_roll_185_3 : FA f_t_roll_185_3 := by rw [e_f_t_roll_185_3]; exact FA_upd (by first | assumption | exact FA_0) _ (by first | omega | assumption | trivial)
                    refine ok_bx (fun x3_186_3 e_x3_186_3 => ?_)
                    try have t_x3_186_3 : x3_186_3.toInt = y3_132_3.toInt + 1 := by rw [e_x3_186_3]; exact addT1 (show (1 : Int32).toInt = 1 from by decide) (by omega) (by omega)
                    exact hih73 x3_186_3 f_t_roll_185_3 (show 0 ≤ x3_186_3.toInt ∧ x3_186_3.toInt ≤ 12 ∧ FA f_t_roll_185_3 from by first | omega | assumption | trivial | (refine ⟨?_, ?_⟩ <;> first | omega | assumption | trivial | rfl) | (refine ⟨?_, ?_, ?_⟩ <;> first | omega | assumption | trivial | rfl) | (refine ⟨?_, ?_, ?_, ?_⟩ <;> first | omega | assumption | trivial | rfl) | (refine ⟨?_, ?_, ?_, ?_, ?_⟩ <;> first | omega | assumption | trivial | rfl) | (refine ⟨?_, ?_, ?_, ?_, ?_, ?_⟩ <;> first | omega | assumption | trivial | rfl) | (refine ⟨?_, ?_, ?_, ?_, ?_, ?_, ?_⟩ <;> first | omega | assumption | trivial | rfl) | (refine ⟨?_, ?_, ?_, ?_, ?_, ?_, ?_, ?_⟩ <;> first | omega | assumption | trivial | rfl)) (show (c_t_many_79_3.toInt - x3_186_3.toInt + 1).toNat < (c_t_many_79_3.toInt - y3_132_3.toInt + 1).toNat from by omega)
                · refine ok_o2 (sp_X9_done c_t_acts c_t_many_79_3 ) (fun r197_6 c_t_acts_197_6 h80 => ?_)
                  exact ok_s (show 0 ≤ c_t_many_79_3.toInt ∧ c_t_many_79_3.toInt ≤ 12 ∧ FA f_t_roll_79_3 from by first | omega | assumption | trivial | (refine ⟨?_, ?_⟩ <;> first | omega | assumption | trivial | rfl) | (refine ⟨?_, ?_, ?_⟩ <;> first | omega | assumption | trivial | rfl) | (refine ⟨?_, ?_, ?_, ?_⟩ <;> first | omega | assumption | trivial | rfl) | (refine ⟨?_, ?_, ?_, ?_, ?_⟩ <;> first | omega | assumption | trivial | rfl) | (refine ⟨?_, ?_, ?_, ?_, ?_, ?_⟩ <;> first | omega | assumption | trivial | rfl) | (refine ⟨?_, ?_, ?_, ?_, ?_, ?_, ?_⟩ <;> first | omega | assumption | trivial | rfl) | (refine ⟨?_, ?_, ?_, ?_, ?_, ?_, ?_, ?_⟩ <;> first | omega | assumption | trivial | rfl))
              · refine ok_bx (fun c_t_many_98_3 e_c_t_many_98_3 => ?_)
                try have t_c_t_many_98_3 : c_t_many_98_3.toInt = c_t_many_79_3.toInt + 1 := by rw [e_c_t_many_98_3]; exact addT1 (show (1 : Int32).toInt = 1 from by decide) (by omega) (by omega)
                refine ok_o (sp_X9_least y3_79_3 (by first | omega | assumption | trivial | exact wt_of (by assumption) (by omega)) (by first | omega | assumption | trivial | exact wt_of (by assumption) (by omega))) (fun r102_3 h81 => ?_)
                have h81 : 1 ≤ DG r102_3 ∧ DG r102_3 ≤ DG y3_79_3 := h81
                refine ok_c (ixo (by omega) (by omega)) ?_
                refine ok_bx (fun f_t_roll_105_3 e_f_t_roll_105_3 => ?_)
                try have t_f_t_roll_105_3 : FA f_t_roll_105_3 := by rw [e_f_t_roll_105_3]; exact FA_upd (by first | assumption | exact FA_0) _ (by first | omega | assumption | trivial)
                obtain ⟨w82, e_w82⟩ : ∃ w : Int32, w = c_t_many_98_3 - (1 : Int32) := ⟨_, rfl⟩
                try have t_w82 : w82.toInt = c_t_many_98_3.toInt - 1 := by rw [e_w82]; exact subT1 (show (1 : Int32).toInt = 1 from by decide) (by omega) (by omega)
                try rw [← e_w82]
                refine ok_c (ixo (by omega) (by omega)) ?_
                try have a83 := FA_at (f := f_t_roll_105_3) (by assumption) w82.toNatClampNeg
                have hi : w82 = c_t_many_79_3 := Int32.toInt_inj.mp (by omega)
                have hv : DG (f_t_roll_105_3 w82.toNatClampNeg) = DG r102_3 := by rw [hi, e_f_t_roll_105_3]; simp [vp_updL]
                refine ok_o (sp_X9_quotientOf y3_79_3 (f_t_roll_105_3 w82.toNatClampNeg) (by first | omega | assumption | trivial | exact wt_of (by assumption) (by omega)) (by first | omega | assumption | trivial | exact wt_of (by assumption) (by omega)) (by first | omega | assumption | trivial | exact wt_of (by assumption) (by omega))) (fun r118_3 h84 => ?_)
                have h84 : (DG y3_79_3 < DG (f_t_roll_105_3 w82.toNatClampNeg) ∧ DG r118_3 = -1) ∨ (DG (f_t_roll_105_3 w82.toNatClampNeg) ≤ DG y3_79_3 ∧ DG r118_3 = DG y3_79_3 - DG (f_t_roll_105_3 w82.toNatClampNeg)) := h84
                exact hih69 r118_3 c_t_many_98_3 f_t_roll_105_3 (show 0 ≤ DG r118_3 ∧ 0 ≤ c_t_many_98_3.toInt ∧ c_t_many_98_3.toInt + DG r118_3 ≤ 10 ∧ FA f_t_roll_105_3 from by first | omega | assumption | trivial | (refine ⟨?_, ?_⟩ <;> first | omega | assumption | trivial | rfl) | (refine ⟨?_, ?_, ?_⟩ <;> first | omega | assumption | trivial | rfl) | (refine ⟨?_, ?_, ?_, ?_⟩ <;> first | omega | assumption | trivial | rfl) | (refine ⟨?_, ?_, ?_, ?_, ?_⟩ <;> first | omega | assumption | trivial | rfl) | (refine ⟨?_, ?_, ?_, ?_, ?_, ?_⟩ <;> first | omega | assumption | trivial | rfl) | (refine ⟨?_, ?_, ?_, ?_, ?_, ?_, ?_⟩ <;> first | omega | assumption | trivial | rfl) | (refine ⟨?_, ?_, ?_, ?_, ?_, ?_, ?_, ?_⟩ <;> first | omega | assumption | trivial | rfl)) (show (DG r118_3).toNat < (DG y3_79_3).toNat from by omega)
            · refine ok_o2 (sp_X9_no c_t_refused ) (fun r63_6 c_t_refused_63_6 h85 => ?_)
              exact ok_s (show 0 ≤ c_t_many.toInt ∧ c_t_many.toInt ≤ 12 ∧ FA f_t_roll from by first | omega | assumption | trivial | (refine ⟨?_, ?_⟩ <;> first | omega | assumption | trivial | rfl) | (refine ⟨?_, ?_, ?_⟩ <;> first | omega | assumption | trivial | rfl) | (refine ⟨?_, ?_, ?_, ?_⟩ <;> first | omega | assumption | trivial | rfl) | (refine ⟨?_, ?_, ?_, ?_, ?_⟩ <;> first | omega | assumption | trivial | rfl) | (refine ⟨?_, ?_, ?_, ?_, ?_, ?_⟩ <;> first | omega | assumption | trivial | rfl) | (refine ⟨?_, ?_, ?_, ?_, ?_, ?_, ?_⟩ <;> first | omega | assumption | trivial | rfl) | (refine ⟨?_, ?_, ?_, ?_, ?_, ?_, ?_, ?_⟩ <;> first | omega | assumption | trivial | rfl))
        · exact ok_s (show 0 ≤ c_t_many.toInt ∧ c_t_many.toInt ≤ 12 ∧ FA f_t_roll from by first | omega | assumption | trivial | (refine ⟨?_, ?_⟩ <;> first | omega | assumption | trivial | rfl) | (refine ⟨?_, ?_, ?_⟩ <;> first | omega | assumption | trivial | rfl) | (refine ⟨?_, ?_, ?_, ?_⟩ <;> first | omega | assumption | trivial | rfl) | (refine ⟨?_, ?_, ?_, ?_, ?_⟩ <;> first | omega | assumption | trivial | rfl) | (refine ⟨?_, ?_, ?_, ?_, ?_, ?_⟩ <;> first | omega | assumption | trivial | rfl) | (refine ⟨?_, ?_, ?_, ?_, ?_, ?_, ?_⟩ <;> first | omega | assumption | trivial | rfl) | (refine ⟨?_, ?_, ?_, ?_, ?_, ?_, ?_, ?_⟩ <;> first | omega | assumption | trivial | rfl))
  · first | unfold J_X9_factor_13 | skip
    refine ok_lt (fun c86 => ?_) (fun c86 => ?_)
    · first | unfold J_X9_factor_22 | skip
      first | unfold J_X9_factor_27 | skip
      refine ok_o2 (sp_X9_isThrown (0 : Int32) (1 : Int32) ) (fun r27_4 c_t_thrown_27_4 h87 => ?_)
      have h87 : (r27_4.toInt = 0 ∧ c_t_thrown_27_4.toInt = 0 ∧ (0 : Int32).toInt = 0 ∧ (1 : Int32).toInt = 0) ∨ (r27_4.toInt = 1 ∧ c_t_thrown_27_4.toInt = 1 ∧ (0 : Int32).toInt ≠ 0) ∨ (r27_4.toInt = 1 ∧ c_t_thrown_27_4.toInt = 2 ∧ (0 : Int32).toInt = 0 ∧ (1 : Int32).toInt ≠ 0) := h87
      refine ok_eq (fun c88 => ?_) (fun c88 => ?_)
      · refine ok_c (ixo (by omega) (by omega)) ?_
        try have a89 := FA_at (f := f_t_forms) (by assumption) p0.toNatClampNeg
        refine ok_o (sp_X9_degreeOf (f_t_forms p0.toNatClampNeg) ) (fun r41_4 h90 => ?_)
        have h90 : r41_4.toInt = DG (f_t_forms p0.toNatClampNeg) ∧ -1 ≤ r41_4.toInt ∧ r41_4.toInt ≤ 63 := h90
        refine ok_lt (fun c91 => ?_) (fun c91 => ?_)
        · refine ok_o2 (sp_X9_no c_t_refused ) (fun r63_7 c_t_refused_63_7 h92 => ?_)
          exact ok_s (show 0 ≤ c_t_many.toInt ∧ c_t_many.toInt ≤ 12 ∧ FA f_t_roll from by first | omega | assumption | trivial | (refine ⟨?_, ?_⟩ <;> first | omega | assumption | trivial | rfl) | (refine ⟨?_, ?_, ?_⟩ <;> first | omega | assumption | trivial | rfl) | (refine ⟨?_, ?_, ?_, ?_⟩ <;> first | omega | assumption | trivial | rfl) | (refine ⟨?_, ?_, ?_, ?_, ?_⟩ <;> first | omega | assumption | trivial | rfl) | (refine ⟨?_, ?_, ?_, ?_, ?_, ?_⟩ <;> first | omega | assumption | trivial | rfl) | (refine ⟨?_, ?_, ?_, ?_, ?_, ?_, ?_⟩ <;> first | omega | assumption | trivial | rfl) | (refine ⟨?_, ?_, ?_, ?_, ?_, ?_, ?_, ?_⟩ <;> first | omega | assumption | trivial | rfl))
        · refine ok_c (ixo (by omega) (by omega)) ?_
          try have a93 := FA_at (f := f_t_forms) (by assumption) p0.toNatClampNeg
          refine ok_o (sp_X9_degreeOf (f_t_forms p0.toNatClampNeg) ) (fun r54_4 h94 => ?_)
          have h94 : r54_4.toInt = DG (f_t_forms p0.toNatClampNeg) ∧ -1 ≤ r54_4.toInt ∧ r54_4.toInt ≤ 63 := h94
          refine ok_le (fun c95 => ?_) (fun c95 => ?_)
          · refine ok_c (ixo (by omega) (by omega)) ?_
            try have a96 := FA_at (f := f_t_forms) (by assumption) p0.toNatClampNeg
            refine ok_bx (fun x3_78_4 e_x3_78_4 => ?_)
            try have q_x3_78_4 : DG x3_78_4 = DG (f_t_forms p0.toNatClampNeg) := by rw [e_x3_78_4]
            try have d_x3_78_4 : -1 ≤ DG x3_78_4 ∧ DG x3_78_4 ≤ 39 := by rw [e_x3_78_4]; exact FA_at (by assumption) _
            refine ok_L3 (fun y3_79_4 c_t_many_79_4 f_t_roll_79_4 => 0 ≤ DG y3_79_4 ∧ 0 ≤ c_t_many_79_4.toInt ∧ c_t_many_79_4.toInt + DG y3_79_4 ≤ 10 ∧ FA f_t_roll_79_4) (fun y3_79_4 c_t_many_79_4 f_t_roll_79_4 => (DG y3_79_4).toNat) (fun ih79_4 y3_79_4 c_t_many_79_4 f_t_roll_79_4 hI97 hih97 => ?_) 20000 x3_78_4 (0 : Int32) f_t_roll (show 0 ≤ DG x3_78_4 ∧ 0 ≤ (0 : Int32).toInt ∧ (0 : Int32).toInt + DG x3_78_4 ≤ 10 ∧ FA f_t_roll from by first | omega | assumption | trivial | (refine ⟨?_, ?_⟩ <;> first | omega | assumption | trivial | rfl) | (refine ⟨?_, ?_, ?_⟩ <;> first | omega | assumption | trivial | rfl) | (refine ⟨?_, ?_, ?_, ?_⟩ <;> first | omega | assumption | trivial | rfl) | (refine ⟨?_, ?_, ?_, ?_, ?_⟩ <;> first | omega | assumption | trivial | rfl) | (refine ⟨?_, ?_, ?_, ?_, ?_, ?_⟩ <;> first | omega | assumption | trivial | rfl) | (refine ⟨?_, ?_, ?_, ?_, ?_, ?_, ?_⟩ <;> first | omega | assumption | trivial | rfl) | (refine ⟨?_, ?_, ?_, ?_, ?_, ?_, ?_, ?_⟩ <;> first | omega | assumption | trivial | rfl)) (show (DG x3_78_4).toNat < 20000 from by omega)
            have hI97 : 0 ≤ DG y3_79_4 ∧ 0 ≤ c_t_many_79_4.toInt ∧ c_t_many_79_4.toInt + DG y3_79_4 ≤ 10 ∧ FA f_t_roll_79_4 := hI97
            obtain ⟨hI97_0, hI97_1, hI97_2, hI97_3⟩ := hI97
            unfold S_X9_factor_79
            refine ok_o (sp_X9_degreeOf y3_79_4 ) (fun r80_4 h98 => ?_)
            have h98 : r80_4.toInt = DG y3_79_4 ∧ -1 ≤ r80_4.toInt ∧ r80_4.toInt ≤ 63 := h98
            refine ok_le (fun c99 => ?_) (fun c99 => ?_)
            · refine ok_eq (fun c100 => ?_) (fun c100 => ?_)
              · refine ok_L2 (fun y3_132_4 f_t_roll_132_4 => 0 ≤ y3_132_4.toInt ∧ y3_132_4.toInt ≤ 12 ∧ FA f_t_roll_132_4) (fun y3_132_4 f_t_roll_132_4 => (c_t_many_79_4.toInt - y3_132_4.toInt + 1).toNat) (fun ih132_4 y3_132_4 f_t_roll_132_4 hI101 hih101 => ?_) 20000 (0 : Int32) f_t_roll_79_4 (show 0 ≤ (0 : Int32).toInt ∧ (0 : Int32).toInt ≤ 12 ∧ FA f_t_roll_79_4 from by first | omega | assumption | trivial | (refine ⟨?_, ?_⟩ <;> first | omega | assumption | trivial | rfl) | (refine ⟨?_, ?_, ?_⟩ <;> first | omega | assumption | trivial | rfl) | (refine ⟨?_, ?_, ?_, ?_⟩ <;> first | omega | assumption | trivial | rfl) | (refine ⟨?_, ?_, ?_, ?_, ?_⟩ <;> first | omega | assumption | trivial | rfl) | (refine ⟨?_, ?_, ?_, ?_, ?_, ?_⟩ <;> first | omega | assumption | trivial | rfl) | (refine ⟨?_, ?_, ?_, ?_, ?_, ?_, ?_⟩ <;> first | omega | assumption | trivial | rfl) | (refine ⟨?_, ?_, ?_, ?_, ?_, ?_, ?_, ?_⟩ <;> first | omega | assumption | trivial | rfl)) (show (c_t_many_79_4.toInt - (0 : Int32).toInt + 1).toNat < 20000 from by omega)
                have hI101 : 0 ≤ y3_132_4.toInt ∧ y3_132_4.toInt ≤ 12 ∧ FA f_t_roll_132_4 := hI101
                obtain ⟨hI101_0, hI101_1, hI101_2⟩ := hI101
                unfold S_X9_factor_132
                obtain ⟨w102, e_w102⟩ : ∃ w : Int32, w = c_t_many_79_4 - (1 : Int32) := ⟨_, rfl⟩
                try have t_w102 : w102.toInt = c_t_many_79_4.toInt - 1 := by rw [e_w102]; exact subT1 (show (1 : Int32).toInt = 1 from by decide) (by omega) (by omega)
                try rw [← e_w102]
                obtain ⟨w103, e_w103⟩ : ∃ w : Int32, w = w102 - y3_132_4 := ⟨_, rfl⟩
                try have t_w103 : w103.toInt = w102.toInt - y3_132_4.toInt := by rw [e_w103]; exact subT1 (Eq.refl _) (by omega) (by omega)
                try rw [← e_w103]
                refine ok_le (fun c104 => ?_) (fun c104 => ?_)
                · refine ok_o2 (sp_X9_done c_t_acts c_t_many_79_4 ) (fun r197_7 c_t_acts_197_7 h105 => ?_)
                  exact ok_s (show 0 ≤ c_t_many_79_4.toInt ∧ c_t_many_79_4.toInt ≤ 12 ∧ FA f_t_roll_132_4 from by first | omega | assumption | trivial | (refine ⟨?_, ?_⟩ <;> first | omega | assumption | trivial | rfl) | (refine ⟨?_, ?_, ?_⟩ <;> first | omega | assumption | trivial | rfl) | (refine ⟨?_, ?_, ?_, ?_⟩ <;> first | omega | assumption | trivial | rfl) | (refine ⟨?_, ?_, ?_, ?_, ?_⟩ <;> first | omega | assumption | trivial | rfl) | (refine ⟨?_, ?_, ?_, ?_, ?_, ?_⟩ <;> first | omega | assumption | trivial | rfl) | (refine ⟨?_, ?_, ?_, ?_, ?_, ?_, ?_⟩ <;> first | omega | assumption | trivial | rfl) | (refine ⟨?_, ?_, ?_, ?_, ?_, ?_, ?_, ?_⟩ <;> first | omega | assumption | trivial | rfl))
                · refine ok_c (ixo (by omega) (by omega)) ?_
                  try have a106 := FA_at (f := f_t_roll_132_4) (by assumption) y3_132_4.toNatClampNeg
                  refine ok_bx (fun x4_150_4 e_x4_150_4 => ?_)
                  try have q_x4_150_4 : DG x4_150_4 = DG (f_t_roll_132_4 y3_132_4.toNatClampNeg) := by rw [e_x4_150_4]
                  try have d_x4_150_4 : -1 ≤ DG x4_150_4 ∧ DG x4_150_4 ≤ 39 := by rw [e_x4_150_4]; exact FA_at (by assumption) _
                  refine ok_c (ixo (by omega) (by omega)) ?_
                  refine ok_c (ixo (by omega) (by omega)) ?_
                  try have a107 := FA_at (f := f_t_roll_132_4) (by assumption) w103.toNatClampNeg
                  refine ok_bx (fun f_t_roll_170_4 e_f_t_roll_170_4 => ?_)
                  try have t_f_t_roll_170_4 : FA f_t_roll_170_4 := by rw [e_f_t_roll_170_4]; exact FA_upd (by first | assumption | exact FA_0) _ (by first | omega | assumption | trivial)
                  refine ok_c (ixo (by omega) (by omega)) ?_
                  refine ok_bx (fun f_t_roll_185_4 e_f_t_roll_185_4 => ?_)
                  try have t_f_t_roll_185_4 : FA f_t_roll_185_4 := by rw [e_f_t_roll_185_4]; exact FA_upd (by first | assumption | exact FA_0) _ (by first | omega | assumption | trivial)
                  refine ok_bx (fun x3_186_4 e_x3_186_4 => ?_)
                  try have t_x3_186_4 : x3_186_4.toInt = y3_132_4.toInt + 1 := by rw [e_x3_186_4]; exact addT1 (show (1 : Int32).toInt = 1 from by decide) (by omega) (by omega)
                  exact hih101 x3_186_4 f_t_roll_185_4 (show 0 ≤ x3_186_4.toInt ∧ x3_186_4.toInt ≤ 12 ∧ FA f_t_roll_185_4 from by first | omega | assumption | trivial | (refine ⟨?_, ?_⟩ <;> first | omega | assumption | trivial | rfl) | (refine ⟨?_, ?_, ?_⟩ <;> first | omega | assumption | trivial | rfl) | (refine ⟨?_, ?_, ?_, ?_⟩ <;> first | omega | assumption | trivial | rfl) | (refine ⟨?_, ?_, ?_, ?_, ?_⟩ <;> first | omega | assumption | trivial | rfl) | (refine ⟨?_, ?_, ?_, ?_, ?_, ?_⟩ <;> first | omega | assumption | trivial | rfl) | (refine ⟨?_, ?_, ?_, ?_, ?_, ?_, ?_⟩ <;> first | omega | assumption | trivial | rfl) | (refine ⟨?_, ?_, ?_, ?_, ?_, ?_, ?_, ?_⟩ <;> first | omega | assumption | trivial | rfl)) (show (c_t_many_79_4.toInt - x3_186_4.toInt + 1).toNat < (c_t_many_79_4.toInt - y3_132_4.toInt + 1).toNat from by omega)
              · refine ok_o2 (sp_X9_done c_t_acts c_t_many_79_4 ) (fun r197_8 c_t_acts_197_8 h108 => ?_)
                exact ok_s (show 0 ≤ c_t_many_79_4.toInt ∧ c_t_many_79_4.toInt ≤ 12 ∧ FA f_t_roll_79_4 from by first | omega | assumption | trivial | (refine ⟨?_, ?_⟩ <;> first | omega | assumption | trivial | rfl) | (refine ⟨?_, ?_, ?_⟩ <;> first | omega | assumption | trivial | rfl) | (refine ⟨?_, ?_, ?_, ?_⟩ <;> first | omega | assumption | trivial | rfl) | (refine ⟨?_, ?_, ?_, ?_, ?_⟩ <;> first | omega | assumption | trivial | rfl) | (refine ⟨?_, ?_, ?_, ?_, ?_, ?_⟩ <;> first | omega | assumption | trivial | rfl) | (refine ⟨?_, ?_, ?_, ?_, ?_, ?_, ?_⟩ <;> first | omega | assumption | trivial | rfl) | (refine ⟨?_, ?_, ?_, ?_, ?_, ?_, ?_, ?_⟩ <;> first | omega | assumption | trivial | rfl))
            · refine ok_bx (fun c_t_many_98_4 e_c_t_many_98_4 => ?_)
              try have t_c_t_many_98_4 : c_t_many_98_4.toInt = c_t_many_79_4.toInt + 1 := by rw [e_c_t_many_98_4]; exact addT1 (show (1 : Int32).toInt = 1 from by decide) (by omega) (by omega)
              refine ok_o (sp_X9_least y3_79_4 (by first | omega | assumption | trivial | exact wt_of (by assumption) (by omega)) (by first | omega | assumption | trivial | exact wt_of (by assumption) (by omega))) (fun r102_4 h109 => ?_)
              have h109 : 1 ≤ DG r102_4 ∧ DG r102_4 ≤ DG y3_79_4 := h109
              refine ok_c (ixo (by omega) (by omega)) ?_
              refine ok_bx (fun f_t_roll_105_4 e_f_t_roll_105_4 => ?_)
              try have t_f_t_roll_105_4 : FA f_t_roll_105_4 := by rw [e_f_t_roll_105_4]; exact FA_upd (by first | assumption | exact FA_0) _ (by first | omega | assumption | trivial)
              obtain ⟨w110, e_w110⟩ : ∃ w : Int32, w = c_t_many_98_4 - (1 : Int32) := ⟨_, rfl⟩
              try have t_w110 : w110.toInt = c_t_many_98_4.toInt - 1 := by rw [e_w110]; exact subT1 (show (1 : Int32).toInt = 1 from by decide) (by omega) (by omega)
              try rw [← e_w110]
              refine ok_c (ixo (by omega) (by omega)) ?_
              try have a111 := FA_at (f := f_t_roll_105_4) (by assumption) w110.toNatClampNeg
              have hi : w110 = c_t_many_79_4 := Int32.toInt_inj.mp (by omega)
              have hv : DG (f_t_roll_105_4 w110.toNatClampNeg) = DG r102_4 := by rw [hi, e_f_t_roll_105_4]; simp [vp_updL]
              refine ok_o (sp_X9_quotientOf y3_79_4 (f_t_roll_105_4 w110.toNatClampNeg) (by first | omega | assumption | trivial | exact wt_of (by assumption) (by omega)) (by first | omega | assumption | trivial | exact wt_of (by assumption) (by omega)) (by first | omega | assumption | trivial | exact wt_of (by assumption) (by omega))) (fun r118_4 h112 => ?_)
              have h112 : (DG y3_79_4 < DG (f_t_roll_105_4 w110.toNatClampNeg) ∧ DG r118_4 = -1) ∨ (DG (f_t_roll_105_4 w110.toNatClampNeg) ≤ DG y3_79_4 ∧ DG r118_4 = DG y3_79_4 - DG (f_t_roll_105_4 w110.toNatClampNeg)) := h112
              exact hih97 r118_4 c_t_many_98_4 f_t_roll_105_4 (show 0 ≤ DG r118_4 ∧ 0 ≤ c_t_many_98_4.toInt ∧ c_t_many_98_4.toInt + DG r118_4 ≤ 10 ∧ FA f_t_roll_105_4 from by first | omega | assumption | trivial | (refine ⟨?_, ?_⟩ <;> first | omega | assumption | trivial | rfl) | (refine ⟨?_, ?_, ?_⟩ <;> first | omega | assumption | trivial | rfl) | (refine ⟨?_, ?_, ?_, ?_⟩ <;> first | omega | assumption | trivial | rfl) | (refine ⟨?_, ?_, ?_, ?_, ?_⟩ <;> first | omega | assumption | trivial | rfl) | (refine ⟨?_, ?_, ?_, ?_, ?_, ?_⟩ <;> first | omega | assumption | trivial | rfl) | (refine ⟨?_, ?_, ?_, ?_, ?_, ?_, ?_⟩ <;> first | omega | assumption | trivial | rfl) | (refine ⟨?_, ?_, ?_, ?_, ?_, ?_, ?_, ?_⟩ <;> first | omega | assumption | trivial | rfl)) (show (DG r118_4).toNat < (DG y3_79_4).toNat from by omega)
          · refine ok_o2 (sp_X9_no c_t_refused ) (fun r63_8 c_t_refused_63_8 h113 => ?_)
            exact ok_s (show 0 ≤ c_t_many.toInt ∧ c_t_many.toInt ≤ 12 ∧ FA f_t_roll from by first | omega | assumption | trivial | (refine ⟨?_, ?_⟩ <;> first | omega | assumption | trivial | rfl) | (refine ⟨?_, ?_, ?_⟩ <;> first | omega | assumption | trivial | rfl) | (refine ⟨?_, ?_, ?_, ?_⟩ <;> first | omega | assumption | trivial | rfl) | (refine ⟨?_, ?_, ?_, ?_, ?_⟩ <;> first | omega | assumption | trivial | rfl) | (refine ⟨?_, ?_, ?_, ?_, ?_, ?_⟩ <;> first | omega | assumption | trivial | rfl) | (refine ⟨?_, ?_, ?_, ?_, ?_, ?_, ?_⟩ <;> first | omega | assumption | trivial | rfl) | (refine ⟨?_, ?_, ?_, ?_, ?_, ?_, ?_, ?_⟩ <;> first | omega | assumption | trivial | rfl))
      · exact ok_s (show 0 ≤ c_t_many.toInt ∧ c_t_many.toInt ≤ 12 ∧ FA f_t_roll from by first | omega | assumption | trivial | (refine ⟨?_, ?_⟩ <;> first | omega | assumption | trivial | rfl) | (refine ⟨?_, ?_, ?_⟩ <;> first | omega | assumption | trivial | rfl) | (refine ⟨?_, ?_, ?_, ?_⟩ <;> first | omega | assumption | trivial | rfl) | (refine ⟨?_, ?_, ?_, ?_, ?_⟩ <;> first | omega | assumption | trivial | rfl) | (refine ⟨?_, ?_, ?_, ?_, ?_, ?_⟩ <;> first | omega | assumption | trivial | rfl) | (refine ⟨?_, ?_, ?_, ?_, ?_, ?_, ?_⟩ <;> first | omega | assumption | trivial | rfl) | (refine ⟨?_, ?_, ?_, ?_, ?_, ?_, ?_, ?_⟩ <;> first | omega | assumption | trivial | rfl))
    · refine ok_le (fun c114 => ?_) (fun c114 => ?_)
      · first | unfold J_X9_factor_27 | skip
        refine ok_o2 (sp_X9_isThrown (0 : Int32) (0 : Int32) ) (fun r27_5 c_t_thrown_27_5 h115 => ?_)
        have h115 : (r27_5.toInt = 0 ∧ c_t_thrown_27_5.toInt = 0 ∧ (0 : Int32).toInt = 0 ∧ (0 : Int32).toInt = 0) ∨ (r27_5.toInt = 1 ∧ c_t_thrown_27_5.toInt = 1 ∧ (0 : Int32).toInt ≠ 0) ∨ (r27_5.toInt = 1 ∧ c_t_thrown_27_5.toInt = 2 ∧ (0 : Int32).toInt = 0 ∧ (0 : Int32).toInt ≠ 0) := h115
        refine ok_eq (fun c116 => ?_) (fun c116 => ?_)
        · refine ok_c (ixo (by omega) (by omega)) ?_
          try have a117 := FA_at (f := f_t_forms) (by assumption) p0.toNatClampNeg
          refine ok_o (sp_X9_degreeOf (f_t_forms p0.toNatClampNeg) ) (fun r41_5 h118 => ?_)
          have h118 : r41_5.toInt = DG (f_t_forms p0.toNatClampNeg) ∧ -1 ≤ r41_5.toInt ∧ r41_5.toInt ≤ 63 := h118
          refine ok_lt (fun c119 => ?_) (fun c119 => ?_)
          · refine ok_o2 (sp_X9_no c_t_refused ) (fun r63_9 c_t_refused_63_9 h120 => ?_)
            exact ok_s (show 0 ≤ c_t_many.toInt ∧ c_t_many.toInt ≤ 12 ∧ FA f_t_roll from by first | omega | assumption | trivial | (refine ⟨?_, ?_⟩ <;> first | omega | assumption | trivial | rfl) | (refine ⟨?_, ?_, ?_⟩ <;> first | omega | assumption | trivial | rfl) | (refine ⟨?_, ?_, ?_, ?_⟩ <;> first | omega | assumption | trivial | rfl) | (refine ⟨?_, ?_, ?_, ?_, ?_⟩ <;> first | omega | assumption | trivial | rfl) | (refine ⟨?_, ?_, ?_, ?_, ?_, ?_⟩ <;> first | omega | assumption | trivial | rfl) | (refine ⟨?_, ?_, ?_, ?_, ?_, ?_, ?_⟩ <;> first | omega | assumption | trivial | rfl) | (refine ⟨?_, ?_, ?_, ?_, ?_, ?_, ?_, ?_⟩ <;> first | omega | assumption | trivial | rfl))
          · refine ok_c (ixo (by omega) (by omega)) ?_
            try have a121 := FA_at (f := f_t_forms) (by assumption) p0.toNatClampNeg
            refine ok_o (sp_X9_degreeOf (f_t_forms p0.toNatClampNeg) ) (fun r54_5 h122 => ?_)
            have h122 : r54_5.toInt = DG (f_t_forms p0.toNatClampNeg) ∧ -1 ≤ r54_5.toInt ∧ r54_5.toInt ≤ 63 := h122
            refine ok_le (fun c123 => ?_) (fun c123 => ?_)
            · refine ok_c (ixo (by omega) (by omega)) ?_
              try have a124 := FA_at (f := f_t_forms) (by assumption) p0.toNatClampNeg
              refine ok_bx (fun x3_78_5 e_x3_78_5 => ?_)
              try have q_x3_78_5 : DG x3_78_5 = DG (f_t_forms p0.toNatClampNeg) := by rw [e_x3_78_5]
              try have d_x3_78_5 : -1 ≤ DG x3_78_5 ∧ DG x3_78_5 ≤ 39 := by rw [e_x3_78_5]; exact FA_at (by assumption) _
              refine ok_L3 (fun y3_79_5 c_t_many_79_5 f_t_roll_79_5 => 0 ≤ DG y3_79_5 ∧ 0 ≤ c_t_many_79_5.toInt ∧ c_t_many_79_5.toInt + DG y3_79_5 ≤ 10 ∧ FA f_t_roll_79_5) (fun y3_79_5 c_t_many_79_5 f_t_roll_79_5 => (DG y3_79_5).toNat) (fun ih79_5 y3_79_5 c_t_many_79_5 f_t_roll_79_5 hI125 hih125 => ?_) 20000 x3_78_5 (0 : Int32) f_t_roll (show 0 ≤ DG x3_78_5 ∧ 0 ≤ (0 : Int32).toInt ∧ (0 : Int32).toInt + DG x3_78_5 ≤ 10 ∧ FA f_t_roll from by first | omega | assumption | trivial | (refine ⟨?_, ?_⟩ <;> first | omega | assumption | trivial | rfl) | (refine ⟨?_, ?_, ?_⟩ <;> first | omega | assumption | trivial | rfl) | (refine ⟨?_, ?_, ?_, ?_⟩ <;> first | omega | assumption | trivial | rfl) | (refine ⟨?_, ?_, ?_, ?_, ?_⟩ <;> first | omega | assumption | trivial | rfl) | (refine ⟨?_, ?_, ?_, ?_, ?_, ?_⟩ <;> first | omega | assumption | trivial | rfl) | (refine ⟨?_, ?_, ?_, ?_, ?_, ?_, ?_⟩ <;> first | omega | assumption | trivial | rfl) | (refine ⟨?_, ?_, ?_, ?_, ?_, ?_, ?_, ?_⟩ <;> first | omega | assumption | trivial | rfl)) (show (DG x3_78_5).toNat < 20000 from by omega)
              have hI125 : 0 ≤ DG y3_79_5 ∧ 0 ≤ c_t_many_79_5.toInt ∧ c_t_many_79_5.toInt + DG y3_79_5 ≤ 10 ∧ FA f_t_roll_79_5 := hI125
              obtain ⟨hI125_0, hI125_1, hI125_2, hI125_3⟩ := hI125
              unfold S_X9_factor_79
              refine ok_o (sp_X9_degreeOf y3_79_5 ) (fun r80_5 h126 => ?_)
              have h126 : r80_5.toInt = DG y3_79_5 ∧ -1 ≤ r80_5.toInt ∧ r80_5.toInt ≤ 63 := h126
              refine ok_le (fun c127 => ?_) (fun c127 => ?_)
              · refine ok_eq (fun c128 => ?_) (fun c128 => ?_)
                · refine ok_L2 (fun y3_132_5 f_t_roll_132_5 => 0 ≤ y3_132_5.toInt ∧ y3_132_5.toInt ≤ 12 ∧ FA f_t_roll_132_5) (fun y3_132_5 f_t_roll_132_5 => (c_t_many_79_5.toInt - y3_132_5.toInt + 1).toNat) (fun ih132_5 y3_132_5 f_t_roll_132_5 hI129 hih129 => ?_) 20000 (0 : Int32) f_t_roll_79_5 (show 0 ≤ (0 : Int32).toInt ∧ (0 : Int32).toInt ≤ 12 ∧ FA f_t_roll_79_5 from by first | omega | assumption | trivial | (refine ⟨?_, ?_⟩ <;> first | omega | assumption | trivial | rfl) | (refine ⟨?_, ?_, ?_⟩ <;> first | omega | assumption | trivial | rfl) | (refine ⟨?_, ?_, ?_, ?_⟩ <;> first | omega | assumption | trivial | rfl) | (refine ⟨?_, ?_, ?_, ?_, ?_⟩ <;> first | omega | assumption | trivial | rfl) | (refine ⟨?_, ?_, ?_, ?_, ?_, ?_⟩ <;> first | omega | assumption | trivial | rfl) | (refine ⟨?_, ?_, ?_, ?_, ?_, ?_, ?_⟩ <;> first | omega | assumption | trivial | rfl) | (refine ⟨?_, ?_, ?_, ?_, ?_, ?_, ?_, ?_⟩ <;> first | omega | assumption | trivial | rfl)) (show (c_t_many_79_5.toInt - (0 : Int32).toInt + 1).toNat < 20000 from by omega)
                  have hI129 : 0 ≤ y3_132_5.toInt ∧ y3_132_5.toInt ≤ 12 ∧ FA f_t_roll_132_5 := hI129
                  obtain ⟨hI129_0, hI129_1, hI129_2⟩ := hI129
                  unfold S_X9_factor_132
                  obtain ⟨w130, e_w130⟩ : ∃ w : Int32, w = c_t_many_79_5 - (1 : Int32) := ⟨_, rfl⟩
                  try have t_w130 : w130.toInt = c_t_many_79_5.toInt - 1 := by rw [e_w130]; exact subT1 (show (1 : Int32).toInt = 1 from by decide) (by omega) (by omega)
                  try rw [← e_w130]
                  obtain ⟨w131, e_w131⟩ : ∃ w : Int32, w = w130 - y3_132_5 := ⟨_, rfl⟩
                  try have t_w131 : w131.toInt = w130.toInt - y3_132_5.toInt := by rw [e_w131]; exact subT1 (Eq.refl _) (by omega) (by omega)
                  try rw [← e_w131]
                  refine ok_le (fun c132 => ?_) (fun c132 => ?_)
                  · refine ok_o2 (sp_X9_done c_t_acts c_t_many_79_5 ) (fun r197_9 c_t_acts_197_9 h133 => ?_)
                    exact ok_s (show 0 ≤ c_t_many_79_5.toInt ∧ c_t_many_79_5.toInt ≤ 12 ∧ FA f_t_roll_132_5 from by first | omega | assumption | trivial | (refine ⟨?_, ?_⟩ <;> first | omega | assumption | trivial | rfl) | (refine ⟨?_, ?_, ?_⟩ <;> first | omega | assumption | trivial | rfl) | (refine ⟨?_, ?_, ?_, ?_⟩ <;> first | omega | assumption | trivial | rfl) | (refine ⟨?_, ?_, ?_, ?_, ?_⟩ <;> first | omega | assumption | trivial | rfl) | (refine ⟨?_, ?_, ?_, ?_, ?_, ?_⟩ <;> first | omega | assumption | trivial | rfl) | (refine ⟨?_, ?_, ?_, ?_, ?_, ?_, ?_⟩ <;> first | omega | assumption | trivial | rfl) | (refine ⟨?_, ?_, ?_, ?_, ?_, ?_, ?_, ?_⟩ <;> first | omega | assumption | trivial | rfl))
                  · refine ok_c (ixo (by omega) (by omega)) ?_
                    try have a134 := FA_at (f := f_t_roll_132_5) (by assumption) y3_132_5.toNatClampNeg
                    refine ok_bx (fun x4_150_5 e_x4_150_5 => ?_)
                    try have q_x4_150_5 : DG x4_150_5 = DG (f_t_roll_132_5 y3_132_5.toNatClampNeg) := by rw [e_x4_150_5]
                    try have d_x4_150_5 : -1 ≤ DG x4_150_5 ∧ DG x4_150_5 ≤ 39 := by rw [e_x4_150_5]; exact FA_at (by assumption) _
                    refine ok_c (ixo (by omega) (by omega)) ?_
                    refine ok_c (ixo (by omega) (by omega)) ?_
                    try have a135 := FA_at (f := f_t_roll_132_5) (by assumption) w131.toNatClampNeg
                    refine ok_bx (fun f_t_roll_170_5 e_f_t_roll_170_5 => ?_)
                    try have t_f_t_roll_170_5 : FA f_t_roll_170_5 := by rw [e_f_t_roll_170_5]; exact FA_upd (by first | assumption | exact FA_0) _ (by first | omega | assumption | trivial)
                    refine ok_c (ixo (by omega) (by omega)) ?_
                    refine ok_bx (fun f_t_roll_185_5 e_f_t_roll_185_5 => ?_)
                    try have t_f_t_roll_185_5 : FA f_t_roll_185_5 := by rw [e_f_t_roll_185_5]; exact FA_upd (by first | assumption | exact FA_0) _ (by first | omega | assumption | trivial)
                    refine ok_bx (fun x3_186_5 e_x3_186_5 => ?_)
                    try have t_x3_186_5 : x3_186_5.toInt = y3_132_5.toInt + 1 := by rw [e_x3_186_5]; exact addT1 (show (1 : Int32).toInt = 1 from by decide) (by omega) (by omega)
                    exact hih129 x3_186_5 f_t_roll_185_5 (show 0 ≤ x3_186_5.toInt ∧ x3_186_5.toInt ≤ 12 ∧ FA f_t_roll_185_5 from by first | omega | assumption | trivial | (refine ⟨?_, ?_⟩ <;> first | omega | assumption | trivial | rfl) | (refine ⟨?_, ?_, ?_⟩ <;> first | omega | assumption | trivial | rfl) | (refine ⟨?_, ?_, ?_, ?_⟩ <;> first | omega | assumption | trivial | rfl) | (refine ⟨?_, ?_, ?_, ?_, ?_⟩ <;> first | omega | assumption | trivial | rfl) | (refine ⟨?_, ?_, ?_, ?_, ?_, ?_⟩ <;> first | omega | assumption | trivial | rfl) | (refine ⟨?_, ?_, ?_, ?_, ?_, ?_, ?_⟩ <;> first | omega | assumption | trivial | rfl) | (refine ⟨?_, ?_, ?_, ?_, ?_, ?_, ?_, ?_⟩ <;> first | omega | assumption | trivial | rfl)) (show (c_t_many_79_5.toInt - x3_186_5.toInt + 1).toNat < (c_t_many_79_5.toInt - y3_132_5.toInt + 1).toNat from by omega)
                · refine ok_o2 (sp_X9_done c_t_acts c_t_many_79_5 ) (fun r197_10 c_t_acts_197_10 h136 => ?_)
                  exact ok_s (show 0 ≤ c_t_many_79_5.toInt ∧ c_t_many_79_5.toInt ≤ 12 ∧ FA f_t_roll_79_5 from by first | omega | assumption | trivial | (refine ⟨?_, ?_⟩ <;> first | omega | assumption | trivial | rfl) | (refine ⟨?_, ?_, ?_⟩ <;> first | omega | assumption | trivial | rfl) | (refine ⟨?_, ?_, ?_, ?_⟩ <;> first | omega | assumption | trivial | rfl) | (refine ⟨?_, ?_, ?_, ?_, ?_⟩ <;> first | omega | assumption | trivial | rfl) | (refine ⟨?_, ?_, ?_, ?_, ?_, ?_⟩ <;> first | omega | assumption | trivial | rfl) | (refine ⟨?_, ?_, ?_, ?_, ?_, ?_, ?_⟩ <;> first | omega | assumption | trivial | rfl) | (refine ⟨?_, ?_, ?_, ?_, ?_, ?_, ?_, ?_⟩ <;> first | omega | assumption | trivial | rfl))
              · refine ok_bx (fun c_t_many_98_5 e_c_t_many_98_5 => ?_)
                try have t_c_t_many_98_5 : c_t_many_98_5.toInt = c_t_many_79_5.toInt + 1 := by rw [e_c_t_many_98_5]; exact addT1 (show (1 : Int32).toInt = 1 from by decide) (by omega) (by omega)
                refine ok_o (sp_X9_least y3_79_5 (by first | omega | assumption | trivial | exact wt_of (by assumption) (by omega)) (by first | omega | assumption | trivial | exact wt_of (by assumption) (by omega))) (fun r102_5 h137 => ?_)
                have h137 : 1 ≤ DG r102_5 ∧ DG r102_5 ≤ DG y3_79_5 := h137
                refine ok_c (ixo (by omega) (by omega)) ?_
                refine ok_bx (fun f_t_roll_105_5 e_f_t_roll_105_5 => ?_)
                try have t_f_t_roll_105_5 : FA f_t_roll_105_5 := by rw [e_f_t_roll_105_5]; exact FA_upd (by first | assumption | exact FA_0) _ (by first | omega | assumption | trivial)
                obtain ⟨w138, e_w138⟩ : ∃ w : Int32, w = c_t_many_98_5 - (1 : Int32) := ⟨_, rfl⟩
                try have t_w138 : w138.toInt = c_t_many_98_5.toInt - 1 := by rw [e_w138]; exact subT1 (show (1 : Int32).toInt = 1 from by decide) (by omega) (by omega)
                try rw [← e_w138]
                refine ok_c (ixo (by omega) (by omega)) ?_
                try have a139 := FA_at (f := f_t_roll_105_5) (by assumption) w138.toNatClampNeg
                have hi : w138 = c_t_many_79_5 := Int32.toInt_inj.mp (by omega)
                have hv : DG (f_t_roll_105_5 w138.toNatClampNeg) = DG r102_5 := by rw [hi, e_f_t_roll_105_5]; simp [vp_updL]
                refine ok_o (sp_X9_quotientOf y3_79_5 (f_t_roll_105_5 w138.toNatClampNeg) (by first | omega | assumption | trivial | exact wt_of (by assumption) (by omega)) (by first | omega | assumption | trivial | exact wt_of (by assumption) (by omega)) (by first | omega | assumption | trivial | exact wt_of (by assumption) (by omega))) (fun r118_5 h140 => ?_)
                have h140 : (DG y3_79_5 < DG (f_t_roll_105_5 w138.toNatClampNeg) ∧ DG r118_5 = -1) ∨ (DG (f_t_roll_105_5 w138.toNatClampNeg) ≤ DG y3_79_5 ∧ DG r118_5 = DG y3_79_5 - DG (f_t_roll_105_5 w138.toNatClampNeg)) := h140
                exact hih125 r118_5 c_t_many_98_5 f_t_roll_105_5 (show 0 ≤ DG r118_5 ∧ 0 ≤ c_t_many_98_5.toInt ∧ c_t_many_98_5.toInt + DG r118_5 ≤ 10 ∧ FA f_t_roll_105_5 from by first | omega | assumption | trivial | (refine ⟨?_, ?_⟩ <;> first | omega | assumption | trivial | rfl) | (refine ⟨?_, ?_, ?_⟩ <;> first | omega | assumption | trivial | rfl) | (refine ⟨?_, ?_, ?_, ?_⟩ <;> first | omega | assumption | trivial | rfl) | (refine ⟨?_, ?_, ?_, ?_, ?_⟩ <;> first | omega | assumption | trivial | rfl) | (refine ⟨?_, ?_, ?_, ?_, ?_, ?_⟩ <;> first | omega | assumption | trivial | rfl) | (refine ⟨?_, ?_, ?_, ?_, ?_, ?_, ?_⟩ <;> first | omega | assumption | trivial | rfl) | (refine ⟨?_, ?_, ?_, ?_, ?_, ?_, ?_, ?_⟩ <;> first | omega | assumption | trivial | rfl)) (show (DG r118_5).toNat < (DG y3_79_5).toNat from by omega)
            · refine ok_o2 (sp_X9_no c_t_refused ) (fun r63_10 c_t_refused_63_10 h141 => ?_)
              exact ok_s (show 0 ≤ c_t_many.toInt ∧ c_t_many.toInt ≤ 12 ∧ FA f_t_roll from by first | omega | assumption | trivial | (refine ⟨?_, ?_⟩ <;> first | omega | assumption | trivial | rfl) | (refine ⟨?_, ?_, ?_⟩ <;> first | omega | assumption | trivial | rfl) | (refine ⟨?_, ?_, ?_, ?_⟩ <;> first | omega | assumption | trivial | rfl) | (refine ⟨?_, ?_, ?_, ?_, ?_⟩ <;> first | omega | assumption | trivial | rfl) | (refine ⟨?_, ?_, ?_, ?_, ?_, ?_⟩ <;> first | omega | assumption | trivial | rfl) | (refine ⟨?_, ?_, ?_, ?_, ?_, ?_, ?_⟩ <;> first | omega | assumption | trivial | rfl) | (refine ⟨?_, ?_, ?_, ?_, ?_, ?_, ?_, ?_⟩ <;> first | omega | assumption | trivial | rfl))
        · exact ok_s (show 0 ≤ c_t_many.toInt ∧ c_t_many.toInt ≤ 12 ∧ FA f_t_roll from by first | omega | assumption | trivial | (refine ⟨?_, ?_⟩ <;> first | omega | assumption | trivial | rfl) | (refine ⟨?_, ?_, ?_⟩ <;> first | omega | assumption | trivial | rfl) | (refine ⟨?_, ?_, ?_, ?_⟩ <;> first | omega | assumption | trivial | rfl) | (refine ⟨?_, ?_, ?_, ?_, ?_⟩ <;> first | omega | assumption | trivial | rfl) | (refine ⟨?_, ?_, ?_, ?_, ?_, ?_⟩ <;> first | omega | assumption | trivial | rfl) | (refine ⟨?_, ?_, ?_, ?_, ?_, ?_, ?_⟩ <;> first | omega | assumption | trivial | rfl) | (refine ⟨?_, ?_, ?_, ?_, ?_, ?_, ?_, ?_⟩ <;> first | omega | assumption | trivial | rfl))
      · first | unfold J_X9_factor_22 | skip
        first | unfold J_X9_factor_27 | skip
        refine ok_o2 (sp_X9_isThrown (0 : Int32) (1 : Int32) ) (fun r27_6 c_t_thrown_27_6 h142 => ?_)
        have h142 : (r27_6.toInt = 0 ∧ c_t_thrown_27_6.toInt = 0 ∧ (0 : Int32).toInt = 0 ∧ (1 : Int32).toInt = 0) ∨ (r27_6.toInt = 1 ∧ c_t_thrown_27_6.toInt = 1 ∧ (0 : Int32).toInt ≠ 0) ∨ (r27_6.toInt = 1 ∧ c_t_thrown_27_6.toInt = 2 ∧ (0 : Int32).toInt = 0 ∧ (1 : Int32).toInt ≠ 0) := h142
        refine ok_eq (fun c143 => ?_) (fun c143 => ?_)
        · refine ok_c (ixo (by omega) (by omega)) ?_
          try have a144 := FA_at (f := f_t_forms) (by assumption) p0.toNatClampNeg
          refine ok_o (sp_X9_degreeOf (f_t_forms p0.toNatClampNeg) ) (fun r41_6 h145 => ?_)
          have h145 : r41_6.toInt = DG (f_t_forms p0.toNatClampNeg) ∧ -1 ≤ r41_6.toInt ∧ r41_6.toInt ≤ 63 := h145
          refine ok_lt (fun c146 => ?_) (fun c146 => ?_)
          · refine ok_o2 (sp_X9_no c_t_refused ) (fun r63_11 c_t_refused_63_11 h147 => ?_)
            exact ok_s (show 0 ≤ c_t_many.toInt ∧ c_t_many.toInt ≤ 12 ∧ FA f_t_roll from by first | omega | assumption | trivial | (refine ⟨?_, ?_⟩ <;> first | omega | assumption | trivial | rfl) | (refine ⟨?_, ?_, ?_⟩ <;> first | omega | assumption | trivial | rfl) | (refine ⟨?_, ?_, ?_, ?_⟩ <;> first | omega | assumption | trivial | rfl) | (refine ⟨?_, ?_, ?_, ?_, ?_⟩ <;> first | omega | assumption | trivial | rfl) | (refine ⟨?_, ?_, ?_, ?_, ?_, ?_⟩ <;> first | omega | assumption | trivial | rfl) | (refine ⟨?_, ?_, ?_, ?_, ?_, ?_, ?_⟩ <;> first | omega | assumption | trivial | rfl) | (refine ⟨?_, ?_, ?_, ?_, ?_, ?_, ?_, ?_⟩ <;> first | omega | assumption | trivial | rfl))
          · refine ok_c (ixo (by omega) (by omega)) ?_
            try have a148 := FA_at (f := f_t_forms) (by assumption) p0.toNatClampNeg
            refine ok_o (sp_X9_degreeOf (f_t_forms p0.toNatClampNeg) ) (fun r54_6 h149 => ?_)
            have h149 : r54_6.toInt = DG (f_t_forms p0.toNatClampNeg) ∧ -1 ≤ r54_6.toInt ∧ r54_6.toInt ≤ 63 := h149
            refine ok_le (fun c150 => ?_) (fun c150 => ?_)
            · refine ok_c (ixo (by omega) (by omega)) ?_
              try have a151 := FA_at (f := f_t_forms) (by assumption) p0.toNatClampNeg
              refine ok_bx (fun x3_78_6 e_x3_78_6 => ?_)
              try have q_x3_78_6 : DG x3_78_6 = DG (f_t_forms p0.toNatClampNeg) := by rw [e_x3_78_6]
              try have d_x3_78_6 : -1 ≤ DG x3_78_6 ∧ DG x3_78_6 ≤ 39 := by rw [e_x3_78_6]; exact FA_at (by assumption) _
              refine ok_L3 (fun y3_79_6 c_t_many_79_6 f_t_roll_79_6 => 0 ≤ DG y3_79_6 ∧ 0 ≤ c_t_many_79_6.toInt ∧ c_t_many_79_6.toInt + DG y3_79_6 ≤ 10 ∧ FA f_t_roll_79_6) (fun y3_79_6 c_t_many_79_6 f_t_roll_79_6 => (DG y3_79_6).toNat) (fun ih79_6 y3_79_6 c_t_many_79_6 f_t_roll_79_6 hI152 hih152 => ?_) 20000 x3_78_6 (0 : Int32) f_t_roll (show 0 ≤ DG x3_78_6 ∧ 0 ≤ (0 : Int32).toInt ∧ (0 : Int32).toInt + DG x3_78_6 ≤ 10 ∧ FA f_t_roll from by first | omega | assumption | trivial | (refine ⟨?_, ?_⟩ <;> first | omega | assumption | trivial | rfl) | (refine ⟨?_, ?_, ?_⟩ <;> first | omega | assumption | trivial | rfl) | (refine ⟨?_, ?_, ?_, ?_⟩ <;> first | omega | assumption | trivial | rfl) | (refine ⟨?_, ?_, ?_, ?_, ?_⟩ <;> first | omega | assumption | trivial | rfl) | (refine ⟨?_, ?_, ?_, ?_, ?_, ?_⟩ <;> first | omega | assumption | trivial | rfl) | (refine ⟨?_, ?_, ?_, ?_, ?_, ?_, ?_⟩ <;> first | omega | assumption | trivial | rfl) | (refine ⟨?_, ?_, ?_, ?_, ?_, ?_, ?_, ?_⟩ <;> first | omega | assumption | trivial | rfl)) (show (DG x3_78_6).toNat < 20000 from by omega)
              have hI152 : 0 ≤ DG y3_79_6 ∧ 0 ≤ c_t_many_79_6.toInt ∧ c_t_many_79_6.toInt + DG y3_79_6 ≤ 10 ∧ FA f_t_roll_79_6 := hI152
              obtain ⟨hI152_0, hI152_1, hI152_2, hI152_3⟩ := hI152
              unfold S_X9_factor_79
              refine ok_o (sp_X9_degreeOf y3_79_6 ) (fun r80_6 h153 => ?_)
              have h153 : r80_6.toInt = DG y3_79_6 ∧ -1 ≤ r80_6.toInt ∧ r80_6.toInt ≤ 63 := h153
              refine ok_le (fun c154 => ?_) (fun c154 => ?_)
              · refine ok_eq (fun c155 => ?_) (fun c155 => ?_)
                · refine ok_L2 (fun y3_132_6 f_t_roll_132_6 => 0 ≤ y3_132_6.toInt ∧ y3_132_6.toInt ≤ 12 ∧ FA f_t_roll_132_6) (fun y3_132_6 f_t_roll_132_6 => (c_t_many_79_6.toInt - y3_132_6.toInt + 1).toNat) (fun ih132_6 y3_132_6 f_t_roll_132_6 hI156 hih156 => ?_) 20000 (0 : Int32) f_t_roll_79_6 (show 0 ≤ (0 : Int32).toInt ∧ (0 : Int32).toInt ≤ 12 ∧ FA f_t_roll_79_6 from by first | omega | assumption | trivial | (refine ⟨?_, ?_⟩ <;> first | omega | assumption | trivial | rfl) | (refine ⟨?_, ?_, ?_⟩ <;> first | omega | assumption | trivial | rfl) | (refine ⟨?_, ?_, ?_, ?_⟩ <;> first | omega | assumption | trivial | rfl) | (refine ⟨?_, ?_, ?_, ?_, ?_⟩ <;> first | omega | assumption | trivial | rfl) | (refine ⟨?_, ?_, ?_, ?_, ?_, ?_⟩ <;> first | omega | assumption | trivial | rfl) | (refine ⟨?_, ?_, ?_, ?_, ?_, ?_, ?_⟩ <;> first | omega | assumption | trivial | rfl) | (refine ⟨?_, ?_, ?_, ?_, ?_, ?_, ?_, ?_⟩ <;> first | omega | assumption | trivial | rfl)) (show (c_t_many_79_6.toInt - (0 : Int32).toInt + 1).toNat < 20000 from by omega)
                  have hI156 : 0 ≤ y3_132_6.toInt ∧ y3_132_6.toInt ≤ 12 ∧ FA f_t_roll_132_6 := hI156
                  obtain ⟨hI156_0, hI156_1, hI156_2⟩ := hI156
                  unfold S_X9_factor_132
                  obtain ⟨w157, e_w157⟩ : ∃ w : Int32, w = c_t_many_79_6 - (1 : Int32) := ⟨_, rfl⟩
                  try have t_w157 : w157.toInt = c_t_many_79_6.toInt - 1 := by rw [e_w157]; exact subT1 (show (1 : Int32).toInt = 1 from by decide) (by omega) (by omega)
                  try rw [← e_w157]
                  obtain ⟨w158, e_w158⟩ : ∃ w : Int32, w = w157 - y3_132_6 := ⟨_, rfl⟩
                  try have t_w158 : w158.toInt = w157.toInt - y3_132_6.toInt := by rw [e_w158]; exact subT1 (Eq.refl _) (by omega) (by omega)
                  try rw [← e_w158]
                  refine ok_le (fun c159 => ?_) (fun c159 => ?_)
                  · refine ok_o2 (sp_X9_done c_t_acts c_t_many_79_6 ) (fun r197_11 c_t_acts_197_11 h160 => ?_)
                    exact ok_s (show 0 ≤ c_t_many_79_6.toInt ∧ c_t_many_79_6.toInt ≤ 12 ∧ FA f_t_roll_132_6 from by first | omega | assumption | trivial | (refine ⟨?_, ?_⟩ <;> first | omega | assumption | trivial | rfl) | (refine ⟨?_, ?_, ?_⟩ <;> first | omega | assumption | trivial | rfl) | (refine ⟨?_, ?_, ?_, ?_⟩ <;> first | omega | assumption | trivial | rfl) | (refine ⟨?_, ?_, ?_, ?_, ?_⟩ <;> first | omega | assumption | trivial | rfl) | (refine ⟨?_, ?_, ?_, ?_, ?_, ?_⟩ <;> first | omega | assumption | trivial | rfl) | (refine ⟨?_, ?_, ?_, ?_, ?_, ?_, ?_⟩ <;> first | omega | assumption | trivial | rfl) | (refine ⟨?_, ?_, ?_, ?_, ?_, ?_, ?_, ?_⟩ <;> first | omega | assumption | trivial | rfl))
                  · refine ok_c (ixo (by omega) (by omega)) ?_
                    try have a161 := FA_at (f := f_t_roll_132_6) (by assumption) y3_132_6.toNatClampNeg
                    refine ok_bx (fun x4_150_6 e_x4_150_6 => ?_)
                    try have q_x4_150_6 : DG x4_150_6 = DG (f_t_roll_132_6 y3_132_6.toNatClampNeg) := by rw [e_x4_150_6]
                    try have d_x4_150_6 : -1 ≤ DG x4_150_6 ∧ DG x4_150_6 ≤ 39 := by rw [e_x4_150_6]; exact FA_at (by assumption) _
                    refine ok_c (ixo (by omega) (by omega)) ?_
                    refine ok_c (ixo (by omega) (by omega)) ?_
                    try have a162 := FA_at (f := f_t_roll_132_6) (by assumption) w158.toNatClampNeg
                    refine ok_bx (fun f_t_roll_170_6 e_f_t_roll_170_6 => ?_)
                    try have t_f_t_roll_170_6 : FA f_t_roll_170_6 := by rw [e_f_t_roll_170_6]; exact FA_upd (by first | assumption | exact FA_0) _ (by first | omega | assumption | trivial)
                    refine ok_c (ixo (by omega) (by omega)) ?_
                    refine ok_bx (fun f_t_roll_185_6 e_f_t_roll_185_6 => ?_)
                    try have t_f_t_roll_185_6 : FA f_t_roll_185_6 := by rw [e_f_t_roll_185_6]; exact FA_upd (by first | assumption | exact FA_0) _ (by first | omega | assumption | trivial)
                    refine ok_bx (fun x3_186_6 e_x3_186_6 => ?_)
                    try have t_x3_186_6 : x3_186_6.toInt = y3_132_6.toInt + 1 := by rw [e_x3_186_6]; exact addT1 (show (1 : Int32).toInt = 1 from by decide) (by omega) (by omega)
                    exact hih156 x3_186_6 f_t_roll_185_6 (show 0 ≤ x3_186_6.toInt ∧ x3_186_6.toInt ≤ 12 ∧ FA f_t_roll_185_6 from by first | omega | assumption | trivial | (refine ⟨?_, ?_⟩ <;> first | omega | assumption | trivial | rfl) | (refine ⟨?_, ?_, ?_⟩ <;> first | omega | assumption | trivial | rfl) | (refine ⟨?_, ?_, ?_, ?_⟩ <;> first | omega | assumption | trivial | rfl) | (refine ⟨?_, ?_, ?_, ?_, ?_⟩ <;> first | omega | assumption | trivial | rfl) | (refine ⟨?_, ?_, ?_, ?_, ?_, ?_⟩ <;> first | omega | assumption | trivial | rfl) | (refine ⟨?_, ?_, ?_, ?_, ?_, ?_, ?_⟩ <;> first | omega | assumption | trivial | rfl) | (refine ⟨?_, ?_, ?_, ?_, ?_, ?_, ?_, ?_⟩ <;> first | omega | assumption | trivial | rfl)) (show (c_t_many_79_6.toInt - x3_186_6.toInt + 1).toNat < (c_t_many_79_6.toInt - y3_132_6.toInt + 1).toNat from by omega)
                · refine ok_o2 (sp_X9_done c_t_acts c_t_many_79_6 ) (fun r197_12 c_t_acts_197_12 h163 => ?_)
                  exact ok_s (show 0 ≤ c_t_many_79_6.toInt ∧ c_t_many_79_6.toInt ≤ 12 ∧ FA f_t_roll_79_6 from by first | omega | assumption | trivial | (refine ⟨?_, ?_⟩ <;> first | omega | assumption | trivial | rfl) | (refine ⟨?_, ?_, ?_⟩ <;> first | omega | assumption | trivial | rfl) | (refine ⟨?_, ?_, ?_, ?_⟩ <;> first | omega | assumption | trivial | rfl) | (refine ⟨?_, ?_, ?_, ?_, ?_⟩ <;> first | omega | assumption | trivial | rfl) | (refine ⟨?_, ?_, ?_, ?_, ?_, ?_⟩ <;> first | omega | assumption | trivial | rfl) | (refine ⟨?_, ?_, ?_, ?_, ?_, ?_, ?_⟩ <;> first | omega | assumption | trivial | rfl) | (refine ⟨?_, ?_, ?_, ?_, ?_, ?_, ?_, ?_⟩ <;> first | omega | assumption | trivial | rfl))
              · refine ok_bx (fun c_t_many_98_6 e_c_t_many_98_6 => ?_)
                try have t_c_t_many_98_6 : c_t_many_98_6.toInt = c_t_many_79_6.toInt + 1 := by rw [e_c_t_many_98_6]; exact addT1 (show (1 : Int32).toInt = 1 from by decide) (by omega) (by omega)
                refine ok_o (sp_X9_least y3_79_6 (by first | omega | assumption | trivial | exact wt_of (by assumption) (by omega)) (by first | omega | assumption | trivial | exact wt_of (by assumption) (by omega))) (fun r102_6 h164 => ?_)
                have h164 : 1 ≤ DG r102_6 ∧ DG r102_6 ≤ DG y3_79_6 := h164
                refine ok_c (ixo (by omega) (by omega)) ?_
                refine ok_bx (fun f_t_roll_105_6 e_f_t_roll_105_6 => ?_)
                try have t_f_t_roll_105_6 : FA f_t_roll_105_6 := by rw [e_f_t_roll_105_6]; exact FA_upd (by first | assumption | exact FA_0) _ (by first | omega | assumption | trivial)
                obtain ⟨w165, e_w165⟩ : ∃ w : Int32, w = c_t_many_98_6 - (1 : Int32) := ⟨_, rfl⟩
                try have t_w165 : w165.toInt = c_t_many_98_6.toInt - 1 := by rw [e_w165]; exact subT1 (show (1 : Int32).toInt = 1 from by decide) (by omega) (by omega)
                try rw [← e_w165]
                refine ok_c (ixo (by omega) (by omega)) ?_
                try have a166 := FA_at (f := f_t_roll_105_6) (by assumption) w165.toNatClampNeg
                have hi : w165 = c_t_many_79_6 := Int32.toInt_inj.mp (by omega)
                have hv : DG (f_t_roll_105_6 w165.toNatClampNeg) = DG r102_6 := by rw [hi, e_f_t_roll_105_6]; simp [vp_updL]
                refine ok_o (sp_X9_quotientOf y3_79_6 (f_t_roll_105_6 w165.toNatClampNeg) (by first | omega | assumption | trivial | exact wt_of (by assumption) (by omega)) (by first | omega | assumption | trivial | exact wt_of (by assumption) (by omega)) (by first | omega | assumption | trivial | exact wt_of (by assumption) (by omega))) (fun r118_6 h167 => ?_)
                have h167 : (DG y3_79_6 < DG (f_t_roll_105_6 w165.toNatClampNeg) ∧ DG r118_6 = -1) ∨ (DG (f_t_roll_105_6 w165.toNatClampNeg) ≤ DG y3_79_6 ∧ DG r118_6 = DG y3_79_6 - DG (f_t_roll_105_6 w165.toNatClampNeg)) := h167
                exact hih152 r118_6 c_t_many_98_6 f_t_roll_105_6 (show 0 ≤ DG r118_6 ∧ 0 ≤ c_t_many_98_6.toInt ∧ c_t_many_98_6.toInt + DG r118_6 ≤ 10 ∧ FA f_t_roll_105_6 from by first | omega | assumption | trivial | (refine ⟨?_, ?_⟩ <;> first | omega | assumption | trivial | rfl) | (refine ⟨?_, ?_, ?_⟩ <;> first | omega | assumption | trivial | rfl) | (refine ⟨?_, ?_, ?_, ?_⟩ <;> first | omega | assumption | trivial | rfl) | (refine ⟨?_, ?_, ?_, ?_, ?_⟩ <;> first | omega | assumption | trivial | rfl) | (refine ⟨?_, ?_, ?_, ?_, ?_, ?_⟩ <;> first | omega | assumption | trivial | rfl) | (refine ⟨?_, ?_, ?_, ?_, ?_, ?_, ?_⟩ <;> first | omega | assumption | trivial | rfl) | (refine ⟨?_, ?_, ?_, ?_, ?_, ?_, ?_, ?_⟩ <;> first | omega | assumption | trivial | rfl)) (show (DG r118_6).toNat < (DG y3_79_6).toNat from by omega)
            · refine ok_o2 (sp_X9_no c_t_refused ) (fun r63_12 c_t_refused_63_12 h168 => ?_)
              exact ok_s (show 0 ≤ c_t_many.toInt ∧ c_t_many.toInt ≤ 12 ∧ FA f_t_roll from by first | omega | assumption | trivial | (refine ⟨?_, ?_⟩ <;> first | omega | assumption | trivial | rfl) | (refine ⟨?_, ?_, ?_⟩ <;> first | omega | assumption | trivial | rfl) | (refine ⟨?_, ?_, ?_, ?_⟩ <;> first | omega | assumption | trivial | rfl) | (refine ⟨?_, ?_, ?_, ?_, ?_⟩ <;> first | omega | assumption | trivial | rfl) | (refine ⟨?_, ?_, ?_, ?_, ?_, ?_⟩ <;> first | omega | assumption | trivial | rfl) | (refine ⟨?_, ?_, ?_, ?_, ?_, ?_, ?_⟩ <;> first | omega | assumption | trivial | rfl) | (refine ⟨?_, ?_, ?_, ?_, ?_, ?_, ?_, ?_⟩ <;> first | omega | assumption | trivial | rfl))
        · exact ok_s (show 0 ≤ c_t_many.toInt ∧ c_t_many.toInt ≤ 12 ∧ FA f_t_roll from by first | omega | assumption | trivial | (refine ⟨?_, ?_⟩ <;> first | omega | assumption | trivial | rfl) | (refine ⟨?_, ?_, ?_⟩ <;> first | omega | assumption | trivial | rfl) | (refine ⟨?_, ?_, ?_, ?_⟩ <;> first | omega | assumption | trivial | rfl) | (refine ⟨?_, ?_, ?_, ?_, ?_⟩ <;> first | omega | assumption | trivial | rfl) | (refine ⟨?_, ?_, ?_, ?_, ?_, ?_⟩ <;> first | omega | assumption | trivial | rfl) | (refine ⟨?_, ?_, ?_, ?_, ?_, ?_, ?_⟩ <;> first | omega | assumption | trivial | rfl) | (refine ⟨?_, ?_, ?_, ?_, ?_, ?_, ?_, ?_⟩ <;> first | omega | assumption | trivial | rfl))
set_option maxHeartbeats 1000000 in
theorem sp_X9_enroll (c_t_many : Int32) (c_t_acts : Int32) (c_t_refused : Int32) (f_t_forms : Nat → Int64) (f_t_roll : Nat → Int64) (p0 : Int32) (hp0 : 0 ≤ c_t_many.toInt) (hp1 : c_t_many.toInt ≤ 12) (hp2 : FA f_t_forms) (hp3 : FA f_t_roll) : ok (F_X9_enroll c_t_many c_t_acts c_t_refused f_t_forms f_t_roll p0) (fun r => 0 ≤ r.2.1.toInt ∧ r.2.1.toInt ≤ 12 ∧ FA r.2.2.2.2.2) := by
  have l032 : (0 : Int32).toInt = 0 := by decide
  have l132 : (1 : Int32).toInt = 1 := by decide
  have l1232 : (12 : Int32).toInt = 12 := by decide
  unfold F_X9_enroll
  refine ok_o (sp_X9_isForm p0 ) (fun r2 h1 => ?_)
  have h1 : (r2.toInt = 1 ∧ 0 ≤ p0.toInt ∧ p0.toInt ≤ 5) ∨ (r2.toInt = 0 ∧ (p0.toInt < 0 ∨ 6 ≤ p0.toInt)) := h1
  refine ok_eq (fun c2 => ?_) (fun c2 => ?_)
  · refine ok_o2 (sp_X9_isThrown_ (1 : Int32) ) (fun r13 c_t_thrown_13 h3 => ?_)
    have h3 : (r13.toInt = 0 ∧ c_t_thrown_13.toInt = 0 ∧ (1 : Int32).toInt = 0) ∨ (r13.toInt = 1 ∧ c_t_thrown_13.toInt = 1 ∧ (1 : Int32).toInt ≠ 0) := h3
    refine ok_eq (fun c4 => ?_) (fun c4 => ?_)
    · refine ok_eq (fun c5 => ?_) (fun c5 => ?_)
      · refine ok_o2 (sp_X9_no c_t_refused ) (fun r31 c_t_refused_31 h6 => ?_)
        exact ok_s (show 0 ≤ c_t_many.toInt ∧ c_t_many.toInt ≤ 12 ∧ FA f_t_roll from by first | omega | assumption | trivial | (refine ⟨?_, ?_⟩ <;> first | omega | assumption | trivial | rfl) | (refine ⟨?_, ?_, ?_⟩ <;> first | omega | assumption | trivial | rfl) | (refine ⟨?_, ?_, ?_, ?_⟩ <;> first | omega | assumption | trivial | rfl) | (refine ⟨?_, ?_, ?_, ?_, ?_⟩ <;> first | omega | assumption | trivial | rfl) | (refine ⟨?_, ?_, ?_, ?_, ?_, ?_⟩ <;> first | omega | assumption | trivial | rfl) | (refine ⟨?_, ?_, ?_, ?_, ?_, ?_, ?_⟩ <;> first | omega | assumption | trivial | rfl) | (refine ⟨?_, ?_, ?_, ?_, ?_, ?_, ?_, ?_⟩ <;> first | omega | assumption | trivial | rfl))
      · refine ok_bx (fun c_t_many_47 e_c_t_many_47 => ?_)
        try have t_c_t_many_47 : c_t_many_47.toInt = c_t_many.toInt + 1 := by rw [e_c_t_many_47]; exact addT1 (show (1 : Int32).toInt = 1 from by decide) (by omega) (by omega)
        refine ok_c (ixo (by omega) (by omega)) ?_
        refine ok_c (ixo (by omega) (by omega)) ?_
        try have a7 := FA_at (f := f_t_forms) (by assumption) p0.toNatClampNeg
        refine ok_bx (fun f_t_roll_56 e_f_t_roll_56 => ?_)
        try have t_f_t_roll_56 : FA f_t_roll_56 := by rw [e_f_t_roll_56]; exact FA_upd (by first | assumption | exact FA_0) _ (by first | omega | assumption | trivial)
        refine ok_o2 (sp_X9_done c_t_acts c_t_many_47 ) (fun r62 c_t_acts_62 h8 => ?_)
        exact ok_s (show 0 ≤ c_t_many_47.toInt ∧ c_t_many_47.toInt ≤ 12 ∧ FA f_t_roll_56 from by first | omega | assumption | trivial | (refine ⟨?_, ?_⟩ <;> first | omega | assumption | trivial | rfl) | (refine ⟨?_, ?_, ?_⟩ <;> first | omega | assumption | trivial | rfl) | (refine ⟨?_, ?_, ?_, ?_⟩ <;> first | omega | assumption | trivial | rfl) | (refine ⟨?_, ?_, ?_, ?_, ?_⟩ <;> first | omega | assumption | trivial | rfl) | (refine ⟨?_, ?_, ?_, ?_, ?_, ?_⟩ <;> first | omega | assumption | trivial | rfl) | (refine ⟨?_, ?_, ?_, ?_, ?_, ?_, ?_⟩ <;> first | omega | assumption | trivial | rfl) | (refine ⟨?_, ?_, ?_, ?_, ?_, ?_, ?_, ?_⟩ <;> first | omega | assumption | trivial | rfl))
    · exact ok_s (show 0 ≤ c_t_many.toInt ∧ c_t_many.toInt ≤ 12 ∧ FA f_t_roll from by first | omega | assumption | trivial | (refine ⟨?_, ?_⟩ <;> first | omega | assumption | trivial | rfl) | (refine ⟨?_, ?_, ?_⟩ <;> first | omega | assumption | trivial | rfl) | (refine ⟨?_, ?_, ?_, ?_⟩ <;> first | omega | assumption | trivial | rfl) | (refine ⟨?_, ?_, ?_, ?_, ?_⟩ <;> first | omega | assumption | trivial | rfl) | (refine ⟨?_, ?_, ?_, ?_, ?_, ?_⟩ <;> first | omega | assumption | trivial | rfl) | (refine ⟨?_, ?_, ?_, ?_, ?_, ?_, ?_⟩ <;> first | omega | assumption | trivial | rfl) | (refine ⟨?_, ?_, ?_, ?_, ?_, ?_, ?_, ?_⟩ <;> first | omega | assumption | trivial | rfl))
  · refine ok_o2 (sp_X9_isThrown_ (0 : Int32) ) (fun r13_2 c_t_thrown_13_2 h9 => ?_)
    have h9 : (r13_2.toInt = 0 ∧ c_t_thrown_13_2.toInt = 0 ∧ (0 : Int32).toInt = 0) ∨ (r13_2.toInt = 1 ∧ c_t_thrown_13_2.toInt = 1 ∧ (0 : Int32).toInt ≠ 0) := h9
    refine ok_eq (fun c10 => ?_) (fun c10 => ?_)
    · refine ok_eq (fun c11 => ?_) (fun c11 => ?_)
      · refine ok_o2 (sp_X9_no c_t_refused ) (fun r31_2 c_t_refused_31_2 h12 => ?_)
        exact ok_s (show 0 ≤ c_t_many.toInt ∧ c_t_many.toInt ≤ 12 ∧ FA f_t_roll from by first | omega | assumption | trivial | (refine ⟨?_, ?_⟩ <;> first | omega | assumption | trivial | rfl) | (refine ⟨?_, ?_, ?_⟩ <;> first | omega | assumption | trivial | rfl) | (refine ⟨?_, ?_, ?_, ?_⟩ <;> first | omega | assumption | trivial | rfl) | (refine ⟨?_, ?_, ?_, ?_, ?_⟩ <;> first | omega | assumption | trivial | rfl) | (refine ⟨?_, ?_, ?_, ?_, ?_, ?_⟩ <;> first | omega | assumption | trivial | rfl) | (refine ⟨?_, ?_, ?_, ?_, ?_, ?_, ?_⟩ <;> first | omega | assumption | trivial | rfl) | (refine ⟨?_, ?_, ?_, ?_, ?_, ?_, ?_, ?_⟩ <;> first | omega | assumption | trivial | rfl))
      · refine ok_bx (fun c_t_many_47_2 e_c_t_many_47_2 => ?_)
        try have t_c_t_many_47_2 : c_t_many_47_2.toInt = c_t_many.toInt + 1 := by rw [e_c_t_many_47_2]; exact addT1 (show (1 : Int32).toInt = 1 from by decide) (by omega) (by omega)
        refine ok_c (ixo (by omega) (by omega)) ?_
        refine ok_c (ixo (by omega) (by omega)) ?_
        try have a13 := FA_at (f := f_t_forms) (by assumption) p0.toNatClampNeg
        refine ok_bx (fun f_t_roll_56_2 e_f_t_roll_56_2 => ?_)
        try have t_f_t_roll_56_2 : FA f_t_roll_56_2 := by rw [e_f_t_roll_56_2]; exact FA_upd (by first | assumption | exact FA_0) _ (by first | omega | assumption | trivial)
        refine ok_o2 (sp_X9_done c_t_acts c_t_many_47_2 ) (fun r62_2 c_t_acts_62_2 h14 => ?_)
        exact ok_s (show 0 ≤ c_t_many_47_2.toInt ∧ c_t_many_47_2.toInt ≤ 12 ∧ FA f_t_roll_56_2 from by first | omega | assumption | trivial | (refine ⟨?_, ?_⟩ <;> first | omega | assumption | trivial | rfl) | (refine ⟨?_, ?_, ?_⟩ <;> first | omega | assumption | trivial | rfl) | (refine ⟨?_, ?_, ?_, ?_⟩ <;> first | omega | assumption | trivial | rfl) | (refine ⟨?_, ?_, ?_, ?_, ?_⟩ <;> first | omega | assumption | trivial | rfl) | (refine ⟨?_, ?_, ?_, ?_, ?_, ?_⟩ <;> first | omega | assumption | trivial | rfl) | (refine ⟨?_, ?_, ?_, ?_, ?_, ?_, ?_⟩ <;> first | omega | assumption | trivial | rfl) | (refine ⟨?_, ?_, ?_, ?_, ?_, ?_, ?_, ?_⟩ <;> first | omega | assumption | trivial | rfl))
    · exact ok_s (show 0 ≤ c_t_many.toInt ∧ c_t_many.toInt ≤ 12 ∧ FA f_t_roll from by first | omega | assumption | trivial | (refine ⟨?_, ?_⟩ <;> first | omega | assumption | trivial | rfl) | (refine ⟨?_, ?_, ?_⟩ <;> first | omega | assumption | trivial | rfl) | (refine ⟨?_, ?_, ?_, ?_⟩ <;> first | omega | assumption | trivial | rfl) | (refine ⟨?_, ?_, ?_, ?_, ?_⟩ <;> first | omega | assumption | trivial | rfl) | (refine ⟨?_, ?_, ?_, ?_, ?_, ?_⟩ <;> first | omega | assumption | trivial | rfl) | (refine ⟨?_, ?_, ?_, ?_, ?_, ?_, ?_⟩ <;> first | omega | assumption | trivial | rfl) | (refine ⟨?_, ?_, ?_, ?_, ?_, ?_, ?_, ?_⟩ <;> first | omega | assumption | trivial | rfl))
set_option maxHeartbeats 1000000 in
theorem sp_X9_strike (c_t_many : Int32) (c_t_acts : Int32) (c_t_thrown : Int32) (f_t_roll : Nat → Int64) (p0 : Int32) (hp0 : 0 ≤ c_t_many.toInt) (hp1 : c_t_many.toInt ≤ 12) (hp2 : FA f_t_roll) : ok (F_X9_strike c_t_many c_t_acts c_t_thrown f_t_roll p0) (fun r => 0 ≤ r.2.1.toInt ∧ r.2.1.toInt ≤ 12 ∧ FA r.2.2.2.2) := by
  have l032 : (0 : Int32).toInt = 0 := by decide
  have l132 : (1 : Int32).toInt = 1 := by decide
  unfold F_X9_strike
  refine ok_lt (fun c1 => ?_) (fun c1 => ?_)
  · first | unfold J_X9_strike_13 | skip
    first | unfold J_X9_strike_18 | skip
    refine ok_o2 (sp_X9_isThrown_ (1 : Int32) ) (fun r18 c_t_thrown_18 h2 => ?_)
    have h2 : (r18.toInt = 0 ∧ c_t_thrown_18.toInt = 0 ∧ (1 : Int32).toInt = 0) ∨ (r18.toInt = 1 ∧ c_t_thrown_18.toInt = 1 ∧ (1 : Int32).toInt ≠ 0) := h2
    refine ok_eq (fun c3 => ?_) (fun c3 => ?_)
    · refine ok_c (ixo (by omega) (by omega)) ?_
      try have a4 := FA_at (f := f_t_roll) (by assumption) p0.toNatClampNeg
      refine ok_o (sp_X9_degreeOf (f_t_roll p0.toNatClampNeg) ) (fun r32 h5 => ?_)
      have h5 : r32.toInt = DG (f_t_roll p0.toNatClampNeg) ∧ -1 ≤ r32.toInt ∧ r32.toInt ≤ 63 := h5
      refine ok_bx (fun c_t_many_43 e_c_t_many_43 => ?_)
      try have t_c_t_many_43 : c_t_many_43.toInt = c_t_many.toInt - 1 := by rw [e_c_t_many_43]; exact subT1 (show (1 : Int32).toInt = 1 from by decide) (by omega) (by omega)
      refine ok_L2 (fun y3_48 f_t_roll_48 => 0 ≤ y3_48.toInt ∧ FA f_t_roll_48) (fun y3_48 f_t_roll_48 => (c_t_many_43.toInt - y3_48.toInt + 1).toNat) (fun ih48 y3_48 f_t_roll_48 hI6 hih6 => ?_) 20000 p0 f_t_roll (show 0 ≤ p0.toInt ∧ FA f_t_roll from by first | omega | assumption | trivial | (refine ⟨?_, ?_⟩ <;> first | omega | assumption | trivial | rfl) | (refine ⟨?_, ?_, ?_⟩ <;> first | omega | assumption | trivial | rfl) | (refine ⟨?_, ?_, ?_, ?_⟩ <;> first | omega | assumption | trivial | rfl) | (refine ⟨?_, ?_, ?_, ?_, ?_⟩ <;> first | omega | assumption | trivial | rfl) | (refine ⟨?_, ?_, ?_, ?_, ?_, ?_⟩ <;> first | omega | assumption | trivial | rfl) | (refine ⟨?_, ?_, ?_, ?_, ?_, ?_, ?_⟩ <;> first | omega | assumption | trivial | rfl) | (refine ⟨?_, ?_, ?_, ?_, ?_, ?_, ?_, ?_⟩ <;> first | omega | assumption | trivial | rfl)) (show (c_t_many_43.toInt - p0.toInt + 1).toNat < 20000 from by omega)
      have hI6 : 0 ≤ y3_48.toInt ∧ FA f_t_roll_48 := hI6
      obtain ⟨hI6_0, hI6_1⟩ := hI6
      unfold S_X9_strike_48
      refine ok_le (fun c7 => ?_) (fun c7 => ?_)
      · refine ok_o2 (sp_X9_done c_t_acts r32 ) (fun r78 c_t_acts_78 h8 => ?_)
        exact ok_s (show 0 ≤ c_t_many_43.toInt ∧ c_t_many_43.toInt ≤ 12 ∧ FA f_t_roll_48 from by first | omega | assumption | trivial | (refine ⟨?_, ?_⟩ <;> first | omega | assumption | trivial | rfl) | (refine ⟨?_, ?_, ?_⟩ <;> first | omega | assumption | trivial | rfl) | (refine ⟨?_, ?_, ?_, ?_⟩ <;> first | omega | assumption | trivial | rfl) | (refine ⟨?_, ?_, ?_, ?_, ?_⟩ <;> first | omega | assumption | trivial | rfl) | (refine ⟨?_, ?_, ?_, ?_, ?_, ?_⟩ <;> first | omega | assumption | trivial | rfl) | (refine ⟨?_, ?_, ?_, ?_, ?_, ?_, ?_⟩ <;> first | omega | assumption | trivial | rfl) | (refine ⟨?_, ?_, ?_, ?_, ?_, ?_, ?_, ?_⟩ <;> first | omega | assumption | trivial | rfl))
      · obtain ⟨w9, e_w9⟩ : ∃ w : Int32, w = y3_48 + (1 : Int32) := ⟨_, rfl⟩
        try have t_w9 : w9.toInt = y3_48.toInt + 1 := by rw [e_w9]; exact addT1 (show (1 : Int32).toInt = 1 from by decide) (by omega) (by omega)
        try rw [← e_w9]
        refine ok_c (ixo (by omega) (by omega)) ?_
        refine ok_c (ixo (by omega) (by omega)) ?_
        try have a10 := FA_at (f := f_t_roll_48) (by assumption) w9.toNatClampNeg
        refine ok_bx (fun f_t_roll_69 e_f_t_roll_69 => ?_)
        try have t_f_t_roll_69 : FA f_t_roll_69 := by rw [e_f_t_roll_69]; exact FA_upd (by first | assumption | exact FA_0) _ (by first | omega | assumption | trivial)
        refine ok_bx (fun x3_70 e_x3_70 => ?_)
        have t_x3_70 : x3_70.toInt = w9.toInt := by rw [e_x3_70]
        exact hih6 x3_70 f_t_roll_69 (show 0 ≤ x3_70.toInt ∧ FA f_t_roll_69 from by first | omega | assumption | trivial | (refine ⟨?_, ?_⟩ <;> first | omega | assumption | trivial | rfl) | (refine ⟨?_, ?_, ?_⟩ <;> first | omega | assumption | trivial | rfl) | (refine ⟨?_, ?_, ?_, ?_⟩ <;> first | omega | assumption | trivial | rfl) | (refine ⟨?_, ?_, ?_, ?_, ?_⟩ <;> first | omega | assumption | trivial | rfl) | (refine ⟨?_, ?_, ?_, ?_, ?_, ?_⟩ <;> first | omega | assumption | trivial | rfl) | (refine ⟨?_, ?_, ?_, ?_, ?_, ?_, ?_⟩ <;> first | omega | assumption | trivial | rfl) | (refine ⟨?_, ?_, ?_, ?_, ?_, ?_, ?_, ?_⟩ <;> first | omega | assumption | trivial | rfl)) (show (c_t_many_43.toInt - x3_70.toInt + 1).toNat < (c_t_many_43.toInt - y3_48.toInt + 1).toNat from by omega)
    · exact ok_s (show 0 ≤ c_t_many.toInt ∧ c_t_many.toInt ≤ 12 ∧ FA f_t_roll from by first | omega | assumption | trivial | (refine ⟨?_, ?_⟩ <;> first | omega | assumption | trivial | rfl) | (refine ⟨?_, ?_, ?_⟩ <;> first | omega | assumption | trivial | rfl) | (refine ⟨?_, ?_, ?_, ?_⟩ <;> first | omega | assumption | trivial | rfl) | (refine ⟨?_, ?_, ?_, ?_, ?_⟩ <;> first | omega | assumption | trivial | rfl) | (refine ⟨?_, ?_, ?_, ?_, ?_, ?_⟩ <;> first | omega | assumption | trivial | rfl) | (refine ⟨?_, ?_, ?_, ?_, ?_, ?_, ?_⟩ <;> first | omega | assumption | trivial | rfl) | (refine ⟨?_, ?_, ?_, ?_, ?_, ?_, ?_, ?_⟩ <;> first | omega | assumption | trivial | rfl))
  · refine ok_lt (fun c11 => ?_) (fun c11 => ?_)
    · first | unfold J_X9_strike_18 | skip
      refine ok_o2 (sp_X9_isThrown_ (0 : Int32) ) (fun r18_2 c_t_thrown_18_2 h12 => ?_)
      have h12 : (r18_2.toInt = 0 ∧ c_t_thrown_18_2.toInt = 0 ∧ (0 : Int32).toInt = 0) ∨ (r18_2.toInt = 1 ∧ c_t_thrown_18_2.toInt = 1 ∧ (0 : Int32).toInt ≠ 0) := h12
      refine ok_eq (fun c13 => ?_) (fun c13 => ?_)
      · refine ok_c (ixo (by omega) (by omega)) ?_
        try have a14 := FA_at (f := f_t_roll) (by assumption) p0.toNatClampNeg
        refine ok_o (sp_X9_degreeOf (f_t_roll p0.toNatClampNeg) ) (fun r32_2 h15 => ?_)
        have h15 : r32_2.toInt = DG (f_t_roll p0.toNatClampNeg) ∧ -1 ≤ r32_2.toInt ∧ r32_2.toInt ≤ 63 := h15
        refine ok_bx (fun c_t_many_43_2 e_c_t_many_43_2 => ?_)
        try have t_c_t_many_43_2 : c_t_many_43_2.toInt = c_t_many.toInt - 1 := by rw [e_c_t_many_43_2]; exact subT1 (show (1 : Int32).toInt = 1 from by decide) (by omega) (by omega)
        refine ok_L2 (fun y3_48_2 f_t_roll_48_2 => 0 ≤ y3_48_2.toInt ∧ FA f_t_roll_48_2) (fun y3_48_2 f_t_roll_48_2 => (c_t_many_43_2.toInt - y3_48_2.toInt + 1).toNat) (fun ih48_2 y3_48_2 f_t_roll_48_2 hI16 hih16 => ?_) 20000 p0 f_t_roll (show 0 ≤ p0.toInt ∧ FA f_t_roll from by first | omega | assumption | trivial | (refine ⟨?_, ?_⟩ <;> first | omega | assumption | trivial | rfl) | (refine ⟨?_, ?_, ?_⟩ <;> first | omega | assumption | trivial | rfl) | (refine ⟨?_, ?_, ?_, ?_⟩ <;> first | omega | assumption | trivial | rfl) | (refine ⟨?_, ?_, ?_, ?_, ?_⟩ <;> first | omega | assumption | trivial | rfl) | (refine ⟨?_, ?_, ?_, ?_, ?_, ?_⟩ <;> first | omega | assumption | trivial | rfl) | (refine ⟨?_, ?_, ?_, ?_, ?_, ?_, ?_⟩ <;> first | omega | assumption | trivial | rfl) | (refine ⟨?_, ?_, ?_, ?_, ?_, ?_, ?_, ?_⟩ <;> first | omega | assumption | trivial | rfl)) (show (c_t_many_43_2.toInt - p0.toInt + 1).toNat < 20000 from by omega)
        have hI16 : 0 ≤ y3_48_2.toInt ∧ FA f_t_roll_48_2 := hI16
        obtain ⟨hI16_0, hI16_1⟩ := hI16
        unfold S_X9_strike_48
        refine ok_le (fun c17 => ?_) (fun c17 => ?_)
        · refine ok_o2 (sp_X9_done c_t_acts r32_2 ) (fun r78_2 c_t_acts_78_2 h18 => ?_)
          exact ok_s (show 0 ≤ c_t_many_43_2.toInt ∧ c_t_many_43_2.toInt ≤ 12 ∧ FA f_t_roll_48_2 from by first | omega | assumption | trivial | (refine ⟨?_, ?_⟩ <;> first | omega | assumption | trivial | rfl) | (refine ⟨?_, ?_, ?_⟩ <;> first | omega | assumption | trivial | rfl) | (refine ⟨?_, ?_, ?_, ?_⟩ <;> first | omega | assumption | trivial | rfl) | (refine ⟨?_, ?_, ?_, ?_, ?_⟩ <;> first | omega | assumption | trivial | rfl) | (refine ⟨?_, ?_, ?_, ?_, ?_, ?_⟩ <;> first | omega | assumption | trivial | rfl) | (refine ⟨?_, ?_, ?_, ?_, ?_, ?_, ?_⟩ <;> first | omega | assumption | trivial | rfl) | (refine ⟨?_, ?_, ?_, ?_, ?_, ?_, ?_, ?_⟩ <;> first | omega | assumption | trivial | rfl))
        · obtain ⟨w19, e_w19⟩ : ∃ w : Int32, w = y3_48_2 + (1 : Int32) := ⟨_, rfl⟩
          try have t_w19 : w19.toInt = y3_48_2.toInt + 1 := by rw [e_w19]; exact addT1 (show (1 : Int32).toInt = 1 from by decide) (by omega) (by omega)
          try rw [← e_w19]
          refine ok_c (ixo (by omega) (by omega)) ?_
          refine ok_c (ixo (by omega) (by omega)) ?_
          try have a20 := FA_at (f := f_t_roll_48_2) (by assumption) w19.toNatClampNeg
          refine ok_bx (fun f_t_roll_69_2 e_f_t_roll_69_2 => ?_)
          try have t_f_t_roll_69_2 : FA f_t_roll_69_2 := by rw [e_f_t_roll_69_2]; exact FA_upd (by first | assumption | exact FA_0) _ (by first | omega | assumption | trivial)
          refine ok_bx (fun x3_70_2 e_x3_70_2 => ?_)
          have t_x3_70_2 : x3_70_2.toInt = w19.toInt := by rw [e_x3_70_2]
          exact hih16 x3_70_2 f_t_roll_69_2 (show 0 ≤ x3_70_2.toInt ∧ FA f_t_roll_69_2 from by first | omega | assumption | trivial | (refine ⟨?_, ?_⟩ <;> first | omega | assumption | trivial | rfl) | (refine ⟨?_, ?_, ?_⟩ <;> first | omega | assumption | trivial | rfl) | (refine ⟨?_, ?_, ?_, ?_⟩ <;> first | omega | assumption | trivial | rfl) | (refine ⟨?_, ?_, ?_, ?_, ?_⟩ <;> first | omega | assumption | trivial | rfl) | (refine ⟨?_, ?_, ?_, ?_, ?_, ?_⟩ <;> first | omega | assumption | trivial | rfl) | (refine ⟨?_, ?_, ?_, ?_, ?_, ?_, ?_⟩ <;> first | omega | assumption | trivial | rfl) | (refine ⟨?_, ?_, ?_, ?_, ?_, ?_, ?_, ?_⟩ <;> first | omega | assumption | trivial | rfl)) (show (c_t_many_43_2.toInt - x3_70_2.toInt + 1).toNat < (c_t_many_43_2.toInt - y3_48_2.toInt + 1).toNat from by omega)
      · exact ok_s (show 0 ≤ c_t_many.toInt ∧ c_t_many.toInt ≤ 12 ∧ FA f_t_roll from by first | omega | assumption | trivial | (refine ⟨?_, ?_⟩ <;> first | omega | assumption | trivial | rfl) | (refine ⟨?_, ?_, ?_⟩ <;> first | omega | assumption | trivial | rfl) | (refine ⟨?_, ?_, ?_, ?_⟩ <;> first | omega | assumption | trivial | rfl) | (refine ⟨?_, ?_, ?_, ?_, ?_⟩ <;> first | omega | assumption | trivial | rfl) | (refine ⟨?_, ?_, ?_, ?_, ?_, ?_⟩ <;> first | omega | assumption | trivial | rfl) | (refine ⟨?_, ?_, ?_, ?_, ?_, ?_, ?_⟩ <;> first | omega | assumption | trivial | rfl) | (refine ⟨?_, ?_, ?_, ?_, ?_, ?_, ?_, ?_⟩ <;> first | omega | assumption | trivial | rfl))
    · first | unfold J_X9_strike_13 | skip
      first | unfold J_X9_strike_18 | skip
      refine ok_o2 (sp_X9_isThrown_ (1 : Int32) ) (fun r18_3 c_t_thrown_18_3 h21 => ?_)
      have h21 : (r18_3.toInt = 0 ∧ c_t_thrown_18_3.toInt = 0 ∧ (1 : Int32).toInt = 0) ∨ (r18_3.toInt = 1 ∧ c_t_thrown_18_3.toInt = 1 ∧ (1 : Int32).toInt ≠ 0) := h21
      refine ok_eq (fun c22 => ?_) (fun c22 => ?_)
      · refine ok_c (ixo (by omega) (by omega)) ?_
        try have a23 := FA_at (f := f_t_roll) (by assumption) p0.toNatClampNeg
        refine ok_o (sp_X9_degreeOf (f_t_roll p0.toNatClampNeg) ) (fun r32_3 h24 => ?_)
        have h24 : r32_3.toInt = DG (f_t_roll p0.toNatClampNeg) ∧ -1 ≤ r32_3.toInt ∧ r32_3.toInt ≤ 63 := h24
        refine ok_bx (fun c_t_many_43_3 e_c_t_many_43_3 => ?_)
        try have t_c_t_many_43_3 : c_t_many_43_3.toInt = c_t_many.toInt - 1 := by rw [e_c_t_many_43_3]; exact subT1 (show (1 : Int32).toInt = 1 from by decide) (by omega) (by omega)
        refine ok_L2 (fun y3_48_3 f_t_roll_48_3 => 0 ≤ y3_48_3.toInt ∧ FA f_t_roll_48_3) (fun y3_48_3 f_t_roll_48_3 => (c_t_many_43_3.toInt - y3_48_3.toInt + 1).toNat) (fun ih48_3 y3_48_3 f_t_roll_48_3 hI25 hih25 => ?_) 20000 p0 f_t_roll (show 0 ≤ p0.toInt ∧ FA f_t_roll from by first | omega | assumption | trivial | (refine ⟨?_, ?_⟩ <;> first | omega | assumption | trivial | rfl) | (refine ⟨?_, ?_, ?_⟩ <;> first | omega | assumption | trivial | rfl) | (refine ⟨?_, ?_, ?_, ?_⟩ <;> first | omega | assumption | trivial | rfl) | (refine ⟨?_, ?_, ?_, ?_, ?_⟩ <;> first | omega | assumption | trivial | rfl) | (refine ⟨?_, ?_, ?_, ?_, ?_, ?_⟩ <;> first | omega | assumption | trivial | rfl) | (refine ⟨?_, ?_, ?_, ?_, ?_, ?_, ?_⟩ <;> first | omega | assumption | trivial | rfl) | (refine ⟨?_, ?_, ?_, ?_, ?_, ?_, ?_, ?_⟩ <;> first | omega | assumption | trivial | rfl)) (show (c_t_many_43_3.toInt - p0.toInt + 1).toNat < 20000 from by omega)
        have hI25 : 0 ≤ y3_48_3.toInt ∧ FA f_t_roll_48_3 := hI25
        obtain ⟨hI25_0, hI25_1⟩ := hI25
        unfold S_X9_strike_48
        refine ok_le (fun c26 => ?_) (fun c26 => ?_)
        · refine ok_o2 (sp_X9_done c_t_acts r32_3 ) (fun r78_3 c_t_acts_78_3 h27 => ?_)
          exact ok_s (show 0 ≤ c_t_many_43_3.toInt ∧ c_t_many_43_3.toInt ≤ 12 ∧ FA f_t_roll_48_3 from by first | omega | assumption | trivial | (refine ⟨?_, ?_⟩ <;> first | omega | assumption | trivial | rfl) | (refine ⟨?_, ?_, ?_⟩ <;> first | omega | assumption | trivial | rfl) | (refine ⟨?_, ?_, ?_, ?_⟩ <;> first | omega | assumption | trivial | rfl) | (refine ⟨?_, ?_, ?_, ?_, ?_⟩ <;> first | omega | assumption | trivial | rfl) | (refine ⟨?_, ?_, ?_, ?_, ?_, ?_⟩ <;> first | omega | assumption | trivial | rfl) | (refine ⟨?_, ?_, ?_, ?_, ?_, ?_, ?_⟩ <;> first | omega | assumption | trivial | rfl) | (refine ⟨?_, ?_, ?_, ?_, ?_, ?_, ?_, ?_⟩ <;> first | omega | assumption | trivial | rfl))
        · obtain ⟨w28, e_w28⟩ : ∃ w : Int32, w = y3_48_3 + (1 : Int32) := ⟨_, rfl⟩
          try have t_w28 : w28.toInt = y3_48_3.toInt + 1 := by rw [e_w28]; exact addT1 (show (1 : Int32).toInt = 1 from by decide) (by omega) (by omega)
          try rw [← e_w28]
          refine ok_c (ixo (by omega) (by omega)) ?_
          refine ok_c (ixo (by omega) (by omega)) ?_
          try have a29 := FA_at (f := f_t_roll_48_3) (by assumption) w28.toNatClampNeg
          refine ok_bx (fun f_t_roll_69_3 e_f_t_roll_69_3 => ?_)
          try have t_f_t_roll_69_3 : FA f_t_roll_69_3 := by rw [e_f_t_roll_69_3]; exact FA_upd (by first | assumption | exact FA_0) _ (by first | omega | assumption | trivial)
          refine ok_bx (fun x3_70_3 e_x3_70_3 => ?_)
          have t_x3_70_3 : x3_70_3.toInt = w28.toInt := by rw [e_x3_70_3]
          exact hih25 x3_70_3 f_t_roll_69_3 (show 0 ≤ x3_70_3.toInt ∧ FA f_t_roll_69_3 from by first | omega | assumption | trivial | (refine ⟨?_, ?_⟩ <;> first | omega | assumption | trivial | rfl) | (refine ⟨?_, ?_, ?_⟩ <;> first | omega | assumption | trivial | rfl) | (refine ⟨?_, ?_, ?_, ?_⟩ <;> first | omega | assumption | trivial | rfl) | (refine ⟨?_, ?_, ?_, ?_, ?_⟩ <;> first | omega | assumption | trivial | rfl) | (refine ⟨?_, ?_, ?_, ?_, ?_, ?_⟩ <;> first | omega | assumption | trivial | rfl) | (refine ⟨?_, ?_, ?_, ?_, ?_, ?_, ?_⟩ <;> first | omega | assumption | trivial | rfl) | (refine ⟨?_, ?_, ?_, ?_, ?_, ?_, ?_, ?_⟩ <;> first | omega | assumption | trivial | rfl)) (show (c_t_many_43_3.toInt - x3_70_3.toInt + 1).toNat < (c_t_many_43_3.toInt - y3_48_3.toInt + 1).toNat from by omega)
      · exact ok_s (show 0 ≤ c_t_many.toInt ∧ c_t_many.toInt ≤ 12 ∧ FA f_t_roll from by first | omega | assumption | trivial | (refine ⟨?_, ?_⟩ <;> first | omega | assumption | trivial | rfl) | (refine ⟨?_, ?_, ?_⟩ <;> first | omega | assumption | trivial | rfl) | (refine ⟨?_, ?_, ?_, ?_⟩ <;> first | omega | assumption | trivial | rfl) | (refine ⟨?_, ?_, ?_, ?_, ?_⟩ <;> first | omega | assumption | trivial | rfl) | (refine ⟨?_, ?_, ?_, ?_, ?_, ?_⟩ <;> first | omega | assumption | trivial | rfl) | (refine ⟨?_, ?_, ?_, ?_, ?_, ?_, ?_⟩ <;> first | omega | assumption | trivial | rfl) | (refine ⟨?_, ?_, ?_, ?_, ?_, ?_, ?_, ?_⟩ <;> first | omega | assumption | trivial | rfl))
set_option maxHeartbeats 1000000 in
theorem sp_X9_clear (c_t_many : Int32) (c_t_acts : Int32) (hp0 : 0 ≤ c_t_many.toInt) (hp1 : c_t_many.toInt ≤ 12) : ok (F_X9_clear c_t_many c_t_acts) (fun r => r.2.1.toInt = 0) := by
  have l032 : (0 : Int32).toInt = 0 := by decide
  unfold F_X9_clear
  refine ok_o2 (sp_X9_done c_t_acts c_t_many ) (fun r17 c_t_acts_17 h1 => ?_)
  exact ok_s (show (0 : Int32).toInt = 0 from by first | omega | assumption | trivial | (refine ⟨?_, ?_⟩ <;> first | omega | assumption | trivial | rfl) | (refine ⟨?_, ?_, ?_⟩ <;> first | omega | assumption | trivial | rfl) | (refine ⟨?_, ?_, ?_, ?_⟩ <;> first | omega | assumption | trivial | rfl) | (refine ⟨?_, ?_, ?_, ?_, ?_⟩ <;> first | omega | assumption | trivial | rfl) | (refine ⟨?_, ?_, ?_, ?_, ?_, ?_⟩ <;> first | omega | assumption | trivial | rfl) | (refine ⟨?_, ?_, ?_, ?_, ?_, ?_, ?_⟩ <;> first | omega | assumption | trivial | rfl) | (refine ⟨?_, ?_, ?_, ?_, ?_, ?_, ?_, ?_⟩ <;> first | omega | assumption | trivial | rfl))
set_option maxHeartbeats 1000000 in
theorem sp_X9_sort (c_t_many : Int32) (c_t_acts : Int32) (f_t_roll : Nat → Int64) (p0 : Int32) (hp0 : 0 ≤ c_t_many.toInt) (hp1 : c_t_many.toInt ≤ 12) (hp2 : FA f_t_roll) : ok (F_X9_sort c_t_many c_t_acts f_t_roll p0) (fun r => FA r.2.2.2) := by
  have l032 : (0 : Int32).toInt = 0 := by decide
  have l064 : (0 : Int64).toInt = 0 := by decide
  have l132 : (1 : Int32).toInt = 1 := by decide
  have l1232 : (12 : Int32).toInt = 12 := by decide
  have hcl := cl_T (x := c_t_many) (by omega)
  have hf0 := FA_0
  unfold F_X9_sort
  refine ok_c ⟨nl_of (by omega), cl_le (by omega) (by omega)⟩ ?_
  refine ok_L2 (fun y3_14 f_n9_14 => 0 ≤ y3_14.toInt ∧ FA f_n9_14) (fun y3_14 f_n9_14 => (c_t_many.toInt - y3_14.toInt + 1).toNat) (fun ih14 y3_14 f_n9_14 hI1 hih1 => ?_) 20000 (0 : Int32) (fun _ => (0 : Int64)) (show 0 ≤ (0 : Int32).toInt ∧ FA (fun _ => (0 : Int64)) from by first | omega | assumption | trivial | (refine ⟨?_, ?_⟩ <;> first | omega | assumption | trivial | rfl) | (refine ⟨?_, ?_, ?_⟩ <;> first | omega | assumption | trivial | rfl) | (refine ⟨?_, ?_, ?_, ?_⟩ <;> first | omega | assumption | trivial | rfl) | (refine ⟨?_, ?_, ?_, ?_, ?_⟩ <;> first | omega | assumption | trivial | rfl) | (refine ⟨?_, ?_, ?_, ?_, ?_, ?_⟩ <;> first | omega | assumption | trivial | rfl) | (refine ⟨?_, ?_, ?_, ?_, ?_, ?_, ?_⟩ <;> first | omega | assumption | trivial | rfl) | (refine ⟨?_, ?_, ?_, ?_, ?_, ?_, ?_, ?_⟩ <;> first | omega | assumption | trivial | rfl)) (show (c_t_many.toInt - (0 : Int32).toInt + 1).toNat < 20000 from by omega)
  have hI1 : 0 ≤ y3_14.toInt ∧ FA f_n9_14 := hI1
  obtain ⟨hI1_0, hI1_1⟩ := hI1
  unfold S_X9_sort_14
  refine ok_le (fun c2 => ?_) (fun c2 => ?_)
  · refine ok_L3 (fun y3_138 y4_138 f_t_roll_138 => 0 ≤ y4_138.toInt ∧ FA f_t_roll_138) (fun y3_138 y4_138 f_t_roll_138 => (c_t_many.toInt - y4_138.toInt + 1).toNat) (fun ih138 y3_138 y4_138 f_t_roll_138 hI3 hih3 => ?_) 20000 (0 : Int32) (0 : Int32) f_t_roll (show 0 ≤ (0 : Int32).toInt ∧ FA f_t_roll from by first | omega | assumption | trivial | (refine ⟨?_, ?_⟩ <;> first | omega | assumption | trivial | rfl) | (refine ⟨?_, ?_, ?_⟩ <;> first | omega | assumption | trivial | rfl) | (refine ⟨?_, ?_, ?_, ?_⟩ <;> first | omega | assumption | trivial | rfl) | (refine ⟨?_, ?_, ?_, ?_, ?_⟩ <;> first | omega | assumption | trivial | rfl) | (refine ⟨?_, ?_, ?_, ?_, ?_, ?_⟩ <;> first | omega | assumption | trivial | rfl) | (refine ⟨?_, ?_, ?_, ?_, ?_, ?_, ?_⟩ <;> first | omega | assumption | trivial | rfl) | (refine ⟨?_, ?_, ?_, ?_, ?_, ?_, ?_, ?_⟩ <;> first | omega | assumption | trivial | rfl)) (show (c_t_many.toInt - (0 : Int32).toInt + 1).toNat < 20000 from by omega)
    have hI3 : 0 ≤ y4_138.toInt ∧ FA f_t_roll_138 := hI3
    obtain ⟨hI3_0, hI3_1⟩ := hI3
    unfold S_X9_sort_138
    refine ok_le (fun c4 => ?_) (fun c4 => ?_)
    · refine ok_o2 (sp_X9_done c_t_acts y3_138 ) (fun r189 c_t_acts_189 h5 => ?_)
      exact ok_s (show FA f_t_roll_138 from by first | omega | assumption | trivial | (refine ⟨?_, ?_⟩ <;> first | omega | assumption | trivial | rfl) | (refine ⟨?_, ?_, ?_⟩ <;> first | omega | assumption | trivial | rfl) | (refine ⟨?_, ?_, ?_, ?_⟩ <;> first | omega | assumption | trivial | rfl) | (refine ⟨?_, ?_, ?_, ?_, ?_⟩ <;> first | omega | assumption | trivial | rfl) | (refine ⟨?_, ?_, ?_, ?_, ?_, ?_⟩ <;> first | omega | assumption | trivial | rfl) | (refine ⟨?_, ?_, ?_, ?_, ?_, ?_, ?_⟩ <;> first | omega | assumption | trivial | rfl) | (refine ⟨?_, ?_, ?_, ?_, ?_, ?_, ?_, ?_⟩ <;> first | omega | assumption | trivial | rfl))
    · refine ok_c (ixo (by omega) (by omega)) ?_
      refine ok_c (ixo (by omega) (by omega)) ?_
      try have a7 := FA_at (f := f_n9_14) (by assumption) y4_138.toNatClampNeg
      try have a8 := FA_at (f := f_t_roll_138) (by assumption) y4_138.toNatClampNeg
      refine ok_eqL (fun c6 => ?_) (fun c6 => ?_)
      · first | unfold J_X9_sort_168 | skip
        refine ok_bx (fun x3_169 e_x3_169 => ?_)
        try have t_x3_169 : x3_169.toInt = y3_138.toInt + 0 := by rw [e_x3_169]; exact addT1 (show (0 : Int32).toInt = 0 from by decide) (by omega) (by omega)
        refine ok_c (ixo (by omega) (by omega)) ?_
        refine ok_c (ixo (by omega) (by omega)) ?_
        try have a9 := FA_at (f := f_n9_14) (by assumption) y4_138.toNatClampNeg
        refine ok_bx (fun f_t_roll_180 e_f_t_roll_180 => ?_)
        try have t_f_t_roll_180 : FA f_t_roll_180 := by rw [e_f_t_roll_180]; exact FA_upd (by first | assumption | exact FA_0) _ (by first | omega | assumption | trivial)
        refine ok_bx (fun x4_181 e_x4_181 => ?_)
        try have t_x4_181 : x4_181.toInt = y4_138.toInt + 1 := by rw [e_x4_181]; exact addT1 (show (1 : Int32).toInt = 1 from by decide) (by omega) (by omega)
        exact hih3 x3_169 x4_181 f_t_roll_180 (show 0 ≤ x4_181.toInt ∧ FA f_t_roll_180 from by first | omega | assumption | trivial | (refine ⟨?_, ?_⟩ <;> first | omega | assumption | trivial | rfl) | (refine ⟨?_, ?_, ?_⟩ <;> first | omega | assumption | trivial | rfl) | (refine ⟨?_, ?_, ?_, ?_⟩ <;> first | omega | assumption | trivial | rfl) | (refine ⟨?_, ?_, ?_, ?_, ?_⟩ <;> first | omega | assumption | trivial | rfl) | (refine ⟨?_, ?_, ?_, ?_, ?_, ?_⟩ <;> first | omega | assumption | trivial | rfl) | (refine ⟨?_, ?_, ?_, ?_, ?_, ?_, ?_⟩ <;> first | omega | assumption | trivial | rfl) | (refine ⟨?_, ?_, ?_, ?_, ?_, ?_, ?_, ?_⟩ <;> first | omega | assumption | trivial | rfl)) (show (c_t_many.toInt - x4_181.toInt + 1).toNat < (c_t_many.toInt - y4_138.toInt + 1).toNat from by omega)
      · first | unfold J_X9_sort_168 | skip
        refine ok_bx (fun x3_169_2 e_x3_169_2 => ?_)
        try have t_x3_169_2 : x3_169_2.toInt = y3_138.toInt + 1 := by rw [e_x3_169_2]; exact addT1 (show (1 : Int32).toInt = 1 from by decide) (by omega) (by omega)
        refine ok_c (ixo (by omega) (by omega)) ?_
        refine ok_c (ixo (by omega) (by omega)) ?_
        try have a10 := FA_at (f := f_n9_14) (by assumption) y4_138.toNatClampNeg
        refine ok_bx (fun f_t_roll_180_2 e_f_t_roll_180_2 => ?_)
        try have t_f_t_roll_180_2 : FA f_t_roll_180_2 := by rw [e_f_t_roll_180_2]; exact FA_upd (by first | assumption | exact FA_0) _ (by first | omega | assumption | trivial)
        refine ok_bx (fun x4_181_2 e_x4_181_2 => ?_)
        try have t_x4_181_2 : x4_181_2.toInt = y4_138.toInt + 1 := by rw [e_x4_181_2]; exact addT1 (show (1 : Int32).toInt = 1 from by decide) (by omega) (by omega)
        exact hih3 x3_169_2 x4_181_2 f_t_roll_180_2 (show 0 ≤ x4_181_2.toInt ∧ FA f_t_roll_180_2 from by first | omega | assumption | trivial | (refine ⟨?_, ?_⟩ <;> first | omega | assumption | trivial | rfl) | (refine ⟨?_, ?_, ?_⟩ <;> first | omega | assumption | trivial | rfl) | (refine ⟨?_, ?_, ?_, ?_⟩ <;> first | omega | assumption | trivial | rfl) | (refine ⟨?_, ?_, ?_, ?_, ?_⟩ <;> first | omega | assumption | trivial | rfl) | (refine ⟨?_, ?_, ?_, ?_, ?_, ?_⟩ <;> first | omega | assumption | trivial | rfl) | (refine ⟨?_, ?_, ?_, ?_, ?_, ?_, ?_⟩ <;> first | omega | assumption | trivial | rfl) | (refine ⟨?_, ?_, ?_, ?_, ?_, ?_, ?_, ?_⟩ <;> first | omega | assumption | trivial | rfl)) (show (c_t_many.toInt - x4_181_2.toInt + 1).toNat < (c_t_many.toInt - y4_138.toInt + 1).toNat from by omega)
  · refine ok_L2 (fun y4_28 y5_28 => 0 ≤ y5_28.toInt ∧ 0 ≤ y4_28.toInt ∧ y4_28.toInt ≤ y5_28.toInt ∧ y5_28.toInt ≤ c_t_many.toInt ∧ (y3_14.toInt < y5_28.toInt → y4_28.toInt ≤ y5_28.toInt - 1)) (fun y4_28 y5_28 => (c_t_many.toInt - y5_28.toInt + 1).toNat) (fun ih28 y4_28 y5_28 hI11 hih11 => ?_) 20000 (0 : Int32) (0 : Int32) (show 0 ≤ (0 : Int32).toInt ∧ 0 ≤ (0 : Int32).toInt ∧ (0 : Int32).toInt ≤ (0 : Int32).toInt ∧ (0 : Int32).toInt ≤ c_t_many.toInt ∧ (y3_14.toInt < (0 : Int32).toInt → (0 : Int32).toInt ≤ (0 : Int32).toInt - 1) from by first | omega | assumption | trivial | (refine ⟨?_, ?_⟩ <;> first | omega | assumption | trivial | rfl) | (refine ⟨?_, ?_, ?_⟩ <;> first | omega | assumption | trivial | rfl) | (refine ⟨?_, ?_, ?_, ?_⟩ <;> first | omega | assumption | trivial | rfl) | (refine ⟨?_, ?_, ?_, ?_, ?_⟩ <;> first | omega | assumption | trivial | rfl) | (refine ⟨?_, ?_, ?_, ?_, ?_, ?_⟩ <;> first | omega | assumption | trivial | rfl) | (refine ⟨?_, ?_, ?_, ?_, ?_, ?_, ?_⟩ <;> first | omega | assumption | trivial | rfl) | (refine ⟨?_, ?_, ?_, ?_, ?_, ?_, ?_, ?_⟩ <;> first | omega | assumption | trivial | rfl)) (show (c_t_many.toInt - (0 : Int32).toInt + 1).toNat < 20000 from by omega)
    have hI11 : 0 ≤ y5_28.toInt ∧ 0 ≤ y4_28.toInt ∧ y4_28.toInt ≤ y5_28.toInt ∧ y5_28.toInt ≤ c_t_many.toInt ∧ (y3_14.toInt < y5_28.toInt → y4_28.toInt ≤ y5_28.toInt - 1) := hI11
    unfold S_X9_sort_28
    have he : y5_28.toInt = y3_14.toInt → (f_t_roll y5_28.toNatClampNeg).toInt = (f_t_roll y3_14.toNatClampNeg).toInt := fun h => by rw [Int32.toInt_inj.mp h]
    refine ok_le (fun c12 => ?_) (fun c12 => ?_)
    · refine ok_c (ixo (by omega) (by omega)) ?_
      refine ok_c (ixo (by omega) (by omega)) ?_
      try have a13 := FA_at (f := f_t_roll) (by assumption) y3_14.toNatClampNeg
      refine ok_bx (fun f_n9_126 e_f_n9_126 => ?_)
      try have t_f_n9_126 : FA f_n9_126 := by rw [e_f_n9_126]; exact FA_upd (by first | assumption | exact FA_0) _ (by first | omega | assumption | trivial)
      refine ok_bx (fun x3_127 e_x3_127 => ?_)
      try have t_x3_127 : x3_127.toInt = y3_14.toInt + 1 := by rw [e_x3_127]; exact addT1 (show (1 : Int32).toInt = 1 from by decide) (by omega) (by omega)
      exact hih1 x3_127 f_n9_126 (show 0 ≤ x3_127.toInt ∧ FA f_n9_126 from by first | omega | assumption | trivial | (refine ⟨?_, ?_⟩ <;> first | omega | assumption | trivial | rfl) | (refine ⟨?_, ?_, ?_⟩ <;> first | omega | assumption | trivial | rfl) | (refine ⟨?_, ?_, ?_, ?_⟩ <;> first | omega | assumption | trivial | rfl) | (refine ⟨?_, ?_, ?_, ?_, ?_⟩ <;> first | omega | assumption | trivial | rfl) | (refine ⟨?_, ?_, ?_, ?_, ?_, ?_⟩ <;> first | omega | assumption | trivial | rfl) | (refine ⟨?_, ?_, ?_, ?_, ?_, ?_, ?_⟩ <;> first | omega | assumption | trivial | rfl) | (refine ⟨?_, ?_, ?_, ?_, ?_, ?_, ?_, ?_⟩ <;> first | omega | assumption | trivial | rfl)) (show (c_t_many.toInt - x3_127.toInt + 1).toNat < (c_t_many.toInt - y3_14.toInt + 1).toNat from by omega)
    · refine ok_eq (fun c14 => ?_) (fun c14 => ?_)
      · refine ok_c (ixo (by omega) (by omega)) ?_
        refine ok_c (ixo (by omega) (by omega)) ?_
        try have a16 := FA_at (f := f_t_roll) (by assumption) y5_28.toNatClampNeg
        try have a17 := FA_at (f := f_t_roll) (by assumption) y3_14.toNatClampNeg
        refine ok_ltL (fun c15 => ?_) (fun c15 => ?_)
        · first | unfold J_X9_sort_103 | skip
          first | unfold J_X9_sort_108 | skip
          refine ok_bx (fun x4_109 e_x4_109 => ?_)
          try have t_x4_109 : x4_109.toInt = y4_28.toInt + 1 := by rw [e_x4_109]; exact addT1 (show (1 : Int32).toInt = 1 from by decide) (by omega) (by omega)
          refine ok_bx (fun x5_111 e_x5_111 => ?_)
          try have t_x5_111 : x5_111.toInt = y5_28.toInt + 1 := by rw [e_x5_111]; exact addT1 (show (1 : Int32).toInt = 1 from by decide) (by omega) (by omega)
          exact hih11 x4_109 x5_111 (show 0 ≤ x5_111.toInt ∧ 0 ≤ x4_109.toInt ∧ x4_109.toInt ≤ x5_111.toInt ∧ x5_111.toInt ≤ c_t_many.toInt ∧ (y3_14.toInt < x5_111.toInt → x4_109.toInt ≤ x5_111.toInt - 1) from by first | omega | assumption | trivial | (refine ⟨?_, ?_⟩ <;> first | omega | assumption | trivial | rfl) | (refine ⟨?_, ?_, ?_⟩ <;> first | omega | assumption | trivial | rfl) | (refine ⟨?_, ?_, ?_, ?_⟩ <;> first | omega | assumption | trivial | rfl) | (refine ⟨?_, ?_, ?_, ?_, ?_⟩ <;> first | omega | assumption | trivial | rfl) | (refine ⟨?_, ?_, ?_, ?_, ?_, ?_⟩ <;> first | omega | assumption | trivial | rfl) | (refine ⟨?_, ?_, ?_, ?_, ?_, ?_, ?_⟩ <;> first | omega | assumption | trivial | rfl) | (refine ⟨?_, ?_, ?_, ?_, ?_, ?_, ?_, ?_⟩ <;> first | omega | assumption | trivial | rfl)) (show (c_t_many.toInt - x5_111.toInt + 1).toNat < (c_t_many.toInt - y5_28.toInt + 1).toNat from by omega)
        · first | unfold J_X9_sort_80 | skip
          refine ok_c (ixo (by omega) (by omega)) ?_
          refine ok_c (ixo (by omega) (by omega)) ?_
          try have a19 := FA_at (f := f_t_roll) (by assumption) y5_28.toNatClampNeg
          try have a20 := FA_at (f := f_t_roll) (by assumption) y3_14.toNatClampNeg
          refine ok_eqL (fun c18 => ?_) (fun c18 => ?_)
          · refine ok_le (fun c21 => ?_) (fun c21 => ?_)
            · first | unfold J_X9_sort_107 | skip
              first | unfold J_X9_sort_108 | skip
              refine ok_bx (fun x4_109_2 e_x4_109_2 => ?_)
              try have t_x4_109_2 : x4_109_2.toInt = y4_28.toInt + 0 := by rw [e_x4_109_2]; exact addT1 (show (0 : Int32).toInt = 0 from by decide) (by omega) (by omega)
              refine ok_bx (fun x5_111_2 e_x5_111_2 => ?_)
              try have t_x5_111_2 : x5_111_2.toInt = y5_28.toInt + 1 := by rw [e_x5_111_2]; exact addT1 (show (1 : Int32).toInt = 1 from by decide) (by omega) (by omega)
              exact hih11 x4_109_2 x5_111_2 (show 0 ≤ x5_111_2.toInt ∧ 0 ≤ x4_109_2.toInt ∧ x4_109_2.toInt ≤ x5_111_2.toInt ∧ x5_111_2.toInt ≤ c_t_many.toInt ∧ (y3_14.toInt < x5_111_2.toInt → x4_109_2.toInt ≤ x5_111_2.toInt - 1) from by first | omega | assumption | trivial | (refine ⟨?_, ?_⟩ <;> first | omega | assumption | trivial | rfl) | (refine ⟨?_, ?_, ?_⟩ <;> first | omega | assumption | trivial | rfl) | (refine ⟨?_, ?_, ?_, ?_⟩ <;> first | omega | assumption | trivial | rfl) | (refine ⟨?_, ?_, ?_, ?_, ?_⟩ <;> first | omega | assumption | trivial | rfl) | (refine ⟨?_, ?_, ?_, ?_, ?_, ?_⟩ <;> first | omega | assumption | trivial | rfl) | (refine ⟨?_, ?_, ?_, ?_, ?_, ?_, ?_⟩ <;> first | omega | assumption | trivial | rfl) | (refine ⟨?_, ?_, ?_, ?_, ?_, ?_, ?_, ?_⟩ <;> first | omega | assumption | trivial | rfl)) (show (c_t_many.toInt - x5_111_2.toInt + 1).toNat < (c_t_many.toInt - y5_28.toInt + 1).toNat from by omega)
            · first | unfold J_X9_sort_103 | skip
              first | unfold J_X9_sort_108 | skip
              refine ok_bx (fun x4_109_3 e_x4_109_3 => ?_)
              try have t_x4_109_3 : x4_109_3.toInt = y4_28.toInt + 1 := by rw [e_x4_109_3]; exact addT1 (show (1 : Int32).toInt = 1 from by decide) (by omega) (by omega)
              refine ok_bx (fun x5_111_3 e_x5_111_3 => ?_)
              try have t_x5_111_3 : x5_111_3.toInt = y5_28.toInt + 1 := by rw [e_x5_111_3]; exact addT1 (show (1 : Int32).toInt = 1 from by decide) (by omega) (by omega)
              exact hih11 x4_109_3 x5_111_3 (show 0 ≤ x5_111_3.toInt ∧ 0 ≤ x4_109_3.toInt ∧ x4_109_3.toInt ≤ x5_111_3.toInt ∧ x5_111_3.toInt ≤ c_t_many.toInt ∧ (y3_14.toInt < x5_111_3.toInt → x4_109_3.toInt ≤ x5_111_3.toInt - 1) from by first | omega | assumption | trivial | (refine ⟨?_, ?_⟩ <;> first | omega | assumption | trivial | rfl) | (refine ⟨?_, ?_, ?_⟩ <;> first | omega | assumption | trivial | rfl) | (refine ⟨?_, ?_, ?_, ?_⟩ <;> first | omega | assumption | trivial | rfl) | (refine ⟨?_, ?_, ?_, ?_, ?_⟩ <;> first | omega | assumption | trivial | rfl) | (refine ⟨?_, ?_, ?_, ?_, ?_, ?_⟩ <;> first | omega | assumption | trivial | rfl) | (refine ⟨?_, ?_, ?_, ?_, ?_, ?_, ?_⟩ <;> first | omega | assumption | trivial | rfl) | (refine ⟨?_, ?_, ?_, ?_, ?_, ?_, ?_, ?_⟩ <;> first | omega | assumption | trivial | rfl)) (show (c_t_many.toInt - x5_111_3.toInt + 1).toNat < (c_t_many.toInt - y5_28.toInt + 1).toNat from by omega)
          · first | unfold J_X9_sort_107 | skip
            first | unfold J_X9_sort_108 | skip
            refine ok_bx (fun x4_109_4 e_x4_109_4 => ?_)
            try have t_x4_109_4 : x4_109_4.toInt = y4_28.toInt + 0 := by rw [e_x4_109_4]; exact addT1 (show (0 : Int32).toInt = 0 from by decide) (by omega) (by omega)
            refine ok_bx (fun x5_111_4 e_x5_111_4 => ?_)
            try have t_x5_111_4 : x5_111_4.toInt = y5_28.toInt + 1 := by rw [e_x5_111_4]; exact addT1 (show (1 : Int32).toInt = 1 from by decide) (by omega) (by omega)
            exact hih11 x4_109_4 x5_111_4 (show 0 ≤ x5_111_4.toInt ∧ 0 ≤ x4_109_4.toInt ∧ x4_109_4.toInt ≤ x5_111_4.toInt ∧ x5_111_4.toInt ≤ c_t_many.toInt ∧ (y3_14.toInt < x5_111_4.toInt → x4_109_4.toInt ≤ x5_111_4.toInt - 1) from by first | omega | assumption | trivial | (refine ⟨?_, ?_⟩ <;> first | omega | assumption | trivial | rfl) | (refine ⟨?_, ?_, ?_⟩ <;> first | omega | assumption | trivial | rfl) | (refine ⟨?_, ?_, ?_, ?_⟩ <;> first | omega | assumption | trivial | rfl) | (refine ⟨?_, ?_, ?_, ?_, ?_⟩ <;> first | omega | assumption | trivial | rfl) | (refine ⟨?_, ?_, ?_, ?_, ?_, ?_⟩ <;> first | omega | assumption | trivial | rfl) | (refine ⟨?_, ?_, ?_, ?_, ?_, ?_, ?_⟩ <;> first | omega | assumption | trivial | rfl) | (refine ⟨?_, ?_, ?_, ?_, ?_, ?_, ?_, ?_⟩ <;> first | omega | assumption | trivial | rfl)) (show (c_t_many.toInt - x5_111_4.toInt + 1).toNat < (c_t_many.toInt - y5_28.toInt + 1).toNat from by omega)
      · refine ok_c (ixo (by omega) (by omega)) ?_
        refine ok_c (ixo (by omega) (by omega)) ?_
        try have a23 := FA_at (f := f_t_roll) (by assumption) y5_28.toNatClampNeg
        try have a24 := FA_at (f := f_t_roll) (by assumption) y3_14.toNatClampNeg
        refine ok_leL (fun c22 => ?_) (fun c22 => ?_)
        · first | unfold J_X9_sort_80 | skip
          refine ok_c (ixo (by omega) (by omega)) ?_
          refine ok_c (ixo (by omega) (by omega)) ?_
          try have a26 := FA_at (f := f_t_roll) (by assumption) y5_28.toNatClampNeg
          try have a27 := FA_at (f := f_t_roll) (by assumption) y3_14.toNatClampNeg
          refine ok_eqL (fun c25 => ?_) (fun c25 => ?_)
          · refine ok_le (fun c28 => ?_) (fun c28 => ?_)
            · first | unfold J_X9_sort_107 | skip
              first | unfold J_X9_sort_108 | skip
              refine ok_bx (fun x4_109_5 e_x4_109_5 => ?_)
              try have t_x4_109_5 : x4_109_5.toInt = y4_28.toInt + 0 := by rw [e_x4_109_5]; exact addT1 (show (0 : Int32).toInt = 0 from by decide) (by omega) (by omega)
              refine ok_bx (fun x5_111_5 e_x5_111_5 => ?_)
              try have t_x5_111_5 : x5_111_5.toInt = y5_28.toInt + 1 := by rw [e_x5_111_5]; exact addT1 (show (1 : Int32).toInt = 1 from by decide) (by omega) (by omega)
              exact hih11 x4_109_5 x5_111_5 (show 0 ≤ x5_111_5.toInt ∧ 0 ≤ x4_109_5.toInt ∧ x4_109_5.toInt ≤ x5_111_5.toInt ∧ x5_111_5.toInt ≤ c_t_many.toInt ∧ (y3_14.toInt < x5_111_5.toInt → x4_109_5.toInt ≤ x5_111_5.toInt - 1) from by first | omega | assumption | trivial | (refine ⟨?_, ?_⟩ <;> first | omega | assumption | trivial | rfl) | (refine ⟨?_, ?_, ?_⟩ <;> first | omega | assumption | trivial | rfl) | (refine ⟨?_, ?_, ?_, ?_⟩ <;> first | omega | assumption | trivial | rfl) | (refine ⟨?_, ?_, ?_, ?_, ?_⟩ <;> first | omega | assumption | trivial | rfl) | (refine ⟨?_, ?_, ?_, ?_, ?_, ?_⟩ <;> first | omega | assumption | trivial | rfl) | (refine ⟨?_, ?_, ?_, ?_, ?_, ?_, ?_⟩ <;> first | omega | assumption | trivial | rfl) | (refine ⟨?_, ?_, ?_, ?_, ?_, ?_, ?_, ?_⟩ <;> first | omega | assumption | trivial | rfl)) (show (c_t_many.toInt - x5_111_5.toInt + 1).toNat < (c_t_many.toInt - y5_28.toInt + 1).toNat from by omega)
            · first | unfold J_X9_sort_103 | skip
              first | unfold J_X9_sort_108 | skip
              refine ok_bx (fun x4_109_6 e_x4_109_6 => ?_)
              try have t_x4_109_6 : x4_109_6.toInt = y4_28.toInt + 1 := by rw [e_x4_109_6]; exact addT1 (show (1 : Int32).toInt = 1 from by decide) (by omega) (by omega)
              refine ok_bx (fun x5_111_6 e_x5_111_6 => ?_)
              try have t_x5_111_6 : x5_111_6.toInt = y5_28.toInt + 1 := by rw [e_x5_111_6]; exact addT1 (show (1 : Int32).toInt = 1 from by decide) (by omega) (by omega)
              exact hih11 x4_109_6 x5_111_6 (show 0 ≤ x5_111_6.toInt ∧ 0 ≤ x4_109_6.toInt ∧ x4_109_6.toInt ≤ x5_111_6.toInt ∧ x5_111_6.toInt ≤ c_t_many.toInt ∧ (y3_14.toInt < x5_111_6.toInt → x4_109_6.toInt ≤ x5_111_6.toInt - 1) from by first | omega | assumption | trivial | (refine ⟨?_, ?_⟩ <;> first | omega | assumption | trivial | rfl) | (refine ⟨?_, ?_, ?_⟩ <;> first | omega | assumption | trivial | rfl) | (refine ⟨?_, ?_, ?_, ?_⟩ <;> first | omega | assumption | trivial | rfl) | (refine ⟨?_, ?_, ?_, ?_, ?_⟩ <;> first | omega | assumption | trivial | rfl) | (refine ⟨?_, ?_, ?_, ?_, ?_, ?_⟩ <;> first | omega | assumption | trivial | rfl) | (refine ⟨?_, ?_, ?_, ?_, ?_, ?_, ?_⟩ <;> first | omega | assumption | trivial | rfl) | (refine ⟨?_, ?_, ?_, ?_, ?_, ?_, ?_, ?_⟩ <;> first | omega | assumption | trivial | rfl)) (show (c_t_many.toInt - x5_111_6.toInt + 1).toNat < (c_t_many.toInt - y5_28.toInt + 1).toNat from by omega)
          · first | unfold J_X9_sort_107 | skip
            first | unfold J_X9_sort_108 | skip
            refine ok_bx (fun x4_109_7 e_x4_109_7 => ?_)
            try have t_x4_109_7 : x4_109_7.toInt = y4_28.toInt + 0 := by rw [e_x4_109_7]; exact addT1 (show (0 : Int32).toInt = 0 from by decide) (by omega) (by omega)
            refine ok_bx (fun x5_111_7 e_x5_111_7 => ?_)
            try have t_x5_111_7 : x5_111_7.toInt = y5_28.toInt + 1 := by rw [e_x5_111_7]; exact addT1 (show (1 : Int32).toInt = 1 from by decide) (by omega) (by omega)
            exact hih11 x4_109_7 x5_111_7 (show 0 ≤ x5_111_7.toInt ∧ 0 ≤ x4_109_7.toInt ∧ x4_109_7.toInt ≤ x5_111_7.toInt ∧ x5_111_7.toInt ≤ c_t_many.toInt ∧ (y3_14.toInt < x5_111_7.toInt → x4_109_7.toInt ≤ x5_111_7.toInt - 1) from by first | omega | assumption | trivial | (refine ⟨?_, ?_⟩ <;> first | omega | assumption | trivial | rfl) | (refine ⟨?_, ?_, ?_⟩ <;> first | omega | assumption | trivial | rfl) | (refine ⟨?_, ?_, ?_, ?_⟩ <;> first | omega | assumption | trivial | rfl) | (refine ⟨?_, ?_, ?_, ?_, ?_⟩ <;> first | omega | assumption | trivial | rfl) | (refine ⟨?_, ?_, ?_, ?_, ?_, ?_⟩ <;> first | omega | assumption | trivial | rfl) | (refine ⟨?_, ?_, ?_, ?_, ?_, ?_, ?_⟩ <;> first | omega | assumption | trivial | rfl) | (refine ⟨?_, ?_, ?_, ?_, ?_, ?_, ?_, ?_⟩ <;> first | omega | assumption | trivial | rfl)) (show (c_t_many.toInt - x5_111_7.toInt + 1).toNat < (c_t_many.toInt - y5_28.toInt + 1).toNat from by omega)
        · first | unfold J_X9_sort_103 | skip
          first | unfold J_X9_sort_108 | skip
          refine ok_bx (fun x4_109_8 e_x4_109_8 => ?_)
          try have t_x4_109_8 : x4_109_8.toInt = y4_28.toInt + 1 := by rw [e_x4_109_8]; exact addT1 (show (1 : Int32).toInt = 1 from by decide) (by omega) (by omega)
          refine ok_bx (fun x5_111_8 e_x5_111_8 => ?_)
          try have t_x5_111_8 : x5_111_8.toInt = y5_28.toInt + 1 := by rw [e_x5_111_8]; exact addT1 (show (1 : Int32).toInt = 1 from by decide) (by omega) (by omega)
          exact hih11 x4_109_8 x5_111_8 (show 0 ≤ x5_111_8.toInt ∧ 0 ≤ x4_109_8.toInt ∧ x4_109_8.toInt ≤ x5_111_8.toInt ∧ x5_111_8.toInt ≤ c_t_many.toInt ∧ (y3_14.toInt < x5_111_8.toInt → x4_109_8.toInt ≤ x5_111_8.toInt - 1) from by first | omega | assumption | trivial | (refine ⟨?_, ?_⟩ <;> first | omega | assumption | trivial | rfl) | (refine ⟨?_, ?_, ?_⟩ <;> first | omega | assumption | trivial | rfl) | (refine ⟨?_, ?_, ?_, ?_⟩ <;> first | omega | assumption | trivial | rfl) | (refine ⟨?_, ?_, ?_, ?_, ?_⟩ <;> first | omega | assumption | trivial | rfl) | (refine ⟨?_, ?_, ?_, ?_, ?_, ?_⟩ <;> first | omega | assumption | trivial | rfl) | (refine ⟨?_, ?_, ?_, ?_, ?_, ?_, ?_⟩ <;> first | omega | assumption | trivial | rfl) | (refine ⟨?_, ?_, ?_, ?_, ?_, ?_, ?_, ?_⟩ <;> first | omega | assumption | trivial | rfl)) (show (c_t_many.toInt - x5_111_8.toInt + 1).toNat < (c_t_many.toInt - y5_28.toInt + 1).toNat from by omega)
set_option maxHeartbeats 1000000 in
theorem sp_X9_turnAll (c_t_many : Int32) (c_t_acts : Int32) (f_t_roll : Nat → Int64) (hp0 : 0 ≤ c_t_many.toInt) (hp1 : c_t_many.toInt ≤ 12) (hp2 : FA f_t_roll) : ok (F_X9_turnAll c_t_many c_t_acts f_t_roll) (fun r => FA r.2.2.2) := by
  have l032 : (0 : Int32).toInt = 0 := by decide
  have l132 : (1 : Int32).toInt = 1 := by decide
  unfold F_X9_turnAll
  refine ok_L3 (fun y1_9 y2_9 f_t_roll_9 => 0 ≤ y2_9.toInt ∧ FA f_t_roll_9) (fun y1_9 y2_9 f_t_roll_9 => (c_t_many.toInt - y2_9.toInt + 1).toNat) (fun ih9 y1_9 y2_9 f_t_roll_9 hI1 hih1 => ?_) 20000 (0 : Int32) (0 : Int32) f_t_roll (show 0 ≤ (0 : Int32).toInt ∧ FA f_t_roll from by first | omega | assumption | trivial | (refine ⟨?_, ?_⟩ <;> first | omega | assumption | trivial | rfl) | (refine ⟨?_, ?_, ?_⟩ <;> first | omega | assumption | trivial | rfl) | (refine ⟨?_, ?_, ?_, ?_⟩ <;> first | omega | assumption | trivial | rfl) | (refine ⟨?_, ?_, ?_, ?_, ?_⟩ <;> first | omega | assumption | trivial | rfl) | (refine ⟨?_, ?_, ?_, ?_, ?_, ?_⟩ <;> first | omega | assumption | trivial | rfl) | (refine ⟨?_, ?_, ?_, ?_, ?_, ?_, ?_⟩ <;> first | omega | assumption | trivial | rfl) | (refine ⟨?_, ?_, ?_, ?_, ?_, ?_, ?_, ?_⟩ <;> first | omega | assumption | trivial | rfl)) (show (c_t_many.toInt - (0 : Int32).toInt + 1).toNat < 20000 from by omega)
  have hI1 : 0 ≤ y2_9.toInt ∧ FA f_t_roll_9 := hI1
  obtain ⟨hI1_0, hI1_1⟩ := hI1
  unfold S_X9_turnAll_9
  refine ok_le (fun c2 => ?_) (fun c2 => ?_)
  · refine ok_o2 (sp_X9_done c_t_acts y1_9 ) (fun r61 c_t_acts_61 h3 => ?_)
    exact ok_s (show FA f_t_roll_9 from by first | omega | assumption | trivial | (refine ⟨?_, ?_⟩ <;> first | omega | assumption | trivial | rfl) | (refine ⟨?_, ?_, ?_⟩ <;> first | omega | assumption | trivial | rfl) | (refine ⟨?_, ?_, ?_, ?_⟩ <;> first | omega | assumption | trivial | rfl) | (refine ⟨?_, ?_, ?_, ?_, ?_⟩ <;> first | omega | assumption | trivial | rfl) | (refine ⟨?_, ?_, ?_, ?_, ?_, ?_⟩ <;> first | omega | assumption | trivial | rfl) | (refine ⟨?_, ?_, ?_, ?_, ?_, ?_, ?_⟩ <;> first | omega | assumption | trivial | rfl) | (refine ⟨?_, ?_, ?_, ?_, ?_, ?_, ?_, ?_⟩ <;> first | omega | assumption | trivial | rfl))
  · refine ok_c (ixo (by omega) (by omega)) ?_
    try have a4 := FA_at (f := f_t_roll_9) (by assumption) y2_9.toNatClampNeg
    refine ok_o (sp_X9_turnedOf (f_t_roll_9 y2_9.toNatClampNeg) (by first | omega | assumption | trivial | exact wt_of (by assumption) (by omega))) (fun r23 h5 => ?_)
    have h5 : DG r23 ≤ 39 := h5
    refine ok_c (ixo (by omega) (by omega)) ?_
    try have a7 := FA_at (f := f_t_roll_9) (by assumption) y2_9.toNatClampNeg
    refine ok_eqL (fun c6 => ?_) (fun c6 => ?_)
    · refine ok_bx (fun x1_45 e_x1_45 => ?_)
      try have t_x1_45 : x1_45.toInt = y1_9.toInt + 0 := by rw [e_x1_45]; exact addT1 (show (0 : Int32).toInt = 0 from by decide) (by omega) (by omega)
      refine ok_c (ixo (by omega) (by omega)) ?_
      refine ok_bx (fun f_t_roll_52 e_f_t_roll_52 => ?_)
      try have t_f_t_roll_52 : FA f_t_roll_52 := by rw [e_f_t_roll_52]; exact FA_upd (by first | assumption | exact FA_0) _ (by first | omega | assumption | trivial)
      refine ok_bx (fun x2_53 e_x2_53 => ?_)
      try have t_x2_53 : x2_53.toInt = y2_9.toInt + 1 := by rw [e_x2_53]; exact addT1 (show (1 : Int32).toInt = 1 from by decide) (by omega) (by omega)
      exact hih1 x1_45 x2_53 f_t_roll_52 (show 0 ≤ x2_53.toInt ∧ FA f_t_roll_52 from by first | omega | assumption | trivial | (refine ⟨?_, ?_⟩ <;> first | omega | assumption | trivial | rfl) | (refine ⟨?_, ?_, ?_⟩ <;> first | omega | assumption | trivial | rfl) | (refine ⟨?_, ?_, ?_, ?_⟩ <;> first | omega | assumption | trivial | rfl) | (refine ⟨?_, ?_, ?_, ?_, ?_⟩ <;> first | omega | assumption | trivial | rfl) | (refine ⟨?_, ?_, ?_, ?_, ?_, ?_⟩ <;> first | omega | assumption | trivial | rfl) | (refine ⟨?_, ?_, ?_, ?_, ?_, ?_, ?_⟩ <;> first | omega | assumption | trivial | rfl) | (refine ⟨?_, ?_, ?_, ?_, ?_, ?_, ?_, ?_⟩ <;> first | omega | assumption | trivial | rfl)) (show (c_t_many.toInt - x2_53.toInt + 1).toNat < (c_t_many.toInt - y2_9.toInt + 1).toNat from by omega)
    · refine ok_bx (fun x1_45_2 e_x1_45_2 => ?_)
      try have t_x1_45_2 : x1_45_2.toInt = y1_9.toInt + 1 := by rw [e_x1_45_2]; exact addT1 (show (1 : Int32).toInt = 1 from by decide) (by omega) (by omega)
      refine ok_c (ixo (by omega) (by omega)) ?_
      refine ok_bx (fun f_t_roll_52_2 e_f_t_roll_52_2 => ?_)
      try have t_f_t_roll_52_2 : FA f_t_roll_52_2 := by rw [e_f_t_roll_52_2]; exact FA_upd (by first | assumption | exact FA_0) _ (by first | omega | assumption | trivial)
      refine ok_bx (fun x2_53_2 e_x2_53_2 => ?_)
      try have t_x2_53_2 : x2_53_2.toInt = y2_9.toInt + 1 := by rw [e_x2_53_2]; exact addT1 (show (1 : Int32).toInt = 1 from by decide) (by omega) (by omega)
      exact hih1 x1_45_2 x2_53_2 f_t_roll_52_2 (show 0 ≤ x2_53_2.toInt ∧ FA f_t_roll_52_2 from by first | omega | assumption | trivial | (refine ⟨?_, ?_⟩ <;> first | omega | assumption | trivial | rfl) | (refine ⟨?_, ?_, ?_⟩ <;> first | omega | assumption | trivial | rfl) | (refine ⟨?_, ?_, ?_, ?_⟩ <;> first | omega | assumption | trivial | rfl) | (refine ⟨?_, ?_, ?_, ?_, ?_⟩ <;> first | omega | assumption | trivial | rfl) | (refine ⟨?_, ?_, ?_, ?_, ?_, ?_⟩ <;> first | omega | assumption | trivial | rfl) | (refine ⟨?_, ?_, ?_, ?_, ?_, ?_, ?_⟩ <;> first | omega | assumption | trivial | rfl) | (refine ⟨?_, ?_, ?_, ?_, ?_, ?_, ?_, ?_⟩ <;> first | omega | assumption | trivial | rfl)) (show (c_t_many.toInt - x2_53_2.toInt + 1).toNat < (c_t_many.toInt - y2_9.toInt + 1).toNat from by omega)
set_option maxHeartbeats 1000000 in
theorem sp_X9_take (c_t_many : Int32) (c_t_acts : Int32) (f_t_forms : Nat → Int64) (f_t_roll : Nat → Int64) (p0 : Int32) (p1 : Int32) (hp0 : 0 ≤ c_t_many.toInt) (hp1 : c_t_many.toInt ≤ 12) (hp2 : FA f_t_forms) (hp3 : FA f_t_roll) : ok (F_X9_take c_t_many c_t_acts f_t_forms f_t_roll p0 p1) (fun r => FA r.2.2.2) := by
  have l032 : (0 : Int32).toInt = 0 := by decide
  have l132 : (1 : Int32).toInt = 1 := by decide
  unfold F_X9_take
  refine ok_lt (fun c1 => ?_) (fun c1 => ?_)
  · refine ok_o2 (sp_X9_isThrown_ (1 : Int32) ) (fun r25 c_t_thrown_25 h2 => ?_)
    have h2 : (r25.toInt = 0 ∧ c_t_thrown_25.toInt = 0 ∧ (1 : Int32).toInt = 0) ∨ (r25.toInt = 1 ∧ c_t_thrown_25.toInt = 1 ∧ (1 : Int32).toInt ≠ 0) := h2
    refine ok_eq (fun c3 => ?_) (fun c3 => ?_)
    · refine ok_c (ixo (by omega) (by omega)) ?_
      try have a4 := FA_at (f := f_t_roll) (by assumption) p0.toNatClampNeg
      refine ok_o3 (sp_X9_give c_t_acts f_t_forms p1 (f_t_roll p0.toNatClampNeg) (by first | omega | assumption | trivial | exact wt_of (by assumption) (by omega)) (by first | omega | assumption | trivial | exact wt_of (by assumption) (by omega)) (by first | omega | assumption | trivial | exact wt_of (by assumption) (by omega)) (by first | omega | assumption | trivial | exact wt_of (by assumption) (by omega))) (fun r43 c_t_acts_43 f_t_forms_43 h5 => ?_)
      have h5 : FA f_t_forms_43 := h5
      exact ok_s (show FA f_t_forms_43 from by first | omega | assumption | trivial | (refine ⟨?_, ?_⟩ <;> first | omega | assumption | trivial | rfl) | (refine ⟨?_, ?_, ?_⟩ <;> first | omega | assumption | trivial | rfl) | (refine ⟨?_, ?_, ?_, ?_⟩ <;> first | omega | assumption | trivial | rfl) | (refine ⟨?_, ?_, ?_, ?_, ?_⟩ <;> first | omega | assumption | trivial | rfl) | (refine ⟨?_, ?_, ?_, ?_, ?_, ?_⟩ <;> first | omega | assumption | trivial | rfl) | (refine ⟨?_, ?_, ?_, ?_, ?_, ?_, ?_⟩ <;> first | omega | assumption | trivial | rfl) | (refine ⟨?_, ?_, ?_, ?_, ?_, ?_, ?_, ?_⟩ <;> first | omega | assumption | trivial | rfl))
    · exact ok_s (show FA f_t_forms from by first | omega | assumption | trivial | (refine ⟨?_, ?_⟩ <;> first | omega | assumption | trivial | rfl) | (refine ⟨?_, ?_, ?_⟩ <;> first | omega | assumption | trivial | rfl) | (refine ⟨?_, ?_, ?_, ?_⟩ <;> first | omega | assumption | trivial | rfl) | (refine ⟨?_, ?_, ?_, ?_, ?_⟩ <;> first | omega | assumption | trivial | rfl) | (refine ⟨?_, ?_, ?_, ?_, ?_, ?_⟩ <;> first | omega | assumption | trivial | rfl) | (refine ⟨?_, ?_, ?_, ?_, ?_, ?_, ?_⟩ <;> first | omega | assumption | trivial | rfl) | (refine ⟨?_, ?_, ?_, ?_, ?_, ?_, ?_, ?_⟩ <;> first | omega | assumption | trivial | rfl))
  · refine ok_le (fun c6 => ?_) (fun c6 => ?_)
    · refine ok_o2 (sp_X9_isThrown_ (1 : Int32) ) (fun r25_2 c_t_thrown_25_2 h7 => ?_)
      have h7 : (r25_2.toInt = 0 ∧ c_t_thrown_25_2.toInt = 0 ∧ (1 : Int32).toInt = 0) ∨ (r25_2.toInt = 1 ∧ c_t_thrown_25_2.toInt = 1 ∧ (1 : Int32).toInt ≠ 0) := h7
      refine ok_eq (fun c8 => ?_) (fun c8 => ?_)
      · refine ok_c (ixo (by omega) (by omega)) ?_
        try have a9 := FA_at (f := f_t_roll) (by assumption) p0.toNatClampNeg
        refine ok_o3 (sp_X9_give c_t_acts f_t_forms p1 (f_t_roll p0.toNatClampNeg) (by first | omega | assumption | trivial | exact wt_of (by assumption) (by omega)) (by first | omega | assumption | trivial | exact wt_of (by assumption) (by omega)) (by first | omega | assumption | trivial | exact wt_of (by assumption) (by omega)) (by first | omega | assumption | trivial | exact wt_of (by assumption) (by omega))) (fun r43_2 c_t_acts_43_2 f_t_forms_43_2 h10 => ?_)
        have h10 : FA f_t_forms_43_2 := h10
        exact ok_s (show FA f_t_forms_43_2 from by first | omega | assumption | trivial | (refine ⟨?_, ?_⟩ <;> first | omega | assumption | trivial | rfl) | (refine ⟨?_, ?_, ?_⟩ <;> first | omega | assumption | trivial | rfl) | (refine ⟨?_, ?_, ?_, ?_⟩ <;> first | omega | assumption | trivial | rfl) | (refine ⟨?_, ?_, ?_, ?_, ?_⟩ <;> first | omega | assumption | trivial | rfl) | (refine ⟨?_, ?_, ?_, ?_, ?_, ?_⟩ <;> first | omega | assumption | trivial | rfl) | (refine ⟨?_, ?_, ?_, ?_, ?_, ?_, ?_⟩ <;> first | omega | assumption | trivial | rfl) | (refine ⟨?_, ?_, ?_, ?_, ?_, ?_, ?_, ?_⟩ <;> first | omega | assumption | trivial | rfl))
      · exact ok_s (show FA f_t_forms from by first | omega | assumption | trivial | (refine ⟨?_, ?_⟩ <;> first | omega | assumption | trivial | rfl) | (refine ⟨?_, ?_, ?_⟩ <;> first | omega | assumption | trivial | rfl) | (refine ⟨?_, ?_, ?_, ?_⟩ <;> first | omega | assumption | trivial | rfl) | (refine ⟨?_, ?_, ?_, ?_, ?_⟩ <;> first | omega | assumption | trivial | rfl) | (refine ⟨?_, ?_, ?_, ?_, ?_, ?_⟩ <;> first | omega | assumption | trivial | rfl) | (refine ⟨?_, ?_, ?_, ?_, ?_, ?_, ?_⟩ <;> first | omega | assumption | trivial | rfl) | (refine ⟨?_, ?_, ?_, ?_, ?_, ?_, ?_, ?_⟩ <;> first | omega | assumption | trivial | rfl))
    · refine ok_o (sp_X9_isForm p1 ) (fun r14 h11 => ?_)
      have h11 : (r14.toInt = 1 ∧ 0 ≤ p1.toInt ∧ p1.toInt ≤ 5) ∨ (r14.toInt = 0 ∧ (p1.toInt < 0 ∨ 6 ≤ p1.toInt)) := h11
      refine ok_eq (fun c12 => ?_) (fun c12 => ?_)
      · refine ok_o2 (sp_X9_isThrown_ (1 : Int32) ) (fun r25_3 c_t_thrown_25_3 h13 => ?_)
        have h13 : (r25_3.toInt = 0 ∧ c_t_thrown_25_3.toInt = 0 ∧ (1 : Int32).toInt = 0) ∨ (r25_3.toInt = 1 ∧ c_t_thrown_25_3.toInt = 1 ∧ (1 : Int32).toInt ≠ 0) := h13
        refine ok_eq (fun c14 => ?_) (fun c14 => ?_)
        · refine ok_c (ixo (by omega) (by omega)) ?_
          try have a15 := FA_at (f := f_t_roll) (by assumption) p0.toNatClampNeg
          refine ok_o3 (sp_X9_give c_t_acts f_t_forms p1 (f_t_roll p0.toNatClampNeg) (by first | omega | assumption | trivial | exact wt_of (by assumption) (by omega)) (by first | omega | assumption | trivial | exact wt_of (by assumption) (by omega)) (by first | omega | assumption | trivial | exact wt_of (by assumption) (by omega)) (by first | omega | assumption | trivial | exact wt_of (by assumption) (by omega))) (fun r43_3 c_t_acts_43_3 f_t_forms_43_3 h16 => ?_)
          have h16 : FA f_t_forms_43_3 := h16
          exact ok_s (show FA f_t_forms_43_3 from by first | omega | assumption | trivial | (refine ⟨?_, ?_⟩ <;> first | omega | assumption | trivial | rfl) | (refine ⟨?_, ?_, ?_⟩ <;> first | omega | assumption | trivial | rfl) | (refine ⟨?_, ?_, ?_, ?_⟩ <;> first | omega | assumption | trivial | rfl) | (refine ⟨?_, ?_, ?_, ?_, ?_⟩ <;> first | omega | assumption | trivial | rfl) | (refine ⟨?_, ?_, ?_, ?_, ?_, ?_⟩ <;> first | omega | assumption | trivial | rfl) | (refine ⟨?_, ?_, ?_, ?_, ?_, ?_, ?_⟩ <;> first | omega | assumption | trivial | rfl) | (refine ⟨?_, ?_, ?_, ?_, ?_, ?_, ?_, ?_⟩ <;> first | omega | assumption | trivial | rfl))
        · exact ok_s (show FA f_t_forms from by first | omega | assumption | trivial | (refine ⟨?_, ?_⟩ <;> first | omega | assumption | trivial | rfl) | (refine ⟨?_, ?_, ?_⟩ <;> first | omega | assumption | trivial | rfl) | (refine ⟨?_, ?_, ?_, ?_⟩ <;> first | omega | assumption | trivial | rfl) | (refine ⟨?_, ?_, ?_, ?_, ?_⟩ <;> first | omega | assumption | trivial | rfl) | (refine ⟨?_, ?_, ?_, ?_, ?_, ?_⟩ <;> first | omega | assumption | trivial | rfl) | (refine ⟨?_, ?_, ?_, ?_, ?_, ?_, ?_⟩ <;> first | omega | assumption | trivial | rfl) | (refine ⟨?_, ?_, ?_, ?_, ?_, ?_, ?_, ?_⟩ <;> first | omega | assumption | trivial | rfl))
      · refine ok_o2 (sp_X9_isThrown_ (0 : Int32) ) (fun r25_4 c_t_thrown_25_4 h17 => ?_)
        have h17 : (r25_4.toInt = 0 ∧ c_t_thrown_25_4.toInt = 0 ∧ (0 : Int32).toInt = 0) ∨ (r25_4.toInt = 1 ∧ c_t_thrown_25_4.toInt = 1 ∧ (0 : Int32).toInt ≠ 0) := h17
        refine ok_eq (fun c18 => ?_) (fun c18 => ?_)
        · refine ok_c (ixo (by omega) (by omega)) ?_
          try have a19 := FA_at (f := f_t_roll) (by assumption) p0.toNatClampNeg
          refine ok_o3 (sp_X9_give c_t_acts f_t_forms p1 (f_t_roll p0.toNatClampNeg) (by first | omega | assumption | trivial | exact wt_of (by assumption) (by omega)) (by first | omega | assumption | trivial | exact wt_of (by assumption) (by omega)) (by first | omega | assumption | trivial | exact wt_of (by assumption) (by omega)) (by first | omega | assumption | trivial | exact wt_of (by assumption) (by omega))) (fun r43_4 c_t_acts_43_4 f_t_forms_43_4 h20 => ?_)
          have h20 : FA f_t_forms_43_4 := h20
          exact ok_s (show FA f_t_forms_43_4 from by first | omega | assumption | trivial | (refine ⟨?_, ?_⟩ <;> first | omega | assumption | trivial | rfl) | (refine ⟨?_, ?_, ?_⟩ <;> first | omega | assumption | trivial | rfl) | (refine ⟨?_, ?_, ?_, ?_⟩ <;> first | omega | assumption | trivial | rfl) | (refine ⟨?_, ?_, ?_, ?_, ?_⟩ <;> first | omega | assumption | trivial | rfl) | (refine ⟨?_, ?_, ?_, ?_, ?_, ?_⟩ <;> first | omega | assumption | trivial | rfl) | (refine ⟨?_, ?_, ?_, ?_, ?_, ?_, ?_⟩ <;> first | omega | assumption | trivial | rfl) | (refine ⟨?_, ?_, ?_, ?_, ?_, ?_, ?_, ?_⟩ <;> first | omega | assumption | trivial | rfl))
        · exact ok_s (show FA f_t_forms from by first | omega | assumption | trivial | (refine ⟨?_, ?_⟩ <;> first | omega | assumption | trivial | rfl) | (refine ⟨?_, ?_, ?_⟩ <;> first | omega | assumption | trivial | rfl) | (refine ⟨?_, ?_, ?_, ?_⟩ <;> first | omega | assumption | trivial | rfl) | (refine ⟨?_, ?_, ?_, ?_, ?_⟩ <;> first | omega | assumption | trivial | rfl) | (refine ⟨?_, ?_, ?_, ?_, ?_, ?_⟩ <;> first | omega | assumption | trivial | rfl) | (refine ⟨?_, ?_, ?_, ?_, ?_, ?_, ?_⟩ <;> first | omega | assumption | trivial | rfl) | (refine ⟨?_, ?_, ?_, ?_, ?_, ?_, ?_, ?_⟩ <;> first | omega | assumption | trivial | rfl))
set_option maxHeartbeats 1000000 in
theorem sp_X9_product (c_t_many : Int32) (c_t_acts : Int32) (c_t_refused : Int32) (c_t_thrown : Int32) (f_t_forms : Nat → Int64) (f_t_roll : Nat → Int64) (p0 : Int32) (hp0 : 0 ≤ c_t_many.toInt) (hp1 : c_t_many.toInt ≤ 12) (hp2 : FA f_t_forms) (hp3 : FA f_t_roll) : ok (F_X9_product c_t_many c_t_acts c_t_refused c_t_thrown f_t_forms f_t_roll p0) (fun r => FA r.2.2.2.2) := by
  have l032 : (0 : Int32).toInt = 0 := by decide
  have l064 : (0 : Int64).toInt = 0 := by decide
  have l132 : (1 : Int32).toInt = 1 := by decide
  have l164 : (1 : Int64).toInt = 1 := by decide
  have l4032 : (40 : Int32).toInt = 40 := by decide
  unfold F_X9_product
  refine ok_o (sp_X9_isForm p0 ) (fun r2 h1 => ?_)
  have h1 : (r2.toInt = 1 ∧ 0 ≤ p0.toInt ∧ p0.toInt ≤ 5) ∨ (r2.toInt = 0 ∧ (p0.toInt < 0 ∨ 6 ≤ p0.toInt)) := h1
  refine ok_eq (fun c2 => ?_) (fun c2 => ?_)
  · first | unfold J_X9_product_13 | skip
    refine ok_o2 (sp_X9_isThrown_ (1 : Int32) ) (fun r13 c_t_thrown_13 h3 => ?_)
    have h3 : (r13.toInt = 0 ∧ c_t_thrown_13.toInt = 0 ∧ (1 : Int32).toInt = 0) ∨ (r13.toInt = 1 ∧ c_t_thrown_13.toInt = 1 ∧ (1 : Int32).toInt ≠ 0) := h3
    refine ok_eq (fun c4 => ?_) (fun c4 => ?_)
    · refine pd_1 _ c_t_many f_t_roll (by assumption) (by omega) (by omega) (fun y2_28_76 y3_28_76 HPD => ?_)
      have HJ : (y3_28_76.toInt = 0 ∧ y2_28_76.toInt = SD f_t_roll c_t_many.toInt.toNat) ∨ y3_28_76.toInt = 1 := HPD.elim (fun h => Or.inl ⟨by rw [h.1]; rfl, h.2.1⟩) (fun h => Or.inr (by rw [h]; rfl))
      refine ok_eq (fun c6 => ?_) (fun c6 => ?_)
      · refine ok_lt (fun c7 => ?_) (fun c7 => ?_)
        · first | unfold J_X9_product_91 | skip
          refine ok_eq (fun c8 => ?_) (fun c8 => ?_)
          · first | unfold J_X9_product_100 | skip
            refine pd_2 _ (fun y4_105_138 hI9 => ?_) c_t_many f_t_roll y3_28_76 _ (by assumption) (by omega) (by omega) (by first | exact pd_he0 HPD (by omega) (by omega) | exact pd_he1 HPD (by omega))
            refine ok_o3 (sp_X9_give c_t_acts f_t_forms p0 y4_105_138 (by first | omega | assumption | trivial | exact wt_of (by assumption) (by omega)) (by first | omega | assumption | trivial | exact wt_of (by assumption) (by omega)) (by first | omega | assumption | trivial | exact wt_of (by assumption) (by omega)) (by first | omega | assumption | trivial | exact wt_of (by assumption) (by omega))) (fun r142 c_t_acts_142 f_t_forms_142 h10 => ?_)
            have h10 : FA f_t_forms_142 := h10
            exact ok_s (show FA f_t_forms_142 from by first | omega | assumption | trivial | (refine ⟨?_, ?_⟩ <;> first | omega | assumption | trivial | rfl) | (refine ⟨?_, ?_, ?_⟩ <;> first | omega | assumption | trivial | rfl) | (refine ⟨?_, ?_, ?_, ?_⟩ <;> first | omega | assumption | trivial | rfl) | (refine ⟨?_, ?_, ?_, ?_, ?_⟩ <;> first | omega | assumption | trivial | rfl) | (refine ⟨?_, ?_, ?_, ?_, ?_, ?_⟩ <;> first | omega | assumption | trivial | rfl) | (refine ⟨?_, ?_, ?_, ?_, ?_, ?_, ?_⟩ <;> first | omega | assumption | trivial | rfl) | (refine ⟨?_, ?_, ?_, ?_, ?_, ?_, ?_, ?_⟩ <;> first | omega | assumption | trivial | rfl))
          · first | unfold J_X9_product_100 | skip
            refine pd_2 _ (fun y4_105_138_2 hI11 => ?_) c_t_many f_t_roll y3_28_76 _ (by assumption) (by omega) (by omega) (by first | exact pd_he0 HPD (by omega) (by omega) | exact pd_he1 HPD (by omega))
            refine ok_o3 (sp_X9_give c_t_acts f_t_forms p0 y4_105_138_2 (by first | omega | assumption | trivial | exact wt_of (by assumption) (by omega)) (by first | omega | assumption | trivial | exact wt_of (by assumption) (by omega)) (by first | omega | assumption | trivial | exact wt_of (by assumption) (by omega)) (by first | omega | assumption | trivial | exact wt_of (by assumption) (by omega))) (fun r142_2 c_t_acts_142_2 f_t_forms_142_2 h12 => ?_)
            have h12 : FA f_t_forms_142_2 := h12
            exact ok_s (show FA f_t_forms_142_2 from by first | omega | assumption | trivial | (refine ⟨?_, ?_⟩ <;> first | omega | assumption | trivial | rfl) | (refine ⟨?_, ?_, ?_⟩ <;> first | omega | assumption | trivial | rfl) | (refine ⟨?_, ?_, ?_, ?_⟩ <;> first | omega | assumption | trivial | rfl) | (refine ⟨?_, ?_, ?_, ?_, ?_⟩ <;> first | omega | assumption | trivial | rfl) | (refine ⟨?_, ?_, ?_, ?_, ?_, ?_⟩ <;> first | omega | assumption | trivial | rfl) | (refine ⟨?_, ?_, ?_, ?_, ?_, ?_, ?_⟩ <;> first | omega | assumption | trivial | rfl) | (refine ⟨?_, ?_, ?_, ?_, ?_, ?_, ?_, ?_⟩ <;> first | omega | assumption | trivial | rfl))
        · refine ok_o2 (sp_X9_no c_t_refused ) (fun r87 c_t_refused_87 h13 => ?_)
          exact ok_s (show FA f_t_forms from by first | omega | assumption | trivial | (refine ⟨?_, ?_⟩ <;> first | omega | assumption | trivial | rfl) | (refine ⟨?_, ?_, ?_⟩ <;> first | omega | assumption | trivial | rfl) | (refine ⟨?_, ?_, ?_, ?_⟩ <;> first | omega | assumption | trivial | rfl) | (refine ⟨?_, ?_, ?_, ?_, ?_⟩ <;> first | omega | assumption | trivial | rfl) | (refine ⟨?_, ?_, ?_, ?_, ?_, ?_⟩ <;> first | omega | assumption | trivial | rfl) | (refine ⟨?_, ?_, ?_, ?_, ?_, ?_, ?_⟩ <;> first | omega | assumption | trivial | rfl) | (refine ⟨?_, ?_, ?_, ?_, ?_, ?_, ?_, ?_⟩ <;> first | omega | assumption | trivial | rfl))
      · first | unfold J_X9_product_91 | skip
        refine ok_eq (fun c14 => ?_) (fun c14 => ?_)
        · first | unfold J_X9_product_100 | skip
          refine pd_2 _ (fun y4_105_138_3 hI15 => ?_) c_t_many f_t_roll y3_28_76 _ (by assumption) (by omega) (by omega) (by first | exact pd_he0 HPD (by omega) (by omega) | exact pd_he1 HPD (by omega))
          refine ok_o3 (sp_X9_give c_t_acts f_t_forms p0 y4_105_138_3 (by first | omega | assumption | trivial | exact wt_of (by assumption) (by omega)) (by first | omega | assumption | trivial | exact wt_of (by assumption) (by omega)) (by first | omega | assumption | trivial | exact wt_of (by assumption) (by omega)) (by first | omega | assumption | trivial | exact wt_of (by assumption) (by omega))) (fun r142_3 c_t_acts_142_3 f_t_forms_142_3 h16 => ?_)
          have h16 : FA f_t_forms_142_3 := h16
          exact ok_s (show FA f_t_forms_142_3 from by first | omega | assumption | trivial | (refine ⟨?_, ?_⟩ <;> first | omega | assumption | trivial | rfl) | (refine ⟨?_, ?_, ?_⟩ <;> first | omega | assumption | trivial | rfl) | (refine ⟨?_, ?_, ?_, ?_⟩ <;> first | omega | assumption | trivial | rfl) | (refine ⟨?_, ?_, ?_, ?_, ?_⟩ <;> first | omega | assumption | trivial | rfl) | (refine ⟨?_, ?_, ?_, ?_, ?_, ?_⟩ <;> first | omega | assumption | trivial | rfl) | (refine ⟨?_, ?_, ?_, ?_, ?_, ?_, ?_⟩ <;> first | omega | assumption | trivial | rfl) | (refine ⟨?_, ?_, ?_, ?_, ?_, ?_, ?_, ?_⟩ <;> first | omega | assumption | trivial | rfl))
        · first | unfold J_X9_product_100 | skip
          refine pd_2 _ (fun y4_105_138_4 hI17 => ?_) c_t_many f_t_roll y3_28_76 _ (by assumption) (by omega) (by omega) (by first | exact pd_he0 HPD (by omega) (by omega) | exact pd_he1 HPD (by omega))
          refine ok_o3 (sp_X9_give c_t_acts f_t_forms p0 y4_105_138_4 (by first | omega | assumption | trivial | exact wt_of (by assumption) (by omega)) (by first | omega | assumption | trivial | exact wt_of (by assumption) (by omega)) (by first | omega | assumption | trivial | exact wt_of (by assumption) (by omega)) (by first | omega | assumption | trivial | exact wt_of (by assumption) (by omega))) (fun r142_4 c_t_acts_142_4 f_t_forms_142_4 h18 => ?_)
          have h18 : FA f_t_forms_142_4 := h18
          exact ok_s (show FA f_t_forms_142_4 from by first | omega | assumption | trivial | (refine ⟨?_, ?_⟩ <;> first | omega | assumption | trivial | rfl) | (refine ⟨?_, ?_, ?_⟩ <;> first | omega | assumption | trivial | rfl) | (refine ⟨?_, ?_, ?_, ?_⟩ <;> first | omega | assumption | trivial | rfl) | (refine ⟨?_, ?_, ?_, ?_, ?_⟩ <;> first | omega | assumption | trivial | rfl) | (refine ⟨?_, ?_, ?_, ?_, ?_, ?_⟩ <;> first | omega | assumption | trivial | rfl) | (refine ⟨?_, ?_, ?_, ?_, ?_, ?_, ?_⟩ <;> first | omega | assumption | trivial | rfl) | (refine ⟨?_, ?_, ?_, ?_, ?_, ?_, ?_, ?_⟩ <;> first | omega | assumption | trivial | rfl))
    · exact ok_s (show FA f_t_forms from by first | omega | assumption | trivial | (refine ⟨?_, ?_⟩ <;> first | omega | assumption | trivial | rfl) | (refine ⟨?_, ?_, ?_⟩ <;> first | omega | assumption | trivial | rfl) | (refine ⟨?_, ?_, ?_, ?_⟩ <;> first | omega | assumption | trivial | rfl) | (refine ⟨?_, ?_, ?_, ?_, ?_⟩ <;> first | omega | assumption | trivial | rfl) | (refine ⟨?_, ?_, ?_, ?_, ?_, ?_⟩ <;> first | omega | assumption | trivial | rfl) | (refine ⟨?_, ?_, ?_, ?_, ?_, ?_, ?_⟩ <;> first | omega | assumption | trivial | rfl) | (refine ⟨?_, ?_, ?_, ?_, ?_, ?_, ?_, ?_⟩ <;> first | omega | assumption | trivial | rfl))
  · first | unfold J_X9_product_13 | skip
    refine ok_o2 (sp_X9_isThrown_ (0 : Int32) ) (fun r13_2 c_t_thrown_13_2 h19 => ?_)
    have h19 : (r13_2.toInt = 0 ∧ c_t_thrown_13_2.toInt = 0 ∧ (0 : Int32).toInt = 0) ∨ (r13_2.toInt = 1 ∧ c_t_thrown_13_2.toInt = 1 ∧ (0 : Int32).toInt ≠ 0) := h19
    refine ok_eq (fun c20 => ?_) (fun c20 => ?_)
    · refine pd_1 _ c_t_many f_t_roll (by assumption) (by omega) (by omega) (fun y2_28_76_2 y3_28_76_2 HPD => ?_)
      have HJ : (y3_28_76_2.toInt = 0 ∧ y2_28_76_2.toInt = SD f_t_roll c_t_many.toInt.toNat) ∨ y3_28_76_2.toInt = 1 := HPD.elim (fun h => Or.inl ⟨by rw [h.1]; rfl, h.2.1⟩) (fun h => Or.inr (by rw [h]; rfl))
      refine ok_eq (fun c22 => ?_) (fun c22 => ?_)
      · refine ok_lt (fun c23 => ?_) (fun c23 => ?_)
        · first | unfold J_X9_product_91 | skip
          refine ok_eq (fun c24 => ?_) (fun c24 => ?_)
          · first | unfold J_X9_product_100 | skip
            refine pd_2 _ (fun y4_105_138_5 hI25 => ?_) c_t_many f_t_roll y3_28_76_2 _ (by assumption) (by omega) (by omega) (by first | exact pd_he0 HPD (by omega) (by omega) | exact pd_he1 HPD (by omega))
            refine ok_o3 (sp_X9_give c_t_acts f_t_forms p0 y4_105_138_5 (by first | omega | assumption | trivial | exact wt_of (by assumption) (by omega)) (by first | omega | assumption | trivial | exact wt_of (by assumption) (by omega)) (by first | omega | assumption | trivial | exact wt_of (by assumption) (by omega)) (by first | omega | assumption | trivial | exact wt_of (by assumption) (by omega))) (fun r142_5 c_t_acts_142_5 f_t_forms_142_5 h26 => ?_)
            have h26 : FA f_t_forms_142_5 := h26
            exact ok_s (show FA f_t_forms_142_5 from by first | omega | assumption | trivial | (refine ⟨?_, ?_⟩ <;> first | omega | assumption | trivial | rfl) | (refine ⟨?_, ?_, ?_⟩ <;> first | omega | assumption | trivial | rfl) | (refine ⟨?_, ?_, ?_, ?_⟩ <;> first | omega | assumption | trivial | rfl) | (refine ⟨?_, ?_, ?_, ?_, ?_⟩ <;> first | omega | assumption | trivial | rfl) | (refine ⟨?_, ?_, ?_, ?_, ?_, ?_⟩ <;> first | omega | assumption | trivial | rfl) | (refine ⟨?_, ?_, ?_, ?_, ?_, ?_, ?_⟩ <;> first | omega | assumption | trivial | rfl) | (refine ⟨?_, ?_, ?_, ?_, ?_, ?_, ?_, ?_⟩ <;> first | omega | assumption | trivial | rfl))
          · first | unfold J_X9_product_100 | skip
            refine pd_2 _ (fun y4_105_138_6 hI27 => ?_) c_t_many f_t_roll y3_28_76_2 _ (by assumption) (by omega) (by omega) (by first | exact pd_he0 HPD (by omega) (by omega) | exact pd_he1 HPD (by omega))
            refine ok_o3 (sp_X9_give c_t_acts f_t_forms p0 y4_105_138_6 (by first | omega | assumption | trivial | exact wt_of (by assumption) (by omega)) (by first | omega | assumption | trivial | exact wt_of (by assumption) (by omega)) (by first | omega | assumption | trivial | exact wt_of (by assumption) (by omega)) (by first | omega | assumption | trivial | exact wt_of (by assumption) (by omega))) (fun r142_6 c_t_acts_142_6 f_t_forms_142_6 h28 => ?_)
            have h28 : FA f_t_forms_142_6 := h28
            exact ok_s (show FA f_t_forms_142_6 from by first | omega | assumption | trivial | (refine ⟨?_, ?_⟩ <;> first | omega | assumption | trivial | rfl) | (refine ⟨?_, ?_, ?_⟩ <;> first | omega | assumption | trivial | rfl) | (refine ⟨?_, ?_, ?_, ?_⟩ <;> first | omega | assumption | trivial | rfl) | (refine ⟨?_, ?_, ?_, ?_, ?_⟩ <;> first | omega | assumption | trivial | rfl) | (refine ⟨?_, ?_, ?_, ?_, ?_, ?_⟩ <;> first | omega | assumption | trivial | rfl) | (refine ⟨?_, ?_, ?_, ?_, ?_, ?_, ?_⟩ <;> first | omega | assumption | trivial | rfl) | (refine ⟨?_, ?_, ?_, ?_, ?_, ?_, ?_, ?_⟩ <;> first | omega | assumption | trivial | rfl))
        · refine ok_o2 (sp_X9_no c_t_refused ) (fun r87_2 c_t_refused_87_2 h29 => ?_)
          exact ok_s (show FA f_t_forms from by first | omega | assumption | trivial | (refine ⟨?_, ?_⟩ <;> first | omega | assumption | trivial | rfl) | (refine ⟨?_, ?_, ?_⟩ <;> first | omega | assumption | trivial | rfl) | (refine ⟨?_, ?_, ?_, ?_⟩ <;> first | omega | assumption | trivial | rfl) | (refine ⟨?_, ?_, ?_, ?_, ?_⟩ <;> first | omega | assumption | trivial | rfl) | (refine ⟨?_, ?_, ?_, ?_, ?_, ?_⟩ <;> first | omega | assumption | trivial | rfl) | (refine ⟨?_, ?_, ?_, ?_, ?_, ?_, ?_⟩ <;> first | omega | assumption | trivial | rfl) | (refine ⟨?_, ?_, ?_, ?_, ?_, ?_, ?_, ?_⟩ <;> first | omega | assumption | trivial | rfl))
      · first | unfold J_X9_product_91 | skip
        refine ok_eq (fun c30 => ?_) (fun c30 => ?_)
        · first | unfold J_X9_product_100 | skip
          refine pd_2 _ (fun y4_105_138_7 hI31 => ?_) c_t_many f_t_roll y3_28_76_2 _ (by assumption) (by omega) (by omega) (by first | exact pd_he0 HPD (by omega) (by omega) | exact pd_he1 HPD (by omega))
          refine ok_o3 (sp_X9_give c_t_acts f_t_forms p0 y4_105_138_7 (by first | omega | assumption | trivial | exact wt_of (by assumption) (by omega)) (by first | omega | assumption | trivial | exact wt_of (by assumption) (by omega)) (by first | omega | assumption | trivial | exact wt_of (by assumption) (by omega)) (by first | omega | assumption | trivial | exact wt_of (by assumption) (by omega))) (fun r142_7 c_t_acts_142_7 f_t_forms_142_7 h32 => ?_)
          have h32 : FA f_t_forms_142_7 := h32
          exact ok_s (show FA f_t_forms_142_7 from by first | omega | assumption | trivial | (refine ⟨?_, ?_⟩ <;> first | omega | assumption | trivial | rfl) | (refine ⟨?_, ?_, ?_⟩ <;> first | omega | assumption | trivial | rfl) | (refine ⟨?_, ?_, ?_, ?_⟩ <;> first | omega | assumption | trivial | rfl) | (refine ⟨?_, ?_, ?_, ?_, ?_⟩ <;> first | omega | assumption | trivial | rfl) | (refine ⟨?_, ?_, ?_, ?_, ?_, ?_⟩ <;> first | omega | assumption | trivial | rfl) | (refine ⟨?_, ?_, ?_, ?_, ?_, ?_, ?_⟩ <;> first | omega | assumption | trivial | rfl) | (refine ⟨?_, ?_, ?_, ?_, ?_, ?_, ?_, ?_⟩ <;> first | omega | assumption | trivial | rfl))
        · first | unfold J_X9_product_100 | skip
          refine pd_2 _ (fun y4_105_138_8 hI33 => ?_) c_t_many f_t_roll y3_28_76_2 _ (by assumption) (by omega) (by omega) (by first | exact pd_he0 HPD (by omega) (by omega) | exact pd_he1 HPD (by omega))
          refine ok_o3 (sp_X9_give c_t_acts f_t_forms p0 y4_105_138_8 (by first | omega | assumption | trivial | exact wt_of (by assumption) (by omega)) (by first | omega | assumption | trivial | exact wt_of (by assumption) (by omega)) (by first | omega | assumption | trivial | exact wt_of (by assumption) (by omega)) (by first | omega | assumption | trivial | exact wt_of (by assumption) (by omega))) (fun r142_8 c_t_acts_142_8 f_t_forms_142_8 h34 => ?_)
          have h34 : FA f_t_forms_142_8 := h34
          exact ok_s (show FA f_t_forms_142_8 from by first | omega | assumption | trivial | (refine ⟨?_, ?_⟩ <;> first | omega | assumption | trivial | rfl) | (refine ⟨?_, ?_, ?_⟩ <;> first | omega | assumption | trivial | rfl) | (refine ⟨?_, ?_, ?_, ?_⟩ <;> first | omega | assumption | trivial | rfl) | (refine ⟨?_, ?_, ?_, ?_, ?_⟩ <;> first | omega | assumption | trivial | rfl) | (refine ⟨?_, ?_, ?_, ?_, ?_, ?_⟩ <;> first | omega | assumption | trivial | rfl) | (refine ⟨?_, ?_, ?_, ?_, ?_, ?_, ?_⟩ <;> first | omega | assumption | trivial | rfl) | (refine ⟨?_, ?_, ?_, ?_, ?_, ?_, ?_, ?_⟩ <;> first | omega | assumption | trivial | rfl))
    · exact ok_s (show FA f_t_forms from by first | omega | assumption | trivial | (refine ⟨?_, ?_⟩ <;> first | omega | assumption | trivial | rfl) | (refine ⟨?_, ?_, ?_⟩ <;> first | omega | assumption | trivial | rfl) | (refine ⟨?_, ?_, ?_, ?_⟩ <;> first | omega | assumption | trivial | rfl) | (refine ⟨?_, ?_, ?_, ?_, ?_⟩ <;> first | omega | assumption | trivial | rfl) | (refine ⟨?_, ?_, ?_, ?_, ?_, ?_⟩ <;> first | omega | assumption | trivial | rfl) | (refine ⟨?_, ?_, ?_, ?_, ?_, ?_, ?_⟩ <;> first | omega | assumption | trivial | rfl) | (refine ⟨?_, ?_, ?_, ?_, ?_, ?_, ?_, ?_⟩ <;> first | omega | assumption | trivial | rfl))
set_option maxHeartbeats 1000000 in
theorem sp_X9_start (c_t_taps : Int64) (c_t_cells : Int32) (c_t_acts : Int32) (c_t_refused : Int32) (f_t_forms : Nat → Int64) (p0 : Int32) (hp0 : FA f_t_forms) (hp1 : CT c_t_taps c_t_cells) : ok (F_X9_start c_t_taps c_t_cells c_t_acts c_t_refused f_t_forms p0) (fun r => CT r.2.1 r.2.2.1) := by
  have l032 : (0 : Int32).toInt = 0 := by decide
  have l132 : (1 : Int32).toInt = 1 := by decide
  unfold F_X9_start
  refine ok_o (sp_X9_isForm p0 ) (fun r2 h1 => ?_)
  have h1 : (r2.toInt = 1 ∧ 0 ≤ p0.toInt ∧ p0.toInt ≤ 5) ∨ (r2.toInt = 0 ∧ (p0.toInt < 0 ∨ 6 ≤ p0.toInt)) := h1
  refine ok_eq (fun c2 => ?_) (fun c2 => ?_)
  · refine ok_o2 (sp_X9_isThrown_ (1 : Int32) ) (fun r13 c_t_thrown_13 h3 => ?_)
    have h3 : (r13.toInt = 0 ∧ c_t_thrown_13.toInt = 0 ∧ (1 : Int32).toInt = 0) ∨ (r13.toInt = 1 ∧ c_t_thrown_13.toInt = 1 ∧ (1 : Int32).toInt ≠ 0) := h3
    refine ok_eq (fun c4 => ?_) (fun c4 => ?_)
    · refine ok_c (ixo (by omega) (by omega)) ?_
      try have a5 := FA_at (f := f_t_forms) (by assumption) p0.toNatClampNeg
      refine ok_o (sp_X9_isWheel (f_t_forms p0.toNatClampNeg) ) (fun r27 h6 => ?_)
      have h6 : (r27.toInt = 0 ∨ r27.toInt = 1) ∧ (r27.toInt ≠ 0 → WT (f_t_forms p0.toNatClampNeg)) := h6
      obtain ⟨h6_0, h6_1⟩ := h6
      refine ok_eq (fun c7 => ?_) (fun c7 => ?_)
      · refine ok_o2 (sp_X9_no c_t_refused ) (fun r34 c_t_refused_34 h8 => ?_)
        exact ok_s (show CT c_t_taps c_t_cells from by first | assumption | (subst_vars; exact CT_begin (wt_of (by assumption) (by omega)) (by omega)))
      · refine ok_c (ixo (by omega) (by omega)) ?_
        try have a9 := FA_at (f := f_t_forms) (by assumption) p0.toNatClampNeg
        refine ok_bx (fun c_t_taps_45 e_c_t_taps_45 => ?_)
        try have q_c_t_taps_45 : DG c_t_taps_45 = DG (f_t_forms p0.toNatClampNeg) := by rw [e_c_t_taps_45]
        try have d_c_t_taps_45 : -1 ≤ DG c_t_taps_45 ∧ DG c_t_taps_45 ≤ 39 := by rw [e_c_t_taps_45]; exact FA_at (by assumption) _
        refine ok_o (sp_X9_degreeOf c_t_taps_45 ) (fun r54 h10 => ?_)
        have h10 : r54.toInt = DG c_t_taps_45 ∧ -1 ≤ r54.toInt ∧ r54.toInt ≤ 63 := h10
        refine ok_bx (fun c_t_cells_60 e_c_t_cells_60 => ?_)
        refine ok_o (sp_X9_degreeOf c_t_taps_45 ) (fun r68 h11 => ?_)
        have h11 : r68.toInt = DG c_t_taps_45 ∧ -1 ≤ r68.toInt ∧ r68.toInt ≤ 63 := h11
        refine ok_o2 (sp_X9_done c_t_acts r68 ) (fun r71 c_t_acts_71 h12 => ?_)
        exact ok_s (show CT c_t_taps_45 c_t_cells_60 from by first | assumption | (subst_vars; exact CT_begin (wt_of (by assumption) (by omega)) (by omega)))
    · exact ok_s (show CT c_t_taps c_t_cells from by first | assumption | (subst_vars; exact CT_begin (wt_of (by assumption) (by omega)) (by omega)))
  · refine ok_o2 (sp_X9_isThrown_ (0 : Int32) ) (fun r13_2 c_t_thrown_13_2 h13 => ?_)
    have h13 : (r13_2.toInt = 0 ∧ c_t_thrown_13_2.toInt = 0 ∧ (0 : Int32).toInt = 0) ∨ (r13_2.toInt = 1 ∧ c_t_thrown_13_2.toInt = 1 ∧ (0 : Int32).toInt ≠ 0) := h13
    refine ok_eq (fun c14 => ?_) (fun c14 => ?_)
    · refine ok_c (ixo (by omega) (by omega)) ?_
      try have a15 := FA_at (f := f_t_forms) (by assumption) p0.toNatClampNeg
      refine ok_o (sp_X9_isWheel (f_t_forms p0.toNatClampNeg) ) (fun r27_2 h16 => ?_)
      have h16 : (r27_2.toInt = 0 ∨ r27_2.toInt = 1) ∧ (r27_2.toInt ≠ 0 → WT (f_t_forms p0.toNatClampNeg)) := h16
      obtain ⟨h16_0, h16_1⟩ := h16
      refine ok_eq (fun c17 => ?_) (fun c17 => ?_)
      · refine ok_o2 (sp_X9_no c_t_refused ) (fun r34_2 c_t_refused_34_2 h18 => ?_)
        exact ok_s (show CT c_t_taps c_t_cells from by first | assumption | (subst_vars; exact CT_begin (wt_of (by assumption) (by omega)) (by omega)))
      · refine ok_c (ixo (by omega) (by omega)) ?_
        try have a19 := FA_at (f := f_t_forms) (by assumption) p0.toNatClampNeg
        refine ok_bx (fun c_t_taps_45_2 e_c_t_taps_45_2 => ?_)
        try have q_c_t_taps_45_2 : DG c_t_taps_45_2 = DG (f_t_forms p0.toNatClampNeg) := by rw [e_c_t_taps_45_2]
        try have d_c_t_taps_45_2 : -1 ≤ DG c_t_taps_45_2 ∧ DG c_t_taps_45_2 ≤ 39 := by rw [e_c_t_taps_45_2]; exact FA_at (by assumption) _
        refine ok_o (sp_X9_degreeOf c_t_taps_45_2 ) (fun r54_2 h20 => ?_)
        have h20 : r54_2.toInt = DG c_t_taps_45_2 ∧ -1 ≤ r54_2.toInt ∧ r54_2.toInt ≤ 63 := h20
        refine ok_bx (fun c_t_cells_60_2 e_c_t_cells_60_2 => ?_)
        refine ok_o (sp_X9_degreeOf c_t_taps_45_2 ) (fun r68_2 h21 => ?_)
        have h21 : r68_2.toInt = DG c_t_taps_45_2 ∧ -1 ≤ r68_2.toInt ∧ r68_2.toInt ≤ 63 := h21
        refine ok_o2 (sp_X9_done c_t_acts r68_2 ) (fun r71_2 c_t_acts_71_2 h22 => ?_)
        exact ok_s (show CT c_t_taps_45_2 c_t_cells_60_2 from by first | assumption | (subst_vars; exact CT_begin (wt_of (by assumption) (by omega)) (by omega)))
    · exact ok_s (show CT c_t_taps c_t_cells from by first | assumption | (subst_vars; exact CT_begin (wt_of (by assumption) (by omega)) (by omega)))
set_option maxHeartbeats 1000000 in
theorem sp_X9_step (c_t_taps : Int64) (c_t_cells : Int32) (c_t_acts : Int32) (p0 : Int32) (hp0 : CT c_t_taps c_t_cells) : ok (F_X9_step c_t_taps c_t_cells c_t_acts p0) (fun r => CT c_t_taps r.2.1) := by
  have l032 : (0 : Int32).toInt = 0 := by decide
  have l132 : (1 : Int32).toInt = 1 := by decide
  have l25532 : (255 : Int32).toInt = 255 := by decide
  unfold F_X9_step
  refine ok_lt (fun c1 => ?_) (fun c1 => ?_)
  · refine ok_o2 (sp_X9_isThrown_ (1 : Int32) ) (fun r17 c_t_thrown_17 h2 => ?_)
    have h2 : (r17.toInt = 0 ∧ c_t_thrown_17.toInt = 0 ∧ (1 : Int32).toInt = 0) ∨ (r17.toInt = 1 ∧ c_t_thrown_17.toInt = 1 ∧ (1 : Int32).toInt ≠ 0) := h2
    refine ok_eq (fun c3 => ?_) (fun c3 => ?_)
    · refine ok_L3 (fun y2_29 y3_29 c_t_cells_29 => 0 ≤ y3_29.toInt ∧ CT c_t_taps c_t_cells_29) (fun y2_29 y3_29 c_t_cells_29 => (p0.toInt - y3_29.toInt + 1).toNat) (fun ih29 y2_29 y3_29 c_t_cells_29 hI4 hih4 => ?_) 20000 (0 : Int32) (0 : Int32) c_t_cells (show 0 ≤ (0 : Int32).toInt ∧ CT c_t_taps c_t_cells from by first | omega | assumption | trivial | (refine ⟨?_, ?_⟩ <;> first | omega | assumption | trivial | rfl) | (refine ⟨?_, ?_, ?_⟩ <;> first | omega | assumption | trivial | rfl) | (refine ⟨?_, ?_, ?_, ?_⟩ <;> first | omega | assumption | trivial | rfl) | (refine ⟨?_, ?_, ?_, ?_, ?_⟩ <;> first | omega | assumption | trivial | rfl) | (refine ⟨?_, ?_, ?_, ?_, ?_, ?_⟩ <;> first | omega | assumption | trivial | rfl) | (refine ⟨?_, ?_, ?_, ?_, ?_, ?_, ?_⟩ <;> first | omega | assumption | trivial | rfl) | (refine ⟨?_, ?_, ?_, ?_, ?_, ?_, ?_, ?_⟩ <;> first | omega | assumption | trivial | rfl)) (show (p0.toInt - (0 : Int32).toInt + 1).toNat < 20000 from by omega)
      have hI4 : 0 ≤ y3_29.toInt ∧ CT c_t_taps c_t_cells_29 := hI4
      obtain ⟨hI4_0, hI4_1⟩ := hI4
      unfold S_X9_step_29
      refine ok_le (fun c5 => ?_) (fun c5 => ?_)
      · refine ok_o2 (sp_X9_done c_t_acts y2_29 ) (fun r63 c_t_acts_63 h6 => ?_)
        exact ok_s (show CT c_t_taps c_t_cells_29 from by first | omega | assumption | trivial | (refine ⟨?_, ?_⟩ <;> first | omega | assumption | trivial | rfl) | (refine ⟨?_, ?_, ?_⟩ <;> first | omega | assumption | trivial | rfl) | (refine ⟨?_, ?_, ?_, ?_⟩ <;> first | omega | assumption | trivial | rfl) | (refine ⟨?_, ?_, ?_, ?_, ?_⟩ <;> first | omega | assumption | trivial | rfl) | (refine ⟨?_, ?_, ?_, ?_, ?_, ?_⟩ <;> first | omega | assumption | trivial | rfl) | (refine ⟨?_, ?_, ?_, ?_, ?_, ?_, ?_⟩ <;> first | omega | assumption | trivial | rfl) | (refine ⟨?_, ?_, ?_, ?_, ?_, ?_, ?_, ?_⟩ <;> first | omega | assumption | trivial | rfl))
      · refine ok_bx (fun x2_42 e_x2_42 => ?_)
        refine ok_o (sp_X9_next c_t_taps c_t_cells_29 (by first | omega | assumption | trivial | exact wt_of (by assumption) (by omega))) (fun r49 h7 => ?_)
        have h7 : CT c_t_taps r49 := h7
        refine ok_bx (fun x3_55 e_x3_55 => ?_)
        try have t_x3_55 : x3_55.toInt = y3_29.toInt + 1 := by rw [e_x3_55]; exact addT1 (show (1 : Int32).toInt = 1 from by decide) (by omega) (by omega)
        exact hih4 x2_42 x3_55 r49 (show 0 ≤ x3_55.toInt ∧ CT c_t_taps r49 from by first | omega | assumption | trivial | (refine ⟨?_, ?_⟩ <;> first | omega | assumption | trivial | rfl) | (refine ⟨?_, ?_, ?_⟩ <;> first | omega | assumption | trivial | rfl) | (refine ⟨?_, ?_, ?_, ?_⟩ <;> first | omega | assumption | trivial | rfl) | (refine ⟨?_, ?_, ?_, ?_, ?_⟩ <;> first | omega | assumption | trivial | rfl) | (refine ⟨?_, ?_, ?_, ?_, ?_, ?_⟩ <;> first | omega | assumption | trivial | rfl) | (refine ⟨?_, ?_, ?_, ?_, ?_, ?_, ?_⟩ <;> first | omega | assumption | trivial | rfl) | (refine ⟨?_, ?_, ?_, ?_, ?_, ?_, ?_, ?_⟩ <;> first | omega | assumption | trivial | rfl)) (show (p0.toInt - x3_55.toInt + 1).toNat < (p0.toInt - y3_29.toInt + 1).toNat from by omega)
    · exact ok_s (show CT c_t_taps c_t_cells from by first | omega | assumption | trivial | (refine ⟨?_, ?_⟩ <;> first | omega | assumption | trivial | rfl) | (refine ⟨?_, ?_, ?_⟩ <;> first | omega | assumption | trivial | rfl) | (refine ⟨?_, ?_, ?_, ?_⟩ <;> first | omega | assumption | trivial | rfl) | (refine ⟨?_, ?_, ?_, ?_, ?_⟩ <;> first | omega | assumption | trivial | rfl) | (refine ⟨?_, ?_, ?_, ?_, ?_, ?_⟩ <;> first | omega | assumption | trivial | rfl) | (refine ⟨?_, ?_, ?_, ?_, ?_, ?_, ?_⟩ <;> first | omega | assumption | trivial | rfl) | (refine ⟨?_, ?_, ?_, ?_, ?_, ?_, ?_, ?_⟩ <;> first | omega | assumption | trivial | rfl))
  · refine ok_le (fun c8 => ?_) (fun c8 => ?_)
    · refine ok_o2 (sp_X9_isThrown_ (0 : Int32) ) (fun r17_2 c_t_thrown_17_2 h9 => ?_)
      have h9 : (r17_2.toInt = 0 ∧ c_t_thrown_17_2.toInt = 0 ∧ (0 : Int32).toInt = 0) ∨ (r17_2.toInt = 1 ∧ c_t_thrown_17_2.toInt = 1 ∧ (0 : Int32).toInt ≠ 0) := h9
      refine ok_eq (fun c10 => ?_) (fun c10 => ?_)
      · refine ok_L3 (fun y2_29_2 y3_29_2 c_t_cells_29_2 => 0 ≤ y3_29_2.toInt ∧ CT c_t_taps c_t_cells_29_2) (fun y2_29_2 y3_29_2 c_t_cells_29_2 => (p0.toInt - y3_29_2.toInt + 1).toNat) (fun ih29_2 y2_29_2 y3_29_2 c_t_cells_29_2 hI11 hih11 => ?_) 20000 (0 : Int32) (0 : Int32) c_t_cells (show 0 ≤ (0 : Int32).toInt ∧ CT c_t_taps c_t_cells from by first | omega | assumption | trivial | (refine ⟨?_, ?_⟩ <;> first | omega | assumption | trivial | rfl) | (refine ⟨?_, ?_, ?_⟩ <;> first | omega | assumption | trivial | rfl) | (refine ⟨?_, ?_, ?_, ?_⟩ <;> first | omega | assumption | trivial | rfl) | (refine ⟨?_, ?_, ?_, ?_, ?_⟩ <;> first | omega | assumption | trivial | rfl) | (refine ⟨?_, ?_, ?_, ?_, ?_, ?_⟩ <;> first | omega | assumption | trivial | rfl) | (refine ⟨?_, ?_, ?_, ?_, ?_, ?_, ?_⟩ <;> first | omega | assumption | trivial | rfl) | (refine ⟨?_, ?_, ?_, ?_, ?_, ?_, ?_, ?_⟩ <;> first | omega | assumption | trivial | rfl)) (show (p0.toInt - (0 : Int32).toInt + 1).toNat < 20000 from by omega)
        have hI11 : 0 ≤ y3_29_2.toInt ∧ CT c_t_taps c_t_cells_29_2 := hI11
        obtain ⟨hI11_0, hI11_1⟩ := hI11
        unfold S_X9_step_29
        refine ok_le (fun c12 => ?_) (fun c12 => ?_)
        · refine ok_o2 (sp_X9_done c_t_acts y2_29_2 ) (fun r63_2 c_t_acts_63_2 h13 => ?_)
          exact ok_s (show CT c_t_taps c_t_cells_29_2 from by first | omega | assumption | trivial | (refine ⟨?_, ?_⟩ <;> first | omega | assumption | trivial | rfl) | (refine ⟨?_, ?_, ?_⟩ <;> first | omega | assumption | trivial | rfl) | (refine ⟨?_, ?_, ?_, ?_⟩ <;> first | omega | assumption | trivial | rfl) | (refine ⟨?_, ?_, ?_, ?_, ?_⟩ <;> first | omega | assumption | trivial | rfl) | (refine ⟨?_, ?_, ?_, ?_, ?_, ?_⟩ <;> first | omega | assumption | trivial | rfl) | (refine ⟨?_, ?_, ?_, ?_, ?_, ?_, ?_⟩ <;> first | omega | assumption | trivial | rfl) | (refine ⟨?_, ?_, ?_, ?_, ?_, ?_, ?_, ?_⟩ <;> first | omega | assumption | trivial | rfl))
        · refine ok_bx (fun x2_42_2 e_x2_42_2 => ?_)
          refine ok_o (sp_X9_next c_t_taps c_t_cells_29_2 (by first | omega | assumption | trivial | exact wt_of (by assumption) (by omega))) (fun r49_2 h14 => ?_)
          have h14 : CT c_t_taps r49_2 := h14
          refine ok_bx (fun x3_55_2 e_x3_55_2 => ?_)
          try have t_x3_55_2 : x3_55_2.toInt = y3_29_2.toInt + 1 := by rw [e_x3_55_2]; exact addT1 (show (1 : Int32).toInt = 1 from by decide) (by omega) (by omega)
          exact hih11 x2_42_2 x3_55_2 r49_2 (show 0 ≤ x3_55_2.toInt ∧ CT c_t_taps r49_2 from by first | omega | assumption | trivial | (refine ⟨?_, ?_⟩ <;> first | omega | assumption | trivial | rfl) | (refine ⟨?_, ?_, ?_⟩ <;> first | omega | assumption | trivial | rfl) | (refine ⟨?_, ?_, ?_, ?_⟩ <;> first | omega | assumption | trivial | rfl) | (refine ⟨?_, ?_, ?_, ?_, ?_⟩ <;> first | omega | assumption | trivial | rfl) | (refine ⟨?_, ?_, ?_, ?_, ?_, ?_⟩ <;> first | omega | assumption | trivial | rfl) | (refine ⟨?_, ?_, ?_, ?_, ?_, ?_, ?_⟩ <;> first | omega | assumption | trivial | rfl) | (refine ⟨?_, ?_, ?_, ?_, ?_, ?_, ?_, ?_⟩ <;> first | omega | assumption | trivial | rfl)) (show (p0.toInt - x3_55_2.toInt + 1).toNat < (p0.toInt - y3_29_2.toInt + 1).toNat from by omega)
      · exact ok_s (show CT c_t_taps c_t_cells from by first | omega | assumption | trivial | (refine ⟨?_, ?_⟩ <;> first | omega | assumption | trivial | rfl) | (refine ⟨?_, ?_, ?_⟩ <;> first | omega | assumption | trivial | rfl) | (refine ⟨?_, ?_, ?_, ?_⟩ <;> first | omega | assumption | trivial | rfl) | (refine ⟨?_, ?_, ?_, ?_, ?_⟩ <;> first | omega | assumption | trivial | rfl) | (refine ⟨?_, ?_, ?_, ?_, ?_, ?_⟩ <;> first | omega | assumption | trivial | rfl) | (refine ⟨?_, ?_, ?_, ?_, ?_, ?_, ?_⟩ <;> first | omega | assumption | trivial | rfl) | (refine ⟨?_, ?_, ?_, ?_, ?_, ?_, ?_, ?_⟩ <;> first | omega | assumption | trivial | rfl))
    · refine ok_o2 (sp_X9_isThrown_ (1 : Int32) ) (fun r17_3 c_t_thrown_17_3 h15 => ?_)
      have h15 : (r17_3.toInt = 0 ∧ c_t_thrown_17_3.toInt = 0 ∧ (1 : Int32).toInt = 0) ∨ (r17_3.toInt = 1 ∧ c_t_thrown_17_3.toInt = 1 ∧ (1 : Int32).toInt ≠ 0) := h15
      refine ok_eq (fun c16 => ?_) (fun c16 => ?_)
      · refine ok_L3 (fun y2_29_3 y3_29_3 c_t_cells_29_3 => 0 ≤ y3_29_3.toInt ∧ CT c_t_taps c_t_cells_29_3) (fun y2_29_3 y3_29_3 c_t_cells_29_3 => (p0.toInt - y3_29_3.toInt + 1).toNat) (fun ih29_3 y2_29_3 y3_29_3 c_t_cells_29_3 hI17 hih17 => ?_) 20000 (0 : Int32) (0 : Int32) c_t_cells (show 0 ≤ (0 : Int32).toInt ∧ CT c_t_taps c_t_cells from by first | omega | assumption | trivial | (refine ⟨?_, ?_⟩ <;> first | omega | assumption | trivial | rfl) | (refine ⟨?_, ?_, ?_⟩ <;> first | omega | assumption | trivial | rfl) | (refine ⟨?_, ?_, ?_, ?_⟩ <;> first | omega | assumption | trivial | rfl) | (refine ⟨?_, ?_, ?_, ?_, ?_⟩ <;> first | omega | assumption | trivial | rfl) | (refine ⟨?_, ?_, ?_, ?_, ?_, ?_⟩ <;> first | omega | assumption | trivial | rfl) | (refine ⟨?_, ?_, ?_, ?_, ?_, ?_, ?_⟩ <;> first | omega | assumption | trivial | rfl) | (refine ⟨?_, ?_, ?_, ?_, ?_, ?_, ?_, ?_⟩ <;> first | omega | assumption | trivial | rfl)) (show (p0.toInt - (0 : Int32).toInt + 1).toNat < 20000 from by omega)
        have hI17 : 0 ≤ y3_29_3.toInt ∧ CT c_t_taps c_t_cells_29_3 := hI17
        obtain ⟨hI17_0, hI17_1⟩ := hI17
        unfold S_X9_step_29
        refine ok_le (fun c18 => ?_) (fun c18 => ?_)
        · refine ok_o2 (sp_X9_done c_t_acts y2_29_3 ) (fun r63_3 c_t_acts_63_3 h19 => ?_)
          exact ok_s (show CT c_t_taps c_t_cells_29_3 from by first | omega | assumption | trivial | (refine ⟨?_, ?_⟩ <;> first | omega | assumption | trivial | rfl) | (refine ⟨?_, ?_, ?_⟩ <;> first | omega | assumption | trivial | rfl) | (refine ⟨?_, ?_, ?_, ?_⟩ <;> first | omega | assumption | trivial | rfl) | (refine ⟨?_, ?_, ?_, ?_, ?_⟩ <;> first | omega | assumption | trivial | rfl) | (refine ⟨?_, ?_, ?_, ?_, ?_, ?_⟩ <;> first | omega | assumption | trivial | rfl) | (refine ⟨?_, ?_, ?_, ?_, ?_, ?_, ?_⟩ <;> first | omega | assumption | trivial | rfl) | (refine ⟨?_, ?_, ?_, ?_, ?_, ?_, ?_, ?_⟩ <;> first | omega | assumption | trivial | rfl))
        · refine ok_bx (fun x2_42_3 e_x2_42_3 => ?_)
          refine ok_o (sp_X9_next c_t_taps c_t_cells_29_3 (by first | omega | assumption | trivial | exact wt_of (by assumption) (by omega))) (fun r49_3 h20 => ?_)
          have h20 : CT c_t_taps r49_3 := h20
          refine ok_bx (fun x3_55_3 e_x3_55_3 => ?_)
          try have t_x3_55_3 : x3_55_3.toInt = y3_29_3.toInt + 1 := by rw [e_x3_55_3]; exact addT1 (show (1 : Int32).toInt = 1 from by decide) (by omega) (by omega)
          exact hih17 x2_42_3 x3_55_3 r49_3 (show 0 ≤ x3_55_3.toInt ∧ CT c_t_taps r49_3 from by first | omega | assumption | trivial | (refine ⟨?_, ?_⟩ <;> first | omega | assumption | trivial | rfl) | (refine ⟨?_, ?_, ?_⟩ <;> first | omega | assumption | trivial | rfl) | (refine ⟨?_, ?_, ?_, ?_⟩ <;> first | omega | assumption | trivial | rfl) | (refine ⟨?_, ?_, ?_, ?_, ?_⟩ <;> first | omega | assumption | trivial | rfl) | (refine ⟨?_, ?_, ?_, ?_, ?_, ?_⟩ <;> first | omega | assumption | trivial | rfl) | (refine ⟨?_, ?_, ?_, ?_, ?_, ?_, ?_⟩ <;> first | omega | assumption | trivial | rfl) | (refine ⟨?_, ?_, ?_, ?_, ?_, ?_, ?_, ?_⟩ <;> first | omega | assumption | trivial | rfl)) (show (p0.toInt - x3_55_3.toInt + 1).toNat < (p0.toInt - y3_29_3.toInt + 1).toNat from by omega)
      · exact ok_s (show CT c_t_taps c_t_cells from by first | omega | assumption | trivial | (refine ⟨?_, ?_⟩ <;> first | omega | assumption | trivial | rfl) | (refine ⟨?_, ?_, ?_⟩ <;> first | omega | assumption | trivial | rfl) | (refine ⟨?_, ?_, ?_, ?_⟩ <;> first | omega | assumption | trivial | rfl) | (refine ⟨?_, ?_, ?_, ?_, ?_⟩ <;> first | omega | assumption | trivial | rfl) | (refine ⟨?_, ?_, ?_, ?_, ?_, ?_⟩ <;> first | omega | assumption | trivial | rfl) | (refine ⟨?_, ?_, ?_, ?_, ?_, ?_, ?_⟩ <;> first | omega | assumption | trivial | rfl) | (refine ⟨?_, ?_, ?_, ?_, ?_, ?_, ?_, ?_⟩ <;> first | omega | assumption | trivial | rfl))
set_option maxHeartbeats 1000000 in
theorem sp_X9_load (c_t_taps : Int64) (c_t_cells : Int32) (c_t_acts : Int32) (c_t_refused : Int32) (p0 : Int32) (hp0 : CT c_t_taps c_t_cells) : ok (F_X9_load c_t_taps c_t_cells c_t_acts c_t_refused p0) (fun r => CT c_t_taps r.2.1) := by
  have l032 : (0 : Int32).toInt = 0 := by decide
  have l132 : (1 : Int32).toInt = 1 := by decide
  have l25532 : (255 : Int32).toInt = 255 := by decide
  have hct := CT_g hp0
  unfold F_X9_load
  refine ok_lt (fun c1 => ?_) (fun c1 => ?_)
  · refine ok_o2 (sp_X9_isThrown_ (1 : Int32) ) (fun r17 c_t_thrown_17 h2 => ?_)
    have h2 : (r17.toInt = 0 ∧ c_t_thrown_17.toInt = 0 ∧ (1 : Int32).toInt = 0) ∨ (r17.toInt = 1 ∧ c_t_thrown_17.toInt = 1 ∧ (1 : Int32).toInt ≠ 0) := h2
    refine ok_eq (fun c3 => ?_) (fun c3 => ?_)
    · refine ok_o (sp_X9_degreeOf c_t_taps ) (fun r30 h4 => ?_)
      have h4 : r30.toInt = DG c_t_taps ∧ -1 ≤ r30.toInt ∧ r30.toInt ≤ 63 := h4
      refine ok_le (fun c5 => ?_) (fun c5 => ?_)
      · refine ok_o (sp_X9_onesOf ((c_t_cells ^^^ p0).toInt64) ) (fun r49 h6 => ?_)
        have h6 : 0 ≤ r49.toInt ∧ r49.toInt ≤ 127 := h6
        refine ok_o2 (sp_X9_done c_t_acts r49 ) (fun r60 c_t_acts_60 h7 => ?_)
        exact ok_s (show CT c_t_taps p0 from by first | assumption | exact CT_load (by assumption) (by assumption) (by omega) (by omega) (by omega))
      · refine ok_o2 (sp_X9_no c_t_refused ) (fun r38 c_t_refused_38 h8 => ?_)
        exact ok_s (show CT c_t_taps c_t_cells from by first | assumption | exact CT_load (by assumption) (by assumption) (by omega) (by omega) (by omega))
    · exact ok_s (show CT c_t_taps c_t_cells from by first | assumption | exact CT_load (by assumption) (by assumption) (by omega) (by omega) (by omega))
  · refine ok_le (fun c9 => ?_) (fun c9 => ?_)
    · refine ok_o2 (sp_X9_isThrown_ (0 : Int32) ) (fun r17_2 c_t_thrown_17_2 h10 => ?_)
      have h10 : (r17_2.toInt = 0 ∧ c_t_thrown_17_2.toInt = 0 ∧ (0 : Int32).toInt = 0) ∨ (r17_2.toInt = 1 ∧ c_t_thrown_17_2.toInt = 1 ∧ (0 : Int32).toInt ≠ 0) := h10
      refine ok_eq (fun c11 => ?_) (fun c11 => ?_)
      · refine ok_o (sp_X9_degreeOf c_t_taps ) (fun r30_2 h12 => ?_)
        have h12 : r30_2.toInt = DG c_t_taps ∧ -1 ≤ r30_2.toInt ∧ r30_2.toInt ≤ 63 := h12
        refine ok_le (fun c13 => ?_) (fun c13 => ?_)
        · refine ok_o (sp_X9_onesOf ((c_t_cells ^^^ p0).toInt64) ) (fun r49_2 h14 => ?_)
          have h14 : 0 ≤ r49_2.toInt ∧ r49_2.toInt ≤ 127 := h14
          refine ok_o2 (sp_X9_done c_t_acts r49_2 ) (fun r60_2 c_t_acts_60_2 h15 => ?_)
          exact ok_s (show CT c_t_taps p0 from by first | assumption | exact CT_load (by assumption) (by assumption) (by omega) (by omega) (by omega))
        · refine ok_o2 (sp_X9_no c_t_refused ) (fun r38_2 c_t_refused_38_2 h16 => ?_)
          exact ok_s (show CT c_t_taps c_t_cells from by first | assumption | exact CT_load (by assumption) (by assumption) (by omega) (by omega) (by omega))
      · exact ok_s (show CT c_t_taps c_t_cells from by first | assumption | exact CT_load (by assumption) (by assumption) (by omega) (by omega) (by omega))
    · refine ok_o2 (sp_X9_isThrown_ (1 : Int32) ) (fun r17_3 c_t_thrown_17_3 h17 => ?_)
      have h17 : (r17_3.toInt = 0 ∧ c_t_thrown_17_3.toInt = 0 ∧ (1 : Int32).toInt = 0) ∨ (r17_3.toInt = 1 ∧ c_t_thrown_17_3.toInt = 1 ∧ (1 : Int32).toInt ≠ 0) := h17
      refine ok_eq (fun c18 => ?_) (fun c18 => ?_)
      · refine ok_o (sp_X9_degreeOf c_t_taps ) (fun r30_3 h19 => ?_)
        have h19 : r30_3.toInt = DG c_t_taps ∧ -1 ≤ r30_3.toInt ∧ r30_3.toInt ≤ 63 := h19
        refine ok_le (fun c20 => ?_) (fun c20 => ?_)
        · refine ok_o (sp_X9_onesOf ((c_t_cells ^^^ p0).toInt64) ) (fun r49_3 h21 => ?_)
          have h21 : 0 ≤ r49_3.toInt ∧ r49_3.toInt ≤ 127 := h21
          refine ok_o2 (sp_X9_done c_t_acts r49_3 ) (fun r60_3 c_t_acts_60_3 h22 => ?_)
          exact ok_s (show CT c_t_taps p0 from by first | assumption | exact CT_load (by assumption) (by assumption) (by omega) (by omega) (by omega))
        · refine ok_o2 (sp_X9_no c_t_refused ) (fun r38_3 c_t_refused_38_3 h23 => ?_)
          exact ok_s (show CT c_t_taps c_t_cells from by first | assumption | exact CT_load (by assumption) (by assumption) (by omega) (by omega) (by omega))
      · exact ok_s (show CT c_t_taps c_t_cells from by first | assumption | exact CT_load (by assumption) (by assumption) (by omega) (by omega) (by omega))
set_option maxHeartbeats 1000000 in
theorem sp_X9_degree (f_t_forms : Nat → Int64) (p0 : Int32) (hp0 : FA f_t_forms) : ok (F_X9_degree f_t_forms p0) (fun r => True) := by
  have l032 : (0 : Int32).toInt = 0 := by decide
  have l132 : (1 : Int32).toInt = 1 := by decide
  unfold F_X9_degree
  refine ok_o (sp_X9_isForm p0 ) (fun r2 h1 => ?_)
  have h1 : (r2.toInt = 1 ∧ 0 ≤ p0.toInt ∧ p0.toInt ≤ 5) ∨ (r2.toInt = 0 ∧ (p0.toInt < 0 ∨ 6 ≤ p0.toInt)) := h1
  refine ok_eq (fun c2 => ?_) (fun c2 => ?_)
  · refine ok_o2 (sp_X9_isThrown_ (1 : Int32) ) (fun r13 c_t_thrown_13 h3 => ?_)
    have h3 : (r13.toInt = 0 ∧ c_t_thrown_13.toInt = 0 ∧ (1 : Int32).toInt = 0) ∨ (r13.toInt = 1 ∧ c_t_thrown_13.toInt = 1 ∧ (1 : Int32).toInt ≠ 0) := h3
    refine ok_eq (fun c4 => ?_) (fun c4 => ?_)
    · refine ok_c (ixo (by omega) (by omega)) ?_
      try have a5 := FA_at (f := f_t_forms) (by assumption) p0.toNatClampNeg
      refine ok_o (sp_X9_degreeOf (f_t_forms p0.toNatClampNeg) ) (fun r29 h6 => ?_)
      have h6 : r29.toInt = DG (f_t_forms p0.toNatClampNeg) ∧ -1 ≤ r29.toInt ∧ r29.toInt ≤ 63 := h6
      exact ok_s trivial
    · exact ok_s trivial
  · refine ok_o2 (sp_X9_isThrown_ (0 : Int32) ) (fun r13_2 c_t_thrown_13_2 h7 => ?_)
    have h7 : (r13_2.toInt = 0 ∧ c_t_thrown_13_2.toInt = 0 ∧ (0 : Int32).toInt = 0) ∨ (r13_2.toInt = 1 ∧ c_t_thrown_13_2.toInt = 1 ∧ (0 : Int32).toInt ≠ 0) := h7
    refine ok_eq (fun c8 => ?_) (fun c8 => ?_)
    · refine ok_c (ixo (by omega) (by omega)) ?_
      try have a9 := FA_at (f := f_t_forms) (by assumption) p0.toNatClampNeg
      refine ok_o (sp_X9_degreeOf (f_t_forms p0.toNatClampNeg) ) (fun r29_2 h10 => ?_)
      have h10 : r29_2.toInt = DG (f_t_forms p0.toNatClampNeg) ∧ -1 ≤ r29_2.toInt ∧ r29_2.toInt ≤ 63 := h10
      exact ok_s trivial
    · exact ok_s trivial
set_option maxHeartbeats 1000000 in
theorem sp_X9_code (f_t_forms : Nat → Int64) (p0 : Int32) (hp0 : FA f_t_forms) : ok (F_X9_code f_t_forms p0) (fun r => True) := by
  have lm932 : (-9 : Int32).toInt = -9 := by decide
  have l032 : (0 : Int32).toInt = 0 := by decide
  have l132 : (1 : Int32).toInt = 1 := by decide
  have l3032 : (30 : Int32).toInt = 30 := by decide
  unfold F_X9_code
  refine ok_o (sp_X9_isForm p0 ) (fun r2 h1 => ?_)
  have h1 : (r2.toInt = 1 ∧ 0 ≤ p0.toInt ∧ p0.toInt ≤ 5) ∨ (r2.toInt = 0 ∧ (p0.toInt < 0 ∨ 6 ≤ p0.toInt)) := h1
  refine ok_eq (fun c2 => ?_) (fun c2 => ?_)
  · refine ok_o2 (sp_X9_isThrown_ (1 : Int32) ) (fun r13 c_t_thrown_13 h3 => ?_)
    have h3 : (r13.toInt = 0 ∧ c_t_thrown_13.toInt = 0 ∧ (1 : Int32).toInt = 0) ∨ (r13.toInt = 1 ∧ c_t_thrown_13.toInt = 1 ∧ (1 : Int32).toInt ≠ 0) := h3
    refine ok_eq (fun c4 => ?_) (fun c4 => ?_)
    · refine ok_c (ixo (by omega) (by omega)) ?_
      try have a5 := FA_at (f := f_t_forms) (by assumption) p0.toNatClampNeg
      refine ok_o (sp_X9_degreeOf (f_t_forms p0.toNatClampNeg) ) (fun r29 h6 => ?_)
      have h6 : r29.toInt = DG (f_t_forms p0.toNatClampNeg) ∧ -1 ≤ r29.toInt ∧ r29.toInt ≤ 63 := h6
      refine ok_le (fun c7 => ?_) (fun c7 => ?_)
      · refine ok_c (ixo (by omega) (by omega)) ?_
        exact ok_s trivial
      · exact ok_s trivial
    · exact ok_s trivial
  · refine ok_o2 (sp_X9_isThrown_ (0 : Int32) ) (fun r13_2 c_t_thrown_13_2 h8 => ?_)
    have h8 : (r13_2.toInt = 0 ∧ c_t_thrown_13_2.toInt = 0 ∧ (0 : Int32).toInt = 0) ∨ (r13_2.toInt = 1 ∧ c_t_thrown_13_2.toInt = 1 ∧ (0 : Int32).toInt ≠ 0) := h8
    refine ok_eq (fun c9 => ?_) (fun c9 => ?_)
    · refine ok_c (ixo (by omega) (by omega)) ?_
      try have a10 := FA_at (f := f_t_forms) (by assumption) p0.toNatClampNeg
      refine ok_o (sp_X9_degreeOf (f_t_forms p0.toNatClampNeg) ) (fun r29_2 h11 => ?_)
      have h11 : r29_2.toInt = DG (f_t_forms p0.toNatClampNeg) ∧ -1 ≤ r29_2.toInt ∧ r29_2.toInt ≤ 63 := h11
      refine ok_le (fun c12 => ?_) (fun c12 => ?_)
      · refine ok_c (ixo (by omega) (by omega)) ?_
        exact ok_s trivial
      · exact ok_s trivial
    · exact ok_s trivial
set_option maxHeartbeats 1000000 in
theorem sp_X9_has (f_t_forms : Nat → Int64) (p0 : Int32) (p1 : Int32) (hp0 : FA f_t_forms) : ok (F_X9_has f_t_forms p0 p1) (fun r => True) := by
  have l032 : (0 : Int32).toInt = 0 := by decide
  have l132 : (1 : Int32).toInt = 1 := by decide
  have l164 : (1 : Int64).toInt = 1 := by decide
  unfold F_X9_has
  refine ok_o (sp_X9_isForm p0 ) (fun r2 h1 => ?_)
  have h1 : (r2.toInt = 1 ∧ 0 ≤ p0.toInt ∧ p0.toInt ≤ 5) ∨ (r2.toInt = 0 ∧ (p0.toInt < 0 ∨ 6 ≤ p0.toInt)) := h1
  refine ok_eq (fun c2 => ?_) (fun c2 => ?_)
  · refine ok_o2 (sp_X9_isThrown_ (1 : Int32) ) (fun r20 c_t_thrown_20 h3 => ?_)
    have h3 : (r20.toInt = 0 ∧ c_t_thrown_20.toInt = 0 ∧ (1 : Int32).toInt = 0) ∨ (r20.toInt = 1 ∧ c_t_thrown_20.toInt = 1 ∧ (1 : Int32).toInt ≠ 0) := h3
    refine ok_eq (fun c4 => ?_) (fun c4 => ?_)
    · refine ok_c (ixo (by omega) (by omega)) ?_
      try have a6 := FA_at (f := f_t_forms) (by assumption) p0.toNatClampNeg
      refine ok_eqL (fun c5 => ?_) (fun c5 => ?_)
      · exact ok_s trivial
      · exact ok_s trivial
    · exact ok_s trivial
  · refine ok_o (sp_X9_isPlace p1 ) (fun r9 h7 => ?_)
    have h7 : (r9.toInt = 1 ∧ 0 ≤ p1.toInt ∧ p1.toInt ≤ 39) ∨ (r9.toInt = 0 ∧ (p1.toInt < 0 ∨ 40 ≤ p1.toInt)) := h7
    refine ok_eq (fun c8 => ?_) (fun c8 => ?_)
    · refine ok_o2 (sp_X9_isThrown_ (1 : Int32) ) (fun r20_2 c_t_thrown_20_2 h9 => ?_)
      have h9 : (r20_2.toInt = 0 ∧ c_t_thrown_20_2.toInt = 0 ∧ (1 : Int32).toInt = 0) ∨ (r20_2.toInt = 1 ∧ c_t_thrown_20_2.toInt = 1 ∧ (1 : Int32).toInt ≠ 0) := h9
      refine ok_eq (fun c10 => ?_) (fun c10 => ?_)
      · refine ok_c (ixo (by omega) (by omega)) ?_
        try have a12 := FA_at (f := f_t_forms) (by assumption) p0.toNatClampNeg
        refine ok_eqL (fun c11 => ?_) (fun c11 => ?_)
        · exact ok_s trivial
        · exact ok_s trivial
      · exact ok_s trivial
    · refine ok_o2 (sp_X9_isThrown_ (0 : Int32) ) (fun r20_3 c_t_thrown_20_3 h13 => ?_)
      have h13 : (r20_3.toInt = 0 ∧ c_t_thrown_20_3.toInt = 0 ∧ (0 : Int32).toInt = 0) ∨ (r20_3.toInt = 1 ∧ c_t_thrown_20_3.toInt = 1 ∧ (0 : Int32).toInt ≠ 0) := h13
      refine ok_eq (fun c14 => ?_) (fun c14 => ?_)
      · refine ok_c (ixo (by omega) (by omega)) ?_
        try have a16 := FA_at (f := f_t_forms) (by assumption) p0.toNatClampNeg
        refine ok_eqL (fun c15 => ?_) (fun c15 => ?_)
        · exact ok_s trivial
        · exact ok_s trivial
      · exact ok_s trivial
set_option maxHeartbeats 1000000 in
theorem sp_X9_ones (f_t_forms : Nat → Int64) (p0 : Int32) (hp0 : FA f_t_forms) : ok (F_X9_ones f_t_forms p0) (fun r => True) := by
  have l032 : (0 : Int32).toInt = 0 := by decide
  have l132 : (1 : Int32).toInt = 1 := by decide
  unfold F_X9_ones
  refine ok_o (sp_X9_isForm p0 ) (fun r2 h1 => ?_)
  have h1 : (r2.toInt = 1 ∧ 0 ≤ p0.toInt ∧ p0.toInt ≤ 5) ∨ (r2.toInt = 0 ∧ (p0.toInt < 0 ∨ 6 ≤ p0.toInt)) := h1
  refine ok_eq (fun c2 => ?_) (fun c2 => ?_)
  · refine ok_o2 (sp_X9_isThrown_ (1 : Int32) ) (fun r13 c_t_thrown_13 h3 => ?_)
    have h3 : (r13.toInt = 0 ∧ c_t_thrown_13.toInt = 0 ∧ (1 : Int32).toInt = 0) ∨ (r13.toInt = 1 ∧ c_t_thrown_13.toInt = 1 ∧ (1 : Int32).toInt ≠ 0) := h3
    refine ok_eq (fun c4 => ?_) (fun c4 => ?_)
    · refine ok_c (ixo (by omega) (by omega)) ?_
      try have a5 := FA_at (f := f_t_forms) (by assumption) p0.toNatClampNeg
      refine ok_o (sp_X9_onesOf (f_t_forms p0.toNatClampNeg) ) (fun r29 h6 => ?_)
      have h6 : 0 ≤ r29.toInt ∧ r29.toInt ≤ 127 := h6
      exact ok_s trivial
    · exact ok_s trivial
  · refine ok_o2 (sp_X9_isThrown_ (0 : Int32) ) (fun r13_2 c_t_thrown_13_2 h7 => ?_)
    have h7 : (r13_2.toInt = 0 ∧ c_t_thrown_13_2.toInt = 0 ∧ (0 : Int32).toInt = 0) ∨ (r13_2.toInt = 1 ∧ c_t_thrown_13_2.toInt = 1 ∧ (0 : Int32).toInt ≠ 0) := h7
    refine ok_eq (fun c8 => ?_) (fun c8 => ?_)
    · refine ok_c (ixo (by omega) (by omega)) ?_
      try have a9 := FA_at (f := f_t_forms) (by assumption) p0.toNatClampNeg
      refine ok_o (sp_X9_onesOf (f_t_forms p0.toNatClampNeg) ) (fun r29_2 h10 => ?_)
      have h10 : 0 ≤ r29_2.toInt ∧ r29_2.toInt ≤ 127 := h10
      exact ok_s trivial
    · exact ok_s trivial
set_option maxHeartbeats 1000000 in
theorem sp_X9_lowest (f_t_forms : Nat → Int64) (p0 : Int32) (hp0 : FA f_t_forms) : ok (F_X9_lowest f_t_forms p0) (fun r => True) := by
  have l032 : (0 : Int32).toInt = 0 := by decide
  have l132 : (1 : Int32).toInt = 1 := by decide
  unfold F_X9_lowest
  refine ok_o (sp_X9_isForm p0 ) (fun r2 h1 => ?_)
  have h1 : (r2.toInt = 1 ∧ 0 ≤ p0.toInt ∧ p0.toInt ≤ 5) ∨ (r2.toInt = 0 ∧ (p0.toInt < 0 ∨ 6 ≤ p0.toInt)) := h1
  refine ok_eq (fun c2 => ?_) (fun c2 => ?_)
  · refine ok_o2 (sp_X9_isThrown_ (1 : Int32) ) (fun r13 c_t_thrown_13 h3 => ?_)
    have h3 : (r13.toInt = 0 ∧ c_t_thrown_13.toInt = 0 ∧ (1 : Int32).toInt = 0) ∨ (r13.toInt = 1 ∧ c_t_thrown_13.toInt = 1 ∧ (1 : Int32).toInt ≠ 0) := h3
    refine ok_eq (fun c4 => ?_) (fun c4 => ?_)
    · refine ok_c (ixo (by omega) (by omega)) ?_
      try have a5 := FA_at (f := f_t_forms) (by assumption) p0.toNatClampNeg
      refine ok_o (sp_X9_lowestOf (f_t_forms p0.toNatClampNeg) ) (fun r29 h6 => ?_)
      exact ok_s trivial
    · exact ok_s trivial
  · refine ok_o2 (sp_X9_isThrown_ (0 : Int32) ) (fun r13_2 c_t_thrown_13_2 h7 => ?_)
    have h7 : (r13_2.toInt = 0 ∧ c_t_thrown_13_2.toInt = 0 ∧ (0 : Int32).toInt = 0) ∨ (r13_2.toInt = 1 ∧ c_t_thrown_13_2.toInt = 1 ∧ (0 : Int32).toInt ≠ 0) := h7
    refine ok_eq (fun c8 => ?_) (fun c8 => ?_)
    · refine ok_c (ixo (by omega) (by omega)) ?_
      try have a9 := FA_at (f := f_t_forms) (by assumption) p0.toNatClampNeg
      refine ok_o (sp_X9_lowestOf (f_t_forms p0.toNatClampNeg) ) (fun r29_2 h10 => ?_)
      exact ok_s trivial
    · exact ok_s trivial
set_option maxHeartbeats 1000000 in
theorem sp_X9_textOf (p0 : Int64) (hp0 : DG p0 ≤ 39) : ok (F_X9_textOf p0) (fun r => True) := by
  have lm132 : (-1 : Int32).toInt = -1 := by decide
  have l032 : (0 : Int32).toInt = 0 := by decide
  have l164 : (1 : Int64).toInt = 1 := by decide
  have l3932 : (39 : Int32).toInt = 39 := by decide
  unfold F_X9_textOf
  refine ok_o3 (sp_J4_init_da8c8  ) (fun c_n0_coder_4 n_n0_value_4 f_n0_value_4 h1 => ?_)
  have h1 : c_n0_coder_4 = 0 ∧ CAP n_n0_value_4 ∧ n_n0_value_4 = 16 ∧ BY f_n0_value_4 := h1
  obtain ⟨h1_0, h1_1, h1_2, h1_3⟩ := h1
  refine ok_L4 (fun y3_11 c_n0_count_11 n_n0_value_11 f_n0_value_11 => CAP n_n0_value_11 ∧ BY f_n0_value_11 ∧ -1 ≤ y3_11.toInt ∧ y3_11.toInt ≤ 39 ∧ 0 ≤ c_n0_count_11.toInt ∧ c_n0_count_11.toInt ≤ (n_n0_value_11 : Int) ∧ c_n0_count_11.toInt ≤ 3 * (39 - y3_11.toInt)) (fun y3_11 c_n0_count_11 n_n0_value_11 f_n0_value_11 => (y3_11.toInt + 1).toNat) (fun ih11 y3_11 c_n0_count_11 n_n0_value_11 f_n0_value_11 hI2 hih2 => ?_) 66 (39 : Int32) (0 : Int32) n_n0_value_4 f_n0_value_4 (show CAP n_n0_value_4 ∧ BY f_n0_value_4 ∧ -1 ≤ (39 : Int32).toInt ∧ (39 : Int32).toInt ≤ 39 ∧ 0 ≤ (0 : Int32).toInt ∧ (0 : Int32).toInt ≤ (n_n0_value_4 : Int) ∧ (0 : Int32).toInt ≤ 3 * (39 - (39 : Int32).toInt) from by first | omega | assumption | trivial | (refine ⟨?_, ?_⟩ <;> first | omega | assumption | trivial | rfl) | (refine ⟨?_, ?_, ?_⟩ <;> first | omega | assumption | trivial | rfl) | (refine ⟨?_, ?_, ?_, ?_⟩ <;> first | omega | assumption | trivial | rfl) | (refine ⟨?_, ?_, ?_, ?_, ?_⟩ <;> first | omega | assumption | trivial | rfl) | (refine ⟨?_, ?_, ?_, ?_, ?_, ?_⟩ <;> first | omega | assumption | trivial | rfl) | (refine ⟨?_, ?_, ?_, ?_, ?_, ?_, ?_⟩ <;> first | omega | assumption | trivial | rfl) | (refine ⟨?_, ?_, ?_, ?_, ?_, ?_, ?_, ?_⟩ <;> first | omega | assumption | trivial | rfl)) (show ((39 : Int32).toInt + 1).toNat < 66 from by omega)
  have hI2 : CAP n_n0_value_11 ∧ BY f_n0_value_11 ∧ -1 ≤ y3_11.toInt ∧ y3_11.toInt ≤ 39 ∧ 0 ≤ c_n0_count_11.toInt ∧ c_n0_count_11.toInt ≤ (n_n0_value_11 : Int) ∧ c_n0_count_11.toInt ≤ 3 * (39 - y3_11.toInt) := hI2
  obtain ⟨hI2_0, hI2_1, hI2_2, hI2_3, hI2_4, hI2_5, hI2_6⟩ := hI2
  unfold S_X9_textOf_11
  refine ok_lt (fun c3 => ?_) (fun c3 => ?_)
  · refine ok_o (sp_J4_toString_0e30d c_n0_coder_4 c_n0_count_11 n_n0_value_11 f_n0_value_11 (by first | omega | assumption | trivial | exact wt_of (by assumption) (by omega)) (by first | omega | assumption | trivial | exact wt_of (by assumption) (by omega)) (by first | omega | assumption | trivial | exact wt_of (by assumption) (by omega)) (by first | omega | assumption | trivial | exact wt_of (by assumption) (by omega)) (by first | omega | assumption | trivial | exact wt_of (by assumption) (by omega))) (fun u55 h4 => ?_)
    exact ok_s trivial
  · refine ok_eqL (fun c5 => ?_) (fun c5 => ?_)
    · refine ok_o (sp_J4_length_8abf5 c_n0_count_11 ) (fun r27 h6 => ?_)
      have h6 : r27 = c_n0_count_11 := h6
      refine ok_eq (fun c7 => ?_) (fun c7 => ?_)
      · refine ok_o3 (sp_J4_append_15ec4 c_n0_coder_4 c_n0_count_11 n_n0_value_11 f_n0_value_11 0 (by first | omega | assumption | trivial | exact wt_of (by assumption) (by omega)) (by first | omega | assumption | trivial | exact wt_of (by assumption) (by omega)) (by first | omega | assumption | trivial | exact wt_of (by assumption) (by omega)) (by first | omega | assumption | trivial | exact wt_of (by assumption) (by omega)) (by first | omega | assumption | trivial | exact wt_of (by assumption) (by omega)) (by first | omega | assumption | trivial | exact wt_of (by assumption) (by omega)) (by first | omega | assumption | trivial | exact wt_of (by assumption) (by omega))) (fun c_n0_count_40 n_n0_value_40 f_n0_value_40 h8 => ?_)
        have h8 : c_n0_count_11.toInt ≤ c_n0_count_40.toInt ∧ c_n0_count_40.toInt ≤ c_n0_count_11.toInt + 1 ∧ c_n0_count_40.toInt ≤ n_n0_value_40 ∧ CAP n_n0_value_40 ∧ BY f_n0_value_40 := h8
        obtain ⟨h8_0, h8_1, h8_2, h8_3, h8_4⟩ := h8
        refine ok_o3 (sp_J4_append_bf812 c_n0_coder_4 c_n0_count_40 n_n0_value_40 f_n0_value_40 y3_11 (by first | omega | assumption | trivial | exact wt_of (by assumption) (by omega)) (by first | omega | assumption | trivial | exact wt_of (by assumption) (by omega)) (by first | omega | assumption | trivial | exact wt_of (by assumption) (by omega)) (by first | omega | assumption | trivial | exact wt_of (by assumption) (by omega)) (by first | omega | assumption | trivial | exact wt_of (by assumption) (by omega)) (by first | omega | assumption | trivial | exact wt_of (by assumption) (by omega)) (by first | omega | assumption | trivial | exact wt_of (by assumption) (by omega)) (by first | omega | assumption | trivial | exact wt_of (by assumption) (by omega))) (fun c_n0_count_44 n_n0_value_44 f_n0_value_44 h9 => ?_)
        have h9 : c_n0_count_40.toInt + 1 ≤ c_n0_count_44.toInt ∧ c_n0_count_44.toInt ≤ c_n0_count_40.toInt + 2 ∧ c_n0_count_44.toInt ≤ n_n0_value_44 ∧ CAP n_n0_value_44 ∧ BY f_n0_value_44 := h9
        obtain ⟨h9_0, h9_1, h9_2, h9_3, h9_4⟩ := h9
        refine ok_bx (fun x3_48 e_x3_48 => ?_)
        try have t_x3_48 : x3_48.toInt = y3_11.toInt + (-1) := by rw [e_x3_48]; exact addT1 (show (-1 : Int32).toInt = -1 from by decide) (by omega) (by omega)
        exact hih2 x3_48 c_n0_count_44 n_n0_value_44 f_n0_value_44 (show CAP n_n0_value_44 ∧ BY f_n0_value_44 ∧ -1 ≤ x3_48.toInt ∧ x3_48.toInt ≤ 39 ∧ 0 ≤ c_n0_count_44.toInt ∧ c_n0_count_44.toInt ≤ (n_n0_value_44 : Int) ∧ c_n0_count_44.toInt ≤ 3 * (39 - x3_48.toInt) from by first | omega | assumption | trivial | (refine ⟨?_, ?_⟩ <;> first | omega | assumption | trivial | rfl) | (refine ⟨?_, ?_, ?_⟩ <;> first | omega | assumption | trivial | rfl) | (refine ⟨?_, ?_, ?_, ?_⟩ <;> first | omega | assumption | trivial | rfl) | (refine ⟨?_, ?_, ?_, ?_, ?_⟩ <;> first | omega | assumption | trivial | rfl) | (refine ⟨?_, ?_, ?_, ?_, ?_, ?_⟩ <;> first | omega | assumption | trivial | rfl) | (refine ⟨?_, ?_, ?_, ?_, ?_, ?_, ?_⟩ <;> first | omega | assumption | trivial | rfl) | (refine ⟨?_, ?_, ?_, ?_, ?_, ?_, ?_, ?_⟩ <;> first | omega | assumption | trivial | rfl)) (show (x3_48.toInt + 1).toNat < (y3_11.toInt + 1).toNat from by omega)
      · refine ok_o3 (sp_J4_append_15ec4 c_n0_coder_4 c_n0_count_11 n_n0_value_11 f_n0_value_11 1 (by first | omega | assumption | trivial | exact wt_of (by assumption) (by omega)) (by first | omega | assumption | trivial | exact wt_of (by assumption) (by omega)) (by first | omega | assumption | trivial | exact wt_of (by assumption) (by omega)) (by first | omega | assumption | trivial | exact wt_of (by assumption) (by omega)) (by first | omega | assumption | trivial | exact wt_of (by assumption) (by omega)) (by first | omega | assumption | trivial | exact wt_of (by assumption) (by omega)) (by first | omega | assumption | trivial | exact wt_of (by assumption) (by omega))) (fun c_n0_count_40_2 n_n0_value_40_2 f_n0_value_40_2 h10 => ?_)
        have h10 : c_n0_count_11.toInt ≤ c_n0_count_40_2.toInt ∧ c_n0_count_40_2.toInt ≤ c_n0_count_11.toInt + 1 ∧ c_n0_count_40_2.toInt ≤ n_n0_value_40_2 ∧ CAP n_n0_value_40_2 ∧ BY f_n0_value_40_2 := h10
        obtain ⟨h10_0, h10_1, h10_2, h10_3, h10_4⟩ := h10
        refine ok_o3 (sp_J4_append_bf812 c_n0_coder_4 c_n0_count_40_2 n_n0_value_40_2 f_n0_value_40_2 y3_11 (by first | omega | assumption | trivial | exact wt_of (by assumption) (by omega)) (by first | omega | assumption | trivial | exact wt_of (by assumption) (by omega)) (by first | omega | assumption | trivial | exact wt_of (by assumption) (by omega)) (by first | omega | assumption | trivial | exact wt_of (by assumption) (by omega)) (by first | omega | assumption | trivial | exact wt_of (by assumption) (by omega)) (by first | omega | assumption | trivial | exact wt_of (by assumption) (by omega)) (by first | omega | assumption | trivial | exact wt_of (by assumption) (by omega)) (by first | omega | assumption | trivial | exact wt_of (by assumption) (by omega))) (fun c_n0_count_44_2 n_n0_value_44_2 f_n0_value_44_2 h11 => ?_)
        have h11 : c_n0_count_40_2.toInt + 1 ≤ c_n0_count_44_2.toInt ∧ c_n0_count_44_2.toInt ≤ c_n0_count_40_2.toInt + 2 ∧ c_n0_count_44_2.toInt ≤ n_n0_value_44_2 ∧ CAP n_n0_value_44_2 ∧ BY f_n0_value_44_2 := h11
        obtain ⟨h11_0, h11_1, h11_2, h11_3, h11_4⟩ := h11
        refine ok_bx (fun x3_48_2 e_x3_48_2 => ?_)
        try have t_x3_48_2 : x3_48_2.toInt = y3_11.toInt + (-1) := by rw [e_x3_48_2]; exact addT1 (show (-1 : Int32).toInt = -1 from by decide) (by omega) (by omega)
        exact hih2 x3_48_2 c_n0_count_44_2 n_n0_value_44_2 f_n0_value_44_2 (show CAP n_n0_value_44_2 ∧ BY f_n0_value_44_2 ∧ -1 ≤ x3_48_2.toInt ∧ x3_48_2.toInt ≤ 39 ∧ 0 ≤ c_n0_count_44_2.toInt ∧ c_n0_count_44_2.toInt ≤ (n_n0_value_44_2 : Int) ∧ c_n0_count_44_2.toInt ≤ 3 * (39 - x3_48_2.toInt) from by first | omega | assumption | trivial | (refine ⟨?_, ?_⟩ <;> first | omega | assumption | trivial | rfl) | (refine ⟨?_, ?_, ?_⟩ <;> first | omega | assumption | trivial | rfl) | (refine ⟨?_, ?_, ?_, ?_⟩ <;> first | omega | assumption | trivial | rfl) | (refine ⟨?_, ?_, ?_, ?_, ?_⟩ <;> first | omega | assumption | trivial | rfl) | (refine ⟨?_, ?_, ?_, ?_, ?_, ?_⟩ <;> first | omega | assumption | trivial | rfl) | (refine ⟨?_, ?_, ?_, ?_, ?_, ?_, ?_⟩ <;> first | omega | assumption | trivial | rfl) | (refine ⟨?_, ?_, ?_, ?_, ?_, ?_, ?_, ?_⟩ <;> first | omega | assumption | trivial | rfl)) (show (x3_48_2.toInt + 1).toNat < (y3_11.toInt + 1).toNat from by omega)
    · refine ok_bx (fun x3_48_3 e_x3_48_3 => ?_)
      try have t_x3_48_3 : x3_48_3.toInt = y3_11.toInt + (-1) := by rw [e_x3_48_3]; exact addT1 (show (-1 : Int32).toInt = -1 from by decide) (by omega) (by omega)
      exact hih2 x3_48_3 c_n0_count_11 n_n0_value_11 f_n0_value_11 (show CAP n_n0_value_11 ∧ BY f_n0_value_11 ∧ -1 ≤ x3_48_3.toInt ∧ x3_48_3.toInt ≤ 39 ∧ 0 ≤ c_n0_count_11.toInt ∧ c_n0_count_11.toInt ≤ (n_n0_value_11 : Int) ∧ c_n0_count_11.toInt ≤ 3 * (39 - x3_48_3.toInt) from by first | omega | assumption | trivial | (refine ⟨?_, ?_⟩ <;> first | omega | assumption | trivial | rfl) | (refine ⟨?_, ?_, ?_⟩ <;> first | omega | assumption | trivial | rfl) | (refine ⟨?_, ?_, ?_, ?_⟩ <;> first | omega | assumption | trivial | rfl) | (refine ⟨?_, ?_, ?_, ?_, ?_⟩ <;> first | omega | assumption | trivial | rfl) | (refine ⟨?_, ?_, ?_, ?_, ?_, ?_⟩ <;> first | omega | assumption | trivial | rfl) | (refine ⟨?_, ?_, ?_, ?_, ?_, ?_, ?_⟩ <;> first | omega | assumption | trivial | rfl) | (refine ⟨?_, ?_, ?_, ?_, ?_, ?_, ?_, ?_⟩ <;> first | omega | assumption | trivial | rfl)) (show (x3_48_3.toInt + 1).toNat < (y3_11.toInt + 1).toNat from by omega)
set_option maxHeartbeats 1000000 in
theorem sp_X9_text (f_t_forms : Nat → Int64) (p0 : Int32) (hp0 : FA f_t_forms) : ok (F_X9_text f_t_forms p0) (fun r => True) := by
  have l032 : (0 : Int32).toInt = 0 := by decide
  have l132 : (1 : Int32).toInt = 1 := by decide
  unfold F_X9_text
  refine ok_o (sp_X9_isForm p0 ) (fun r2 h1 => ?_)
  have h1 : (r2.toInt = 1 ∧ 0 ≤ p0.toInt ∧ p0.toInt ≤ 5) ∨ (r2.toInt = 0 ∧ (p0.toInt < 0 ∨ 6 ≤ p0.toInt)) := h1
  refine ok_eq (fun c2 => ?_) (fun c2 => ?_)
  · refine ok_o2 (sp_X9_isThrown_ (1 : Int32) ) (fun r13 c_t_thrown_13 h3 => ?_)
    have h3 : (r13.toInt = 0 ∧ c_t_thrown_13.toInt = 0 ∧ (1 : Int32).toInt = 0) ∨ (r13.toInt = 1 ∧ c_t_thrown_13.toInt = 1 ∧ (1 : Int32).toInt ≠ 0) := h3
    refine ok_eq (fun c4 => ?_) (fun c4 => ?_)
    · refine ok_c (ixo (by omega) (by omega)) ?_
      try have a5 := FA_at (f := f_t_forms) (by assumption) p0.toNatClampNeg
      refine ok_o (sp_X9_textOf (f_t_forms p0.toNatClampNeg) (by first | omega | assumption | trivial | exact wt_of (by assumption) (by omega))) (fun u30 h6 => ?_)
      exact ok_s trivial
    · exact ok_s trivial
  · refine ok_o2 (sp_X9_isThrown_ (0 : Int32) ) (fun r13_2 c_t_thrown_13_2 h7 => ?_)
    have h7 : (r13_2.toInt = 0 ∧ c_t_thrown_13_2.toInt = 0 ∧ (0 : Int32).toInt = 0) ∨ (r13_2.toInt = 1 ∧ c_t_thrown_13_2.toInt = 1 ∧ (0 : Int32).toInt ≠ 0) := h7
    refine ok_eq (fun c8 => ?_) (fun c8 => ?_)
    · refine ok_c (ixo (by omega) (by omega)) ?_
      try have a9 := FA_at (f := f_t_forms) (by assumption) p0.toNatClampNeg
      refine ok_o (sp_X9_textOf (f_t_forms p0.toNatClampNeg) (by first | omega | assumption | trivial | exact wt_of (by assumption) (by omega))) (fun u30_2 h10 => ?_)
      exact ok_s trivial
    · exact ok_s trivial
set_option maxHeartbeats 1000000 in
theorem sp_X9_order (f_t_forms : Nat → Int64) (p0 : Int32) (p1 : Int32) (hp0 : FA f_t_forms) : ok (F_X9_order f_t_forms p0 p1) (fun r => True) := by
  have lm132 : (-1 : Int32).toInt = -1 := by decide
  have l032 : (0 : Int32).toInt = 0 := by decide
  have l132 : (1 : Int32).toInt = 1 := by decide
  unfold F_X9_order
  refine ok_o (sp_X9_isForm p0 ) (fun r2 h1 => ?_)
  have h1 : (r2.toInt = 1 ∧ 0 ≤ p0.toInt ∧ p0.toInt ≤ 5) ∨ (r2.toInt = 0 ∧ (p0.toInt < 0 ∨ 6 ≤ p0.toInt)) := h1
  refine ok_eq (fun c2 => ?_) (fun c2 => ?_)
  · refine ok_o2 (sp_X9_isThrown_ (1 : Int32) ) (fun r20 c_t_thrown_20 h3 => ?_)
    have h3 : (r20.toInt = 0 ∧ c_t_thrown_20.toInt = 0 ∧ (1 : Int32).toInt = 0) ∨ (r20.toInt = 1 ∧ c_t_thrown_20.toInt = 1 ∧ (1 : Int32).toInt ≠ 0) := h3
    refine ok_eq (fun c4 => ?_) (fun c4 => ?_)
    · refine ok_c (ixo (by omega) (by omega)) ?_
      refine ok_c (ixo (by omega) (by omega)) ?_
      try have a6 := FA_at (f := f_t_forms) (by assumption) p1.toNatClampNeg
      try have a7 := FA_at (f := f_t_forms) (by assumption) p0.toNatClampNeg
      refine ok_leL (fun c5 => ?_) (fun c5 => ?_)
      · refine ok_c (ixo (by omega) (by omega)) ?_
        refine ok_c (ixo (by omega) (by omega)) ?_
        try have a9 := FA_at (f := f_t_forms) (by assumption) p0.toNatClampNeg
        try have a10 := FA_at (f := f_t_forms) (by assumption) p1.toNatClampNeg
        refine ok_leL (fun c8 => ?_) (fun c8 => ?_)
        · exact ok_s trivial
        · exact ok_s trivial
      · exact ok_s trivial
    · exact ok_s trivial
  · refine ok_o (sp_X9_isForm p1 ) (fun r9 h11 => ?_)
    have h11 : (r9.toInt = 1 ∧ 0 ≤ p1.toInt ∧ p1.toInt ≤ 5) ∨ (r9.toInt = 0 ∧ (p1.toInt < 0 ∨ 6 ≤ p1.toInt)) := h11
    refine ok_eq (fun c12 => ?_) (fun c12 => ?_)
    · refine ok_o2 (sp_X9_isThrown_ (1 : Int32) ) (fun r20_2 c_t_thrown_20_2 h13 => ?_)
      have h13 : (r20_2.toInt = 0 ∧ c_t_thrown_20_2.toInt = 0 ∧ (1 : Int32).toInt = 0) ∨ (r20_2.toInt = 1 ∧ c_t_thrown_20_2.toInt = 1 ∧ (1 : Int32).toInt ≠ 0) := h13
      refine ok_eq (fun c14 => ?_) (fun c14 => ?_)
      · refine ok_c (ixo (by omega) (by omega)) ?_
        refine ok_c (ixo (by omega) (by omega)) ?_
        try have a16 := FA_at (f := f_t_forms) (by assumption) p1.toNatClampNeg
        try have a17 := FA_at (f := f_t_forms) (by assumption) p0.toNatClampNeg
        refine ok_leL (fun c15 => ?_) (fun c15 => ?_)
        · refine ok_c (ixo (by omega) (by omega)) ?_
          refine ok_c (ixo (by omega) (by omega)) ?_
          try have a19 := FA_at (f := f_t_forms) (by assumption) p0.toNatClampNeg
          try have a20 := FA_at (f := f_t_forms) (by assumption) p1.toNatClampNeg
          refine ok_leL (fun c18 => ?_) (fun c18 => ?_)
          · exact ok_s trivial
          · exact ok_s trivial
        · exact ok_s trivial
      · exact ok_s trivial
    · refine ok_o2 (sp_X9_isThrown_ (0 : Int32) ) (fun r20_3 c_t_thrown_20_3 h21 => ?_)
      have h21 : (r20_3.toInt = 0 ∧ c_t_thrown_20_3.toInt = 0 ∧ (0 : Int32).toInt = 0) ∨ (r20_3.toInt = 1 ∧ c_t_thrown_20_3.toInt = 1 ∧ (0 : Int32).toInt ≠ 0) := h21
      refine ok_eq (fun c22 => ?_) (fun c22 => ?_)
      · refine ok_c (ixo (by omega) (by omega)) ?_
        refine ok_c (ixo (by omega) (by omega)) ?_
        try have a24 := FA_at (f := f_t_forms) (by assumption) p1.toNatClampNeg
        try have a25 := FA_at (f := f_t_forms) (by assumption) p0.toNatClampNeg
        refine ok_leL (fun c23 => ?_) (fun c23 => ?_)
        · refine ok_c (ixo (by omega) (by omega)) ?_
          refine ok_c (ixo (by omega) (by omega)) ?_
          try have a27 := FA_at (f := f_t_forms) (by assumption) p0.toNatClampNeg
          try have a28 := FA_at (f := f_t_forms) (by assumption) p1.toNatClampNeg
          refine ok_leL (fun c26 => ?_) (fun c26 => ?_)
          · exact ok_s trivial
          · exact ok_s trivial
        · exact ok_s trivial
      · exact ok_s trivial
set_option maxHeartbeats 1000000 in
theorem sp_X9_divides (f_t_forms : Nat → Int64) (p0 : Int32) (p1 : Int32) (hp0 : FA f_t_forms) : ok (F_X9_divides f_t_forms p0 p1) (fun r => True) := by
  have l032 : (0 : Int32).toInt = 0 := by decide
  have l132 : (1 : Int32).toInt = 1 := by decide
  unfold F_X9_divides
  refine ok_o (sp_X9_isForm p0 ) (fun r2 h1 => ?_)
  have h1 : (r2.toInt = 1 ∧ 0 ≤ p0.toInt ∧ p0.toInt ≤ 5) ∨ (r2.toInt = 0 ∧ (p0.toInt < 0 ∨ 6 ≤ p0.toInt)) := h1
  refine ok_eq (fun c2 => ?_) (fun c2 => ?_)
  · refine ok_o2 (sp_X9_isThrown_ (1 : Int32) ) (fun r20 c_t_thrown_20 h3 => ?_)
    have h3 : (r20.toInt = 0 ∧ c_t_thrown_20.toInt = 0 ∧ (1 : Int32).toInt = 0) ∨ (r20.toInt = 1 ∧ c_t_thrown_20.toInt = 1 ∧ (1 : Int32).toInt ≠ 0) := h3
    refine ok_eq (fun c4 => ?_) (fun c4 => ?_)
    · refine ok_c (ixo (by omega) (by omega)) ?_
      refine ok_c (ixo (by omega) (by omega)) ?_
      try have a5 := FA_at (f := f_t_forms) (by assumption) p1.toNatClampNeg
      try have a6 := FA_at (f := f_t_forms) (by assumption) p0.toNatClampNeg
      refine ok_o (sp_X9_isDivided (f_t_forms p1.toNatClampNeg) (f_t_forms p0.toNatClampNeg) (by first | omega | assumption | trivial | exact wt_of (by assumption) (by omega)) (by first | omega | assumption | trivial | exact wt_of (by assumption) (by omega))) (fun r38 h7 => ?_)
      have h7 : r38.toInt = 0 ∨ r38.toInt = 1 := h7
      refine ok_eq (fun c8 => ?_) (fun c8 => ?_)
      · exact ok_s trivial
      · exact ok_s trivial
    · exact ok_s trivial
  · refine ok_o (sp_X9_isForm p1 ) (fun r9 h9 => ?_)
    have h9 : (r9.toInt = 1 ∧ 0 ≤ p1.toInt ∧ p1.toInt ≤ 5) ∨ (r9.toInt = 0 ∧ (p1.toInt < 0 ∨ 6 ≤ p1.toInt)) := h9
    refine ok_eq (fun c10 => ?_) (fun c10 => ?_)
    · refine ok_o2 (sp_X9_isThrown_ (1 : Int32) ) (fun r20_2 c_t_thrown_20_2 h11 => ?_)
      have h11 : (r20_2.toInt = 0 ∧ c_t_thrown_20_2.toInt = 0 ∧ (1 : Int32).toInt = 0) ∨ (r20_2.toInt = 1 ∧ c_t_thrown_20_2.toInt = 1 ∧ (1 : Int32).toInt ≠ 0) := h11
      refine ok_eq (fun c12 => ?_) (fun c12 => ?_)
      · refine ok_c (ixo (by omega) (by omega)) ?_
        refine ok_c (ixo (by omega) (by omega)) ?_
        try have a13 := FA_at (f := f_t_forms) (by assumption) p1.toNatClampNeg
        try have a14 := FA_at (f := f_t_forms) (by assumption) p0.toNatClampNeg
        refine ok_o (sp_X9_isDivided (f_t_forms p1.toNatClampNeg) (f_t_forms p0.toNatClampNeg) (by first | omega | assumption | trivial | exact wt_of (by assumption) (by omega)) (by first | omega | assumption | trivial | exact wt_of (by assumption) (by omega))) (fun r38_2 h15 => ?_)
        have h15 : r38_2.toInt = 0 ∨ r38_2.toInt = 1 := h15
        refine ok_eq (fun c16 => ?_) (fun c16 => ?_)
        · exact ok_s trivial
        · exact ok_s trivial
      · exact ok_s trivial
    · refine ok_o2 (sp_X9_isThrown_ (0 : Int32) ) (fun r20_3 c_t_thrown_20_3 h17 => ?_)
      have h17 : (r20_3.toInt = 0 ∧ c_t_thrown_20_3.toInt = 0 ∧ (0 : Int32).toInt = 0) ∨ (r20_3.toInt = 1 ∧ c_t_thrown_20_3.toInt = 1 ∧ (0 : Int32).toInt ≠ 0) := h17
      refine ok_eq (fun c18 => ?_) (fun c18 => ?_)
      · refine ok_c (ixo (by omega) (by omega)) ?_
        refine ok_c (ixo (by omega) (by omega)) ?_
        try have a19 := FA_at (f := f_t_forms) (by assumption) p1.toNatClampNeg
        try have a20 := FA_at (f := f_t_forms) (by assumption) p0.toNatClampNeg
        refine ok_o (sp_X9_isDivided (f_t_forms p1.toNatClampNeg) (f_t_forms p0.toNatClampNeg) (by first | omega | assumption | trivial | exact wt_of (by assumption) (by omega)) (by first | omega | assumption | trivial | exact wt_of (by assumption) (by omega))) (fun r38_3 h21 => ?_)
        have h21 : r38_3.toInt = 0 ∨ r38_3.toInt = 1 := h21
        refine ok_eq (fun c22 => ?_) (fun c22 => ?_)
        · exact ok_s trivial
        · exact ok_s trivial
      · exact ok_s trivial
set_option maxHeartbeats 1000000 in
theorem sp_X9_check (c_t_thrown : Int32) (f_t_forms : Nat → Int64) (p0 : Int32) (p1 : Int32) (hp0 : FA f_t_forms) : ok (F_X9_check c_t_thrown f_t_forms p0 p1) (fun r => True) := by
  have lm932 : (-9 : Int32).toInt = -9 := by decide
  have l032 : (0 : Int32).toInt = 0 := by decide
  have l132 : (1 : Int32).toInt = 1 := by decide
  have l3132 : (31 : Int32).toInt = 31 := by decide
  unfold F_X9_check
  refine ok_o (sp_X9_isForm p0 ) (fun r2 h1 => ?_)
  have h1 : (r2.toInt = 1 ∧ 0 ≤ p0.toInt ∧ p0.toInt ≤ 5) ∨ (r2.toInt = 0 ∧ (p0.toInt < 0 ∨ 6 ≤ p0.toInt)) := h1
  refine ok_eq (fun c2 => ?_) (fun c2 => ?_)
  · first | unfold J_X9_check_15 | skip
    first | unfold J_X9_check_20 | skip
    refine ok_o2 (sp_X9_isThrown_ (1 : Int32) ) (fun r20 c_t_thrown_20 h3 => ?_)
    have h3 : (r20.toInt = 0 ∧ c_t_thrown_20.toInt = 0 ∧ (1 : Int32).toInt = 0) ∨ (r20.toInt = 1 ∧ c_t_thrown_20.toInt = 1 ∧ (1 : Int32).toInt ≠ 0) := h3
    refine ok_eq (fun c4 => ?_) (fun c4 => ?_)
    · refine ok_c (ixo (by omega) (by omega)) ?_
      refine ok_c (ixo (by omega) (by omega)) ?_
      try have a5 := FA_at (f := f_t_forms) (by assumption) p0.toNatClampNeg
      try have a6 := FA_at (f := f_t_forms) (by assumption) p1.toNatClampNeg
      refine ok_o (sp_X9_isNoSeal (f_t_forms p0.toNatClampNeg) (f_t_forms p1.toNatClampNeg) (31 : Int32) (by first | omega | assumption | trivial | exact wt_of (by assumption) (by omega)) (by first | omega | assumption | trivial | exact wt_of (by assumption) (by omega))) (fun r42 h7 => ?_)
      have h7 : (r42.toInt = 0 ∧ 1 ≤ DG (f_t_forms p1.toNatClampNeg) ∧ DG (f_t_forms p1.toNatClampNeg) ≤ (31 : Int32).toInt ∧ DG (f_t_forms p0.toNatClampNeg) + DG (f_t_forms p1.toNatClampNeg) ≤ 39) ∨ r42.toInt = 1 := h7
      refine ok_eq (fun c8 => ?_) (fun c8 => ?_)
      · refine ok_c (ixo (by omega) (by omega)) ?_
        refine ok_c (ixo (by omega) (by omega)) ?_
        try have a9 := FA_at (f := f_t_forms) (by assumption) p0.toNatClampNeg
        try have a10 := FA_at (f := f_t_forms) (by assumption) p1.toNatClampNeg
        refine ok_o (sp_X9_checkOf (f_t_forms p0.toNatClampNeg) (f_t_forms p1.toNatClampNeg) (by first | omega | assumption | trivial | exact wt_of (by assumption) (by omega)) (by first | omega | assumption | trivial | exact wt_of (by assumption) (by omega)) (by first | omega | assumption | trivial | exact wt_of (by assumption) (by omega))) (fun r65 h11 => ?_)
        have h11 : DG r65 ≤ 39 ∧ -1 ≤ DG r65 ∧ DG r65 < DG (f_t_forms p1.toNatClampNeg) := h11
        exact ok_s trivial
      · exact ok_s trivial
    · exact ok_s trivial
  · refine ok_o (sp_X9_isForm p1 ) (fun r9 h12 => ?_)
    have h12 : (r9.toInt = 1 ∧ 0 ≤ p1.toInt ∧ p1.toInt ≤ 5) ∨ (r9.toInt = 0 ∧ (p1.toInt < 0 ∨ 6 ≤ p1.toInt)) := h12
    refine ok_eq (fun c13 => ?_) (fun c13 => ?_)
    · first | unfold J_X9_check_15 | skip
      first | unfold J_X9_check_20 | skip
      refine ok_o2 (sp_X9_isThrown_ (1 : Int32) ) (fun r20_2 c_t_thrown_20_2 h14 => ?_)
      have h14 : (r20_2.toInt = 0 ∧ c_t_thrown_20_2.toInt = 0 ∧ (1 : Int32).toInt = 0) ∨ (r20_2.toInt = 1 ∧ c_t_thrown_20_2.toInt = 1 ∧ (1 : Int32).toInt ≠ 0) := h14
      refine ok_eq (fun c15 => ?_) (fun c15 => ?_)
      · refine ok_c (ixo (by omega) (by omega)) ?_
        refine ok_c (ixo (by omega) (by omega)) ?_
        try have a16 := FA_at (f := f_t_forms) (by assumption) p0.toNatClampNeg
        try have a17 := FA_at (f := f_t_forms) (by assumption) p1.toNatClampNeg
        refine ok_o (sp_X9_isNoSeal (f_t_forms p0.toNatClampNeg) (f_t_forms p1.toNatClampNeg) (31 : Int32) (by first | omega | assumption | trivial | exact wt_of (by assumption) (by omega)) (by first | omega | assumption | trivial | exact wt_of (by assumption) (by omega))) (fun r42_2 h18 => ?_)
        have h18 : (r42_2.toInt = 0 ∧ 1 ≤ DG (f_t_forms p1.toNatClampNeg) ∧ DG (f_t_forms p1.toNatClampNeg) ≤ (31 : Int32).toInt ∧ DG (f_t_forms p0.toNatClampNeg) + DG (f_t_forms p1.toNatClampNeg) ≤ 39) ∨ r42_2.toInt = 1 := h18
        refine ok_eq (fun c19 => ?_) (fun c19 => ?_)
        · refine ok_c (ixo (by omega) (by omega)) ?_
          refine ok_c (ixo (by omega) (by omega)) ?_
          try have a20 := FA_at (f := f_t_forms) (by assumption) p0.toNatClampNeg
          try have a21 := FA_at (f := f_t_forms) (by assumption) p1.toNatClampNeg
          refine ok_o (sp_X9_checkOf (f_t_forms p0.toNatClampNeg) (f_t_forms p1.toNatClampNeg) (by first | omega | assumption | trivial | exact wt_of (by assumption) (by omega)) (by first | omega | assumption | trivial | exact wt_of (by assumption) (by omega)) (by first | omega | assumption | trivial | exact wt_of (by assumption) (by omega))) (fun r65_2 h22 => ?_)
          have h22 : DG r65_2 ≤ 39 ∧ -1 ≤ DG r65_2 ∧ DG r65_2 < DG (f_t_forms p1.toNatClampNeg) := h22
          exact ok_s trivial
        · exact ok_s trivial
      · exact ok_s trivial
    · first | unfold J_X9_check_20 | skip
      refine ok_o2 (sp_X9_isThrown_ (0 : Int32) ) (fun r20_3 c_t_thrown_20_3 h23 => ?_)
      have h23 : (r20_3.toInt = 0 ∧ c_t_thrown_20_3.toInt = 0 ∧ (0 : Int32).toInt = 0) ∨ (r20_3.toInt = 1 ∧ c_t_thrown_20_3.toInt = 1 ∧ (0 : Int32).toInt ≠ 0) := h23
      refine ok_eq (fun c24 => ?_) (fun c24 => ?_)
      · refine ok_c (ixo (by omega) (by omega)) ?_
        refine ok_c (ixo (by omega) (by omega)) ?_
        try have a25 := FA_at (f := f_t_forms) (by assumption) p0.toNatClampNeg
        try have a26 := FA_at (f := f_t_forms) (by assumption) p1.toNatClampNeg
        refine ok_o (sp_X9_isNoSeal (f_t_forms p0.toNatClampNeg) (f_t_forms p1.toNatClampNeg) (31 : Int32) (by first | omega | assumption | trivial | exact wt_of (by assumption) (by omega)) (by first | omega | assumption | trivial | exact wt_of (by assumption) (by omega))) (fun r42_3 h27 => ?_)
        have h27 : (r42_3.toInt = 0 ∧ 1 ≤ DG (f_t_forms p1.toNatClampNeg) ∧ DG (f_t_forms p1.toNatClampNeg) ≤ (31 : Int32).toInt ∧ DG (f_t_forms p0.toNatClampNeg) + DG (f_t_forms p1.toNatClampNeg) ≤ 39) ∨ r42_3.toInt = 1 := h27
        refine ok_eq (fun c28 => ?_) (fun c28 => ?_)
        · refine ok_c (ixo (by omega) (by omega)) ?_
          refine ok_c (ixo (by omega) (by omega)) ?_
          try have a29 := FA_at (f := f_t_forms) (by assumption) p0.toNatClampNeg
          try have a30 := FA_at (f := f_t_forms) (by assumption) p1.toNatClampNeg
          refine ok_o (sp_X9_checkOf (f_t_forms p0.toNatClampNeg) (f_t_forms p1.toNatClampNeg) (by first | omega | assumption | trivial | exact wt_of (by assumption) (by omega)) (by first | omega | assumption | trivial | exact wt_of (by assumption) (by omega)) (by first | omega | assumption | trivial | exact wt_of (by assumption) (by omega))) (fun r65_3 h31 => ?_)
          have h31 : DG r65_3 ≤ 39 ∧ -1 ≤ DG r65_3 ∧ DG r65_3 < DG (f_t_forms p1.toNatClampNeg) := h31
          exact ok_s trivial
        · exact ok_s trivial
      · exact ok_s trivial
set_option maxHeartbeats 1000000 in
theorem sp_X9_isPrime (c_t_thrown : Int32) (f_t_forms : Nat → Int64) (p0 : Int32) (p1 : Int32) (hp0 : FA f_t_forms) : ok (F_X9_isPrime c_t_thrown f_t_forms p0 p1) (fun r => True) := by
  have lm932 : (-9 : Int32).toInt = -9 := by decide
  have l032 : (0 : Int32).toInt = 0 := by decide
  have l132 : (1 : Int32).toInt = 1 := by decide
  have l1032 : (10 : Int32).toInt = 10 := by decide
  unfold F_X9_isPrime
  refine ok_o (sp_X9_isForm p0 ) (fun r2 h1 => ?_)
  have h1 : (r2.toInt = 1 ∧ 0 ≤ p0.toInt ∧ p0.toInt ≤ 5) ∨ (r2.toInt = 0 ∧ (p0.toInt < 0 ∨ 6 ≤ p0.toInt)) := h1
  refine ok_eq (fun c2 => ?_) (fun c2 => ?_)
  · first | unfold J_X9_isPrime_13 | skip
    refine ok_lt (fun c3 => ?_) (fun c3 => ?_)
    · first | unfold J_X9_isPrime_22 | skip
      first | unfold J_X9_isPrime_27 | skip
      refine ok_o2 (sp_X9_isThrown (1 : Int32) (1 : Int32) ) (fun r27 c_t_thrown_27 h4 => ?_)
      have h4 : (r27.toInt = 0 ∧ c_t_thrown_27.toInt = 0 ∧ (1 : Int32).toInt = 0 ∧ (1 : Int32).toInt = 0) ∨ (r27.toInt = 1 ∧ c_t_thrown_27.toInt = 1 ∧ (1 : Int32).toInt ≠ 0) ∨ (r27.toInt = 1 ∧ c_t_thrown_27.toInt = 2 ∧ (1 : Int32).toInt = 0 ∧ (1 : Int32).toInt ≠ 0) := h4
      refine ok_eq (fun c5 => ?_) (fun c5 => ?_)
      · refine ok_c (ixo (by omega) (by omega)) ?_
        try have a6 := FA_at (f := f_t_forms) (by assumption) p0.toNatClampNeg
        refine ok_o (sp_X9_degreeOf (f_t_forms p0.toNatClampNeg) ) (fun r41 h7 => ?_)
        have h7 : r41.toInt = DG (f_t_forms p0.toNatClampNeg) ∧ -1 ≤ r41.toInt ∧ r41.toInt ≤ 63 := h7
        refine ok_le (fun c8 => ?_) (fun c8 => ?_)
        · refine ok_c (ixo (by omega) (by omega)) ?_
          try have a9 := FA_at (f := f_t_forms) (by assumption) p0.toNatClampNeg
          refine ok_o (sp_X9_isPrimeNow (f_t_forms p0.toNatClampNeg) (by first | omega | assumption | trivial | exact wt_of (by assumption) (by omega))) (fun r60 h10 => ?_)
          have h10 : r60.toInt = 0 ∨ r60.toInt = 1 := h10
          refine ok_eq (fun c11 => ?_) (fun c11 => ?_)
          · exact ok_s trivial
          · exact ok_s trivial
        · exact ok_s trivial
      · exact ok_s trivial
    · refine ok_le (fun c12 => ?_) (fun c12 => ?_)
      · first | unfold J_X9_isPrime_27 | skip
        refine ok_o2 (sp_X9_isThrown (1 : Int32) (0 : Int32) ) (fun r27_2 c_t_thrown_27_2 h13 => ?_)
        have h13 : (r27_2.toInt = 0 ∧ c_t_thrown_27_2.toInt = 0 ∧ (1 : Int32).toInt = 0 ∧ (0 : Int32).toInt = 0) ∨ (r27_2.toInt = 1 ∧ c_t_thrown_27_2.toInt = 1 ∧ (1 : Int32).toInt ≠ 0) ∨ (r27_2.toInt = 1 ∧ c_t_thrown_27_2.toInt = 2 ∧ (1 : Int32).toInt = 0 ∧ (0 : Int32).toInt ≠ 0) := h13
        refine ok_eq (fun c14 => ?_) (fun c14 => ?_)
        · refine ok_c (ixo (by omega) (by omega)) ?_
          try have a15 := FA_at (f := f_t_forms) (by assumption) p0.toNatClampNeg
          refine ok_o (sp_X9_degreeOf (f_t_forms p0.toNatClampNeg) ) (fun r41_2 h16 => ?_)
          have h16 : r41_2.toInt = DG (f_t_forms p0.toNatClampNeg) ∧ -1 ≤ r41_2.toInt ∧ r41_2.toInt ≤ 63 := h16
          refine ok_le (fun c17 => ?_) (fun c17 => ?_)
          · refine ok_c (ixo (by omega) (by omega)) ?_
            try have a18 := FA_at (f := f_t_forms) (by assumption) p0.toNatClampNeg
            refine ok_o (sp_X9_isPrimeNow (f_t_forms p0.toNatClampNeg) (by first | omega | assumption | trivial | exact wt_of (by assumption) (by omega))) (fun r60_2 h19 => ?_)
            have h19 : r60_2.toInt = 0 ∨ r60_2.toInt = 1 := h19
            refine ok_eq (fun c20 => ?_) (fun c20 => ?_)
            · exact ok_s trivial
            · exact ok_s trivial
          · exact ok_s trivial
        · exact ok_s trivial
      · first | unfold J_X9_isPrime_22 | skip
        first | unfold J_X9_isPrime_27 | skip
        refine ok_o2 (sp_X9_isThrown (1 : Int32) (1 : Int32) ) (fun r27_3 c_t_thrown_27_3 h21 => ?_)
        have h21 : (r27_3.toInt = 0 ∧ c_t_thrown_27_3.toInt = 0 ∧ (1 : Int32).toInt = 0 ∧ (1 : Int32).toInt = 0) ∨ (r27_3.toInt = 1 ∧ c_t_thrown_27_3.toInt = 1 ∧ (1 : Int32).toInt ≠ 0) ∨ (r27_3.toInt = 1 ∧ c_t_thrown_27_3.toInt = 2 ∧ (1 : Int32).toInt = 0 ∧ (1 : Int32).toInt ≠ 0) := h21
        refine ok_eq (fun c22 => ?_) (fun c22 => ?_)
        · refine ok_c (ixo (by omega) (by omega)) ?_
          try have a23 := FA_at (f := f_t_forms) (by assumption) p0.toNatClampNeg
          refine ok_o (sp_X9_degreeOf (f_t_forms p0.toNatClampNeg) ) (fun r41_3 h24 => ?_)
          have h24 : r41_3.toInt = DG (f_t_forms p0.toNatClampNeg) ∧ -1 ≤ r41_3.toInt ∧ r41_3.toInt ≤ 63 := h24
          refine ok_le (fun c25 => ?_) (fun c25 => ?_)
          · refine ok_c (ixo (by omega) (by omega)) ?_
            try have a26 := FA_at (f := f_t_forms) (by assumption) p0.toNatClampNeg
            refine ok_o (sp_X9_isPrimeNow (f_t_forms p0.toNatClampNeg) (by first | omega | assumption | trivial | exact wt_of (by assumption) (by omega))) (fun r60_3 h27 => ?_)
            have h27 : r60_3.toInt = 0 ∨ r60_3.toInt = 1 := h27
            refine ok_eq (fun c28 => ?_) (fun c28 => ?_)
            · exact ok_s trivial
            · exact ok_s trivial
          · exact ok_s trivial
        · exact ok_s trivial
  · first | unfold J_X9_isPrime_13 | skip
    refine ok_lt (fun c29 => ?_) (fun c29 => ?_)
    · first | unfold J_X9_isPrime_22 | skip
      first | unfold J_X9_isPrime_27 | skip
      refine ok_o2 (sp_X9_isThrown (0 : Int32) (1 : Int32) ) (fun r27_4 c_t_thrown_27_4 h30 => ?_)
      have h30 : (r27_4.toInt = 0 ∧ c_t_thrown_27_4.toInt = 0 ∧ (0 : Int32).toInt = 0 ∧ (1 : Int32).toInt = 0) ∨ (r27_4.toInt = 1 ∧ c_t_thrown_27_4.toInt = 1 ∧ (0 : Int32).toInt ≠ 0) ∨ (r27_4.toInt = 1 ∧ c_t_thrown_27_4.toInt = 2 ∧ (0 : Int32).toInt = 0 ∧ (1 : Int32).toInt ≠ 0) := h30
      refine ok_eq (fun c31 => ?_) (fun c31 => ?_)
      · refine ok_c (ixo (by omega) (by omega)) ?_
        try have a32 := FA_at (f := f_t_forms) (by assumption) p0.toNatClampNeg
        refine ok_o (sp_X9_degreeOf (f_t_forms p0.toNatClampNeg) ) (fun r41_4 h33 => ?_)
        have h33 : r41_4.toInt = DG (f_t_forms p0.toNatClampNeg) ∧ -1 ≤ r41_4.toInt ∧ r41_4.toInt ≤ 63 := h33
        refine ok_le (fun c34 => ?_) (fun c34 => ?_)
        · refine ok_c (ixo (by omega) (by omega)) ?_
          try have a35 := FA_at (f := f_t_forms) (by assumption) p0.toNatClampNeg
          refine ok_o (sp_X9_isPrimeNow (f_t_forms p0.toNatClampNeg) (by first | omega | assumption | trivial | exact wt_of (by assumption) (by omega))) (fun r60_4 h36 => ?_)
          have h36 : r60_4.toInt = 0 ∨ r60_4.toInt = 1 := h36
          refine ok_eq (fun c37 => ?_) (fun c37 => ?_)
          · exact ok_s trivial
          · exact ok_s trivial
        · exact ok_s trivial
      · exact ok_s trivial
    · refine ok_le (fun c38 => ?_) (fun c38 => ?_)
      · first | unfold J_X9_isPrime_27 | skip
        refine ok_o2 (sp_X9_isThrown (0 : Int32) (0 : Int32) ) (fun r27_5 c_t_thrown_27_5 h39 => ?_)
        have h39 : (r27_5.toInt = 0 ∧ c_t_thrown_27_5.toInt = 0 ∧ (0 : Int32).toInt = 0 ∧ (0 : Int32).toInt = 0) ∨ (r27_5.toInt = 1 ∧ c_t_thrown_27_5.toInt = 1 ∧ (0 : Int32).toInt ≠ 0) ∨ (r27_5.toInt = 1 ∧ c_t_thrown_27_5.toInt = 2 ∧ (0 : Int32).toInt = 0 ∧ (0 : Int32).toInt ≠ 0) := h39
        refine ok_eq (fun c40 => ?_) (fun c40 => ?_)
        · refine ok_c (ixo (by omega) (by omega)) ?_
          try have a41 := FA_at (f := f_t_forms) (by assumption) p0.toNatClampNeg
          refine ok_o (sp_X9_degreeOf (f_t_forms p0.toNatClampNeg) ) (fun r41_5 h42 => ?_)
          have h42 : r41_5.toInt = DG (f_t_forms p0.toNatClampNeg) ∧ -1 ≤ r41_5.toInt ∧ r41_5.toInt ≤ 63 := h42
          refine ok_le (fun c43 => ?_) (fun c43 => ?_)
          · refine ok_c (ixo (by omega) (by omega)) ?_
            try have a44 := FA_at (f := f_t_forms) (by assumption) p0.toNatClampNeg
            refine ok_o (sp_X9_isPrimeNow (f_t_forms p0.toNatClampNeg) (by first | omega | assumption | trivial | exact wt_of (by assumption) (by omega))) (fun r60_5 h45 => ?_)
            have h45 : r60_5.toInt = 0 ∨ r60_5.toInt = 1 := h45
            refine ok_eq (fun c46 => ?_) (fun c46 => ?_)
            · exact ok_s trivial
            · exact ok_s trivial
          · exact ok_s trivial
        · exact ok_s trivial
      · first | unfold J_X9_isPrime_22 | skip
        first | unfold J_X9_isPrime_27 | skip
        refine ok_o2 (sp_X9_isThrown (0 : Int32) (1 : Int32) ) (fun r27_6 c_t_thrown_27_6 h47 => ?_)
        have h47 : (r27_6.toInt = 0 ∧ c_t_thrown_27_6.toInt = 0 ∧ (0 : Int32).toInt = 0 ∧ (1 : Int32).toInt = 0) ∨ (r27_6.toInt = 1 ∧ c_t_thrown_27_6.toInt = 1 ∧ (0 : Int32).toInt ≠ 0) ∨ (r27_6.toInt = 1 ∧ c_t_thrown_27_6.toInt = 2 ∧ (0 : Int32).toInt = 0 ∧ (1 : Int32).toInt ≠ 0) := h47
        refine ok_eq (fun c48 => ?_) (fun c48 => ?_)
        · refine ok_c (ixo (by omega) (by omega)) ?_
          try have a49 := FA_at (f := f_t_forms) (by assumption) p0.toNatClampNeg
          refine ok_o (sp_X9_degreeOf (f_t_forms p0.toNatClampNeg) ) (fun r41_6 h50 => ?_)
          have h50 : r41_6.toInt = DG (f_t_forms p0.toNatClampNeg) ∧ -1 ≤ r41_6.toInt ∧ r41_6.toInt ≤ 63 := h50
          refine ok_le (fun c51 => ?_) (fun c51 => ?_)
          · refine ok_c (ixo (by omega) (by omega)) ?_
            try have a52 := FA_at (f := f_t_forms) (by assumption) p0.toNatClampNeg
            refine ok_o (sp_X9_isPrimeNow (f_t_forms p0.toNatClampNeg) (by first | omega | assumption | trivial | exact wt_of (by assumption) (by omega))) (fun r60_6 h53 => ?_)
            have h53 : r60_6.toInt = 0 ∨ r60_6.toInt = 1 := h53
            refine ok_eq (fun c54 => ?_) (fun c54 => ?_)
            · exact ok_s trivial
            · exact ok_s trivial
          · exact ok_s trivial
        · exact ok_s trivial
set_option maxHeartbeats 1000000 in
theorem sp_X9_primes (p0 : Int32) (p1 : Int32)  : ok (F_X9_primes p0 p1) (fun r => True) := by
  have l032 : (0 : Int32).toInt = 0 := by decide
  have l132 : (1 : Int32).toInt = 1 := by decide
  have l632 : (6 : Int32).toInt = 6 := by decide
  have l1032 : (10 : Int32).toInt = 10 := by decide
  unfold F_X9_primes
  refine ok_lt (fun c1 => ?_) (fun c1 => ?_)
  · refine ok_o2 (sp_X9_isThrown_ (1 : Int32) ) (fun r35 c_t_thrown_35 h2 => ?_)
    have h2 : (r35.toInt = 0 ∧ c_t_thrown_35.toInt = 0 ∧ (1 : Int32).toInt = 0) ∨ (r35.toInt = 1 ∧ c_t_thrown_35.toInt = 1 ∧ (1 : Int32).toInt ≠ 0) := h2
    refine ok_eq (fun c3 => ?_) (fun c3 => ?_)
    · refine ok_o (sp_X9_primesOf p0 (by first | omega | assumption | trivial | exact wt_of (by assumption) (by omega)) (by first | omega | assumption | trivial | exact wt_of (by assumption) (by omega))) (fun r46 h4 => ?_)
      exact ok_s trivial
    · exact ok_s trivial
  · refine ok_lt (fun c5 => ?_) (fun c5 => ?_)
    · refine ok_o2 (sp_X9_isThrown_ (1 : Int32) ) (fun r35_2 c_t_thrown_35_2 h6 => ?_)
      have h6 : (r35_2.toInt = 0 ∧ c_t_thrown_35_2.toInt = 0 ∧ (1 : Int32).toInt = 0) ∨ (r35_2.toInt = 1 ∧ c_t_thrown_35_2.toInt = 1 ∧ (1 : Int32).toInt ≠ 0) := h6
      refine ok_eq (fun c7 => ?_) (fun c7 => ?_)
      · refine ok_o (sp_X9_primesOf p0 (by first | omega | assumption | trivial | exact wt_of (by assumption) (by omega)) (by first | omega | assumption | trivial | exact wt_of (by assumption) (by omega))) (fun r46_2 h8 => ?_)
        exact ok_s trivial
      · exact ok_s trivial
    · refine ok_lt (fun c9 => ?_) (fun c9 => ?_)
      · refine ok_o2 (sp_X9_isThrown_ (1 : Int32) ) (fun r35_3 c_t_thrown_35_3 h10 => ?_)
        have h10 : (r35_3.toInt = 0 ∧ c_t_thrown_35_3.toInt = 0 ∧ (1 : Int32).toInt = 0) ∨ (r35_3.toInt = 1 ∧ c_t_thrown_35_3.toInt = 1 ∧ (1 : Int32).toInt ≠ 0) := h10
        refine ok_eq (fun c11 => ?_) (fun c11 => ?_)
        · refine ok_o (sp_X9_primesOf p0 (by first | omega | assumption | trivial | exact wt_of (by assumption) (by omega)) (by first | omega | assumption | trivial | exact wt_of (by assumption) (by omega))) (fun r46_3 h12 => ?_)
          exact ok_s trivial
        · exact ok_s trivial
      · refine ok_eq (fun c13 => ?_) (fun c13 => ?_)
        · refine ok_le (fun c14 => ?_) (fun c14 => ?_)
          · refine ok_o2 (sp_X9_isThrown_ (0 : Int32) ) (fun r35_4 c_t_thrown_35_4 h15 => ?_)
            have h15 : (r35_4.toInt = 0 ∧ c_t_thrown_35_4.toInt = 0 ∧ (0 : Int32).toInt = 0) ∨ (r35_4.toInt = 1 ∧ c_t_thrown_35_4.toInt = 1 ∧ (0 : Int32).toInt ≠ 0) := h15
            refine ok_eq (fun c16 => ?_) (fun c16 => ?_)
            · refine ok_o (sp_X9_primesOf p0 (by first | omega | assumption | trivial | exact wt_of (by assumption) (by omega)) (by first | omega | assumption | trivial | exact wt_of (by assumption) (by omega))) (fun r46_4 h17 => ?_)
              exact ok_s trivial
            · exact ok_s trivial
          · refine ok_o2 (sp_X9_isThrown_ (1 : Int32) ) (fun r35_5 c_t_thrown_35_5 h18 => ?_)
            have h18 : (r35_5.toInt = 0 ∧ c_t_thrown_35_5.toInt = 0 ∧ (1 : Int32).toInt = 0) ∨ (r35_5.toInt = 1 ∧ c_t_thrown_35_5.toInt = 1 ∧ (1 : Int32).toInt ≠ 0) := h18
            refine ok_eq (fun c19 => ?_) (fun c19 => ?_)
            · refine ok_o (sp_X9_primesOf p0 (by first | omega | assumption | trivial | exact wt_of (by assumption) (by omega)) (by first | omega | assumption | trivial | exact wt_of (by assumption) (by omega))) (fun r46_5 h20 => ?_)
              exact ok_s trivial
            · exact ok_s trivial
        · refine ok_le (fun c21 => ?_) (fun c21 => ?_)
          · refine ok_o2 (sp_X9_isThrown_ (0 : Int32) ) (fun r35_6 c_t_thrown_35_6 h22 => ?_)
            have h22 : (r35_6.toInt = 0 ∧ c_t_thrown_35_6.toInt = 0 ∧ (0 : Int32).toInt = 0) ∨ (r35_6.toInt = 1 ∧ c_t_thrown_35_6.toInt = 1 ∧ (0 : Int32).toInt ≠ 0) := h22
            refine ok_eq (fun c23 => ?_) (fun c23 => ?_)
            · refine ok_o (sp_X9_primesOf p0 (by first | omega | assumption | trivial | exact wt_of (by assumption) (by omega)) (by first | omega | assumption | trivial | exact wt_of (by assumption) (by omega))) (fun r46_6 h24 => ?_)
              exact ok_s trivial
            · exact ok_s trivial
          · refine ok_o2 (sp_X9_isThrown_ (1 : Int32) ) (fun r35_7 c_t_thrown_35_7 h25 => ?_)
            have h25 : (r35_7.toInt = 0 ∧ c_t_thrown_35_7.toInt = 0 ∧ (1 : Int32).toInt = 0) ∨ (r35_7.toInt = 1 ∧ c_t_thrown_35_7.toInt = 1 ∧ (1 : Int32).toInt ≠ 0) := h25
            refine ok_eq (fun c26 => ?_) (fun c26 => ?_)
            · refine ok_o (sp_X9_primesOf p0 (by first | omega | assumption | trivial | exact wt_of (by assumption) (by omega)) (by first | omega | assumption | trivial | exact wt_of (by assumption) (by omega))) (fun r46_7 h27 => ?_)
              exact ok_s trivial
            · exact ok_s trivial
set_option maxHeartbeats 1000000 in
theorem sp_X9_prime (c_t_thrown : Int32) (p0 : Int32) (p1 : Int32)  : ok (F_X9_prime c_t_thrown p0 p1) (fun r => True) := by
  have lm132 : (-1 : Int32).toInt = -1 := by decide
  have l032 : (0 : Int32).toInt = 0 := by decide
  have l132 : (1 : Int32).toInt = 1 := by decide
  have l164 : (1 : Int64).toInt = 1 := by decide
  have l264 : (2 : Int64).toInt = 2 := by decide
  have l632 : (6 : Int32).toInt = 6 := by decide
  have l932 : (9 : Int32).toInt = 9 := by decide
  unfold F_X9_prime
  refine ok_lt (fun c1 => ?_) (fun c1 => ?_)
  · first | unfold J_X9_prime_22 | skip
    first | unfold J_X9_prime_27 | skip
    refine ok_o2 (sp_X9_isThrown_ (1 : Int32) ) (fun r27 c_t_thrown_27 h2 => ?_)
    have h2 : (r27.toInt = 0 ∧ c_t_thrown_27.toInt = 0 ∧ (1 : Int32).toInt = 0) ∨ (r27.toInt = 1 ∧ c_t_thrown_27.toInt = 1 ∧ (1 : Int32).toInt ≠ 0) := h2
    refine ok_eq (fun c3 => ?_) (fun c3 => ?_)
    · refine ok_bx (fun x4_40 e_x4_40 => ?_)
      have hs := sh_b (x := p0) (by omega) (by omega)
      have t_x4_40 : 1 ≤ x4_40.toInt ∧ x4_40.toInt ≤ 64 := by rw [e_x4_40]; exact ⟨hs.1, hs.2.1⟩
      refine ok_L2 (fun y3_42 y4_42 => 1 ≤ y4_42.toInt ∧ y4_42.toInt ≤ 128) (fun y3_42 y4_42 => (129 - y4_42.toInt).toNat) (fun ih42 y3_42 y4_42 hI4 hih4 => ?_) 20000 p1 x4_40 (show 1 ≤ x4_40.toInt ∧ x4_40.toInt ≤ 128 from by first | omega | assumption | trivial | (refine ⟨?_, ?_⟩ <;> first | omega | assumption | trivial | rfl) | (refine ⟨?_, ?_, ?_⟩ <;> first | omega | assumption | trivial | rfl) | (refine ⟨?_, ?_, ?_, ?_⟩ <;> first | omega | assumption | trivial | rfl) | (refine ⟨?_, ?_, ?_, ?_, ?_⟩ <;> first | omega | assumption | trivial | rfl) | (refine ⟨?_, ?_, ?_, ?_, ?_, ?_⟩ <;> first | omega | assumption | trivial | rfl) | (refine ⟨?_, ?_, ?_, ?_, ?_, ?_, ?_⟩ <;> first | omega | assumption | trivial | rfl) | (refine ⟨?_, ?_, ?_, ?_, ?_, ?_, ?_, ?_⟩ <;> first | omega | assumption | trivial | rfl)) (show (129 - x4_40.toInt).toNat < 20000 from by omega)
      have hI4 : 1 ≤ y4_42.toInt ∧ y4_42.toInt ≤ 128 := hI4
      unfold S_X9_prime_42
      refine ok_leL (fun c5 => ?_) (fun c5 => ?_)
      · exact ok_s trivial
      · have hd : DG y4_42 < ((8 : Nat) : Int) := DG_lt (by omega) (show y4_42.toInt < 2 ^ 8 from by omega)
        refine ok_o (sp_X9_isPrimeNow y4_42 (by first | omega | assumption | trivial | exact wt_of (by assumption) (by omega))) (fun r55 h6 => ?_)
        have h6 : r55.toInt = 0 ∨ r55.toInt = 1 := h6
        refine ok_eq (fun c7 => ?_) (fun c7 => ?_)
        · first | unfold J_X9_prime_75 | skip
          refine ok_bx (fun x4_79 e_x4_79 => ?_)
          try have t_x4_79 : x4_79.toInt = y4_42.toInt + 1 := by rw [e_x4_79]; exact addL1 (show (1 : Int64).toInt = 1 from by decide) (by omega) (by omega)
          exact hih4 y3_42 x4_79 (show 1 ≤ x4_79.toInt ∧ x4_79.toInt ≤ 128 from by first | omega | assumption | trivial | (refine ⟨?_, ?_⟩ <;> first | omega | assumption | trivial | rfl) | (refine ⟨?_, ?_, ?_⟩ <;> first | omega | assumption | trivial | rfl) | (refine ⟨?_, ?_, ?_, ?_⟩ <;> first | omega | assumption | trivial | rfl) | (refine ⟨?_, ?_, ?_, ?_, ?_⟩ <;> first | omega | assumption | trivial | rfl) | (refine ⟨?_, ?_, ?_, ?_, ?_, ?_⟩ <;> first | omega | assumption | trivial | rfl) | (refine ⟨?_, ?_, ?_, ?_, ?_, ?_, ?_⟩ <;> first | omega | assumption | trivial | rfl) | (refine ⟨?_, ?_, ?_, ?_, ?_, ?_, ?_, ?_⟩ <;> first | omega | assumption | trivial | rfl)) (show (129 - x4_79.toInt).toNat < (129 - y4_42.toInt).toNat from by omega)
        · refine ok_eq (fun c8 => ?_) (fun c8 => ?_)
          · exact ok_s trivial
          · refine ok_bx (fun x3_72 e_x3_72 => ?_)
            try have t_x3_72 : x3_72.toInt = y3_42.toInt + (-1) := by rw [e_x3_72]; exact addT1 (show (-1 : Int32).toInt = -1 from by decide) (by omega) (by omega)
            first | unfold J_X9_prime_75 | skip
            refine ok_bx (fun x4_79_2 e_x4_79_2 => ?_)
            try have t_x4_79_2 : x4_79_2.toInt = y4_42.toInt + 1 := by rw [e_x4_79_2]; exact addL1 (show (1 : Int64).toInt = 1 from by decide) (by omega) (by omega)
            exact hih4 x3_72 x4_79_2 (show 1 ≤ x4_79_2.toInt ∧ x4_79_2.toInt ≤ 128 from by first | omega | assumption | trivial | (refine ⟨?_, ?_⟩ <;> first | omega | assumption | trivial | rfl) | (refine ⟨?_, ?_, ?_⟩ <;> first | omega | assumption | trivial | rfl) | (refine ⟨?_, ?_, ?_, ?_⟩ <;> first | omega | assumption | trivial | rfl) | (refine ⟨?_, ?_, ?_, ?_, ?_⟩ <;> first | omega | assumption | trivial | rfl) | (refine ⟨?_, ?_, ?_, ?_, ?_, ?_⟩ <;> first | omega | assumption | trivial | rfl) | (refine ⟨?_, ?_, ?_, ?_, ?_, ?_, ?_⟩ <;> first | omega | assumption | trivial | rfl) | (refine ⟨?_, ?_, ?_, ?_, ?_, ?_, ?_, ?_⟩ <;> first | omega | assumption | trivial | rfl)) (show (129 - x4_79_2.toInt).toNat < (129 - y4_42.toInt).toNat from by omega)
    · exact ok_s trivial
  · refine ok_lt (fun c9 => ?_) (fun c9 => ?_)
    · first | unfold J_X9_prime_22 | skip
      first | unfold J_X9_prime_27 | skip
      refine ok_o2 (sp_X9_isThrown_ (1 : Int32) ) (fun r27_2 c_t_thrown_27_2 h10 => ?_)
      have h10 : (r27_2.toInt = 0 ∧ c_t_thrown_27_2.toInt = 0 ∧ (1 : Int32).toInt = 0) ∨ (r27_2.toInt = 1 ∧ c_t_thrown_27_2.toInt = 1 ∧ (1 : Int32).toInt ≠ 0) := h10
      refine ok_eq (fun c11 => ?_) (fun c11 => ?_)
      · refine ok_bx (fun x4_40_2 e_x4_40_2 => ?_)
        have hs := sh_b (x := p0) (by omega) (by omega)
        have t_x4_40_2 : 1 ≤ x4_40_2.toInt ∧ x4_40_2.toInt ≤ 64 := by rw [e_x4_40_2]; exact ⟨hs.1, hs.2.1⟩
        refine ok_L2 (fun y3_42_2 y4_42_2 => 1 ≤ y4_42_2.toInt ∧ y4_42_2.toInt ≤ 128) (fun y3_42_2 y4_42_2 => (129 - y4_42_2.toInt).toNat) (fun ih42_2 y3_42_2 y4_42_2 hI12 hih12 => ?_) 20000 p1 x4_40_2 (show 1 ≤ x4_40_2.toInt ∧ x4_40_2.toInt ≤ 128 from by first | omega | assumption | trivial | (refine ⟨?_, ?_⟩ <;> first | omega | assumption | trivial | rfl) | (refine ⟨?_, ?_, ?_⟩ <;> first | omega | assumption | trivial | rfl) | (refine ⟨?_, ?_, ?_, ?_⟩ <;> first | omega | assumption | trivial | rfl) | (refine ⟨?_, ?_, ?_, ?_, ?_⟩ <;> first | omega | assumption | trivial | rfl) | (refine ⟨?_, ?_, ?_, ?_, ?_, ?_⟩ <;> first | omega | assumption | trivial | rfl) | (refine ⟨?_, ?_, ?_, ?_, ?_, ?_, ?_⟩ <;> first | omega | assumption | trivial | rfl) | (refine ⟨?_, ?_, ?_, ?_, ?_, ?_, ?_, ?_⟩ <;> first | omega | assumption | trivial | rfl)) (show (129 - x4_40_2.toInt).toNat < 20000 from by omega)
        have hI12 : 1 ≤ y4_42_2.toInt ∧ y4_42_2.toInt ≤ 128 := hI12
        unfold S_X9_prime_42
        refine ok_leL (fun c13 => ?_) (fun c13 => ?_)
        · exact ok_s trivial
        · have hd : DG y4_42_2 < ((8 : Nat) : Int) := DG_lt (by omega) (show y4_42_2.toInt < 2 ^ 8 from by omega)
          refine ok_o (sp_X9_isPrimeNow y4_42_2 (by first | omega | assumption | trivial | exact wt_of (by assumption) (by omega))) (fun r55_2 h14 => ?_)
          have h14 : r55_2.toInt = 0 ∨ r55_2.toInt = 1 := h14
          refine ok_eq (fun c15 => ?_) (fun c15 => ?_)
          · first | unfold J_X9_prime_75 | skip
            refine ok_bx (fun x4_79_3 e_x4_79_3 => ?_)
            try have t_x4_79_3 : x4_79_3.toInt = y4_42_2.toInt + 1 := by rw [e_x4_79_3]; exact addL1 (show (1 : Int64).toInt = 1 from by decide) (by omega) (by omega)
            exact hih12 y3_42_2 x4_79_3 (show 1 ≤ x4_79_3.toInt ∧ x4_79_3.toInt ≤ 128 from by first | omega | assumption | trivial | (refine ⟨?_, ?_⟩ <;> first | omega | assumption | trivial | rfl) | (refine ⟨?_, ?_, ?_⟩ <;> first | omega | assumption | trivial | rfl) | (refine ⟨?_, ?_, ?_, ?_⟩ <;> first | omega | assumption | trivial | rfl) | (refine ⟨?_, ?_, ?_, ?_, ?_⟩ <;> first | omega | assumption | trivial | rfl) | (refine ⟨?_, ?_, ?_, ?_, ?_, ?_⟩ <;> first | omega | assumption | trivial | rfl) | (refine ⟨?_, ?_, ?_, ?_, ?_, ?_, ?_⟩ <;> first | omega | assumption | trivial | rfl) | (refine ⟨?_, ?_, ?_, ?_, ?_, ?_, ?_, ?_⟩ <;> first | omega | assumption | trivial | rfl)) (show (129 - x4_79_3.toInt).toNat < (129 - y4_42_2.toInt).toNat from by omega)
          · refine ok_eq (fun c16 => ?_) (fun c16 => ?_)
            · exact ok_s trivial
            · refine ok_bx (fun x3_72_2 e_x3_72_2 => ?_)
              try have t_x3_72_2 : x3_72_2.toInt = y3_42_2.toInt + (-1) := by rw [e_x3_72_2]; exact addT1 (show (-1 : Int32).toInt = -1 from by decide) (by omega) (by omega)
              first | unfold J_X9_prime_75 | skip
              refine ok_bx (fun x4_79_4 e_x4_79_4 => ?_)
              try have t_x4_79_4 : x4_79_4.toInt = y4_42_2.toInt + 1 := by rw [e_x4_79_4]; exact addL1 (show (1 : Int64).toInt = 1 from by decide) (by omega) (by omega)
              exact hih12 x3_72_2 x4_79_4 (show 1 ≤ x4_79_4.toInt ∧ x4_79_4.toInt ≤ 128 from by first | omega | assumption | trivial | (refine ⟨?_, ?_⟩ <;> first | omega | assumption | trivial | rfl) | (refine ⟨?_, ?_, ?_⟩ <;> first | omega | assumption | trivial | rfl) | (refine ⟨?_, ?_, ?_, ?_⟩ <;> first | omega | assumption | trivial | rfl) | (refine ⟨?_, ?_, ?_, ?_, ?_⟩ <;> first | omega | assumption | trivial | rfl) | (refine ⟨?_, ?_, ?_, ?_, ?_, ?_⟩ <;> first | omega | assumption | trivial | rfl) | (refine ⟨?_, ?_, ?_, ?_, ?_, ?_, ?_⟩ <;> first | omega | assumption | trivial | rfl) | (refine ⟨?_, ?_, ?_, ?_, ?_, ?_, ?_, ?_⟩ <;> first | omega | assumption | trivial | rfl)) (show (129 - x4_79_4.toInt).toNat < (129 - y4_42_2.toInt).toNat from by omega)
      · exact ok_s trivial
    · refine ok_lt (fun c17 => ?_) (fun c17 => ?_)
      · first | unfold J_X9_prime_22 | skip
        first | unfold J_X9_prime_27 | skip
        refine ok_o2 (sp_X9_isThrown_ (1 : Int32) ) (fun r27_3 c_t_thrown_27_3 h18 => ?_)
        have h18 : (r27_3.toInt = 0 ∧ c_t_thrown_27_3.toInt = 0 ∧ (1 : Int32).toInt = 0) ∨ (r27_3.toInt = 1 ∧ c_t_thrown_27_3.toInt = 1 ∧ (1 : Int32).toInt ≠ 0) := h18
        refine ok_eq (fun c19 => ?_) (fun c19 => ?_)
        · refine ok_bx (fun x4_40_3 e_x4_40_3 => ?_)
          have hs := sh_b (x := p0) (by omega) (by omega)
          have t_x4_40_3 : 1 ≤ x4_40_3.toInt ∧ x4_40_3.toInt ≤ 64 := by rw [e_x4_40_3]; exact ⟨hs.1, hs.2.1⟩
          refine ok_L2 (fun y3_42_3 y4_42_3 => 1 ≤ y4_42_3.toInt ∧ y4_42_3.toInt ≤ 128) (fun y3_42_3 y4_42_3 => (129 - y4_42_3.toInt).toNat) (fun ih42_3 y3_42_3 y4_42_3 hI20 hih20 => ?_) 20000 p1 x4_40_3 (show 1 ≤ x4_40_3.toInt ∧ x4_40_3.toInt ≤ 128 from by first | omega | assumption | trivial | (refine ⟨?_, ?_⟩ <;> first | omega | assumption | trivial | rfl) | (refine ⟨?_, ?_, ?_⟩ <;> first | omega | assumption | trivial | rfl) | (refine ⟨?_, ?_, ?_, ?_⟩ <;> first | omega | assumption | trivial | rfl) | (refine ⟨?_, ?_, ?_, ?_, ?_⟩ <;> first | omega | assumption | trivial | rfl) | (refine ⟨?_, ?_, ?_, ?_, ?_, ?_⟩ <;> first | omega | assumption | trivial | rfl) | (refine ⟨?_, ?_, ?_, ?_, ?_, ?_, ?_⟩ <;> first | omega | assumption | trivial | rfl) | (refine ⟨?_, ?_, ?_, ?_, ?_, ?_, ?_, ?_⟩ <;> first | omega | assumption | trivial | rfl)) (show (129 - x4_40_3.toInt).toNat < 20000 from by omega)
          have hI20 : 1 ≤ y4_42_3.toInt ∧ y4_42_3.toInt ≤ 128 := hI20
          unfold S_X9_prime_42
          refine ok_leL (fun c21 => ?_) (fun c21 => ?_)
          · exact ok_s trivial
          · have hd : DG y4_42_3 < ((8 : Nat) : Int) := DG_lt (by omega) (show y4_42_3.toInt < 2 ^ 8 from by omega)
            refine ok_o (sp_X9_isPrimeNow y4_42_3 (by first | omega | assumption | trivial | exact wt_of (by assumption) (by omega))) (fun r55_3 h22 => ?_)
            have h22 : r55_3.toInt = 0 ∨ r55_3.toInt = 1 := h22
            refine ok_eq (fun c23 => ?_) (fun c23 => ?_)
            · first | unfold J_X9_prime_75 | skip
              refine ok_bx (fun x4_79_5 e_x4_79_5 => ?_)
              try have t_x4_79_5 : x4_79_5.toInt = y4_42_3.toInt + 1 := by rw [e_x4_79_5]; exact addL1 (show (1 : Int64).toInt = 1 from by decide) (by omega) (by omega)
              exact hih20 y3_42_3 x4_79_5 (show 1 ≤ x4_79_5.toInt ∧ x4_79_5.toInt ≤ 128 from by first | omega | assumption | trivial | (refine ⟨?_, ?_⟩ <;> first | omega | assumption | trivial | rfl) | (refine ⟨?_, ?_, ?_⟩ <;> first | omega | assumption | trivial | rfl) | (refine ⟨?_, ?_, ?_, ?_⟩ <;> first | omega | assumption | trivial | rfl) | (refine ⟨?_, ?_, ?_, ?_, ?_⟩ <;> first | omega | assumption | trivial | rfl) | (refine ⟨?_, ?_, ?_, ?_, ?_, ?_⟩ <;> first | omega | assumption | trivial | rfl) | (refine ⟨?_, ?_, ?_, ?_, ?_, ?_, ?_⟩ <;> first | omega | assumption | trivial | rfl) | (refine ⟨?_, ?_, ?_, ?_, ?_, ?_, ?_, ?_⟩ <;> first | omega | assumption | trivial | rfl)) (show (129 - x4_79_5.toInt).toNat < (129 - y4_42_3.toInt).toNat from by omega)
            · refine ok_eq (fun c24 => ?_) (fun c24 => ?_)
              · exact ok_s trivial
              · refine ok_bx (fun x3_72_3 e_x3_72_3 => ?_)
                try have t_x3_72_3 : x3_72_3.toInt = y3_42_3.toInt + (-1) := by rw [e_x3_72_3]; exact addT1 (show (-1 : Int32).toInt = -1 from by decide) (by omega) (by omega)
                first | unfold J_X9_prime_75 | skip
                refine ok_bx (fun x4_79_6 e_x4_79_6 => ?_)
                try have t_x4_79_6 : x4_79_6.toInt = y4_42_3.toInt + 1 := by rw [e_x4_79_6]; exact addL1 (show (1 : Int64).toInt = 1 from by decide) (by omega) (by omega)
                exact hih20 x3_72_3 x4_79_6 (show 1 ≤ x4_79_6.toInt ∧ x4_79_6.toInt ≤ 128 from by first | omega | assumption | trivial | (refine ⟨?_, ?_⟩ <;> first | omega | assumption | trivial | rfl) | (refine ⟨?_, ?_, ?_⟩ <;> first | omega | assumption | trivial | rfl) | (refine ⟨?_, ?_, ?_, ?_⟩ <;> first | omega | assumption | trivial | rfl) | (refine ⟨?_, ?_, ?_, ?_, ?_⟩ <;> first | omega | assumption | trivial | rfl) | (refine ⟨?_, ?_, ?_, ?_, ?_, ?_⟩ <;> first | omega | assumption | trivial | rfl) | (refine ⟨?_, ?_, ?_, ?_, ?_, ?_, ?_⟩ <;> first | omega | assumption | trivial | rfl) | (refine ⟨?_, ?_, ?_, ?_, ?_, ?_, ?_, ?_⟩ <;> first | omega | assumption | trivial | rfl)) (show (129 - x4_79_6.toInt).toNat < (129 - y4_42_3.toInt).toNat from by omega)
        · exact ok_s trivial
      · refine ok_le (fun c25 => ?_) (fun c25 => ?_)
        · first | unfold J_X9_prime_27 | skip
          refine ok_o2 (sp_X9_isThrown_ (0 : Int32) ) (fun r27_4 c_t_thrown_27_4 h26 => ?_)
          have h26 : (r27_4.toInt = 0 ∧ c_t_thrown_27_4.toInt = 0 ∧ (0 : Int32).toInt = 0) ∨ (r27_4.toInt = 1 ∧ c_t_thrown_27_4.toInt = 1 ∧ (0 : Int32).toInt ≠ 0) := h26
          refine ok_eq (fun c27 => ?_) (fun c27 => ?_)
          · refine ok_bx (fun x4_40_4 e_x4_40_4 => ?_)
            have hs := sh_b (x := p0) (by omega) (by omega)
            have t_x4_40_4 : 1 ≤ x4_40_4.toInt ∧ x4_40_4.toInt ≤ 64 := by rw [e_x4_40_4]; exact ⟨hs.1, hs.2.1⟩
            refine ok_L2 (fun y3_42_4 y4_42_4 => 1 ≤ y4_42_4.toInt ∧ y4_42_4.toInt ≤ 128) (fun y3_42_4 y4_42_4 => (129 - y4_42_4.toInt).toNat) (fun ih42_4 y3_42_4 y4_42_4 hI28 hih28 => ?_) 20000 p1 x4_40_4 (show 1 ≤ x4_40_4.toInt ∧ x4_40_4.toInt ≤ 128 from by first | omega | assumption | trivial | (refine ⟨?_, ?_⟩ <;> first | omega | assumption | trivial | rfl) | (refine ⟨?_, ?_, ?_⟩ <;> first | omega | assumption | trivial | rfl) | (refine ⟨?_, ?_, ?_, ?_⟩ <;> first | omega | assumption | trivial | rfl) | (refine ⟨?_, ?_, ?_, ?_, ?_⟩ <;> first | omega | assumption | trivial | rfl) | (refine ⟨?_, ?_, ?_, ?_, ?_, ?_⟩ <;> first | omega | assumption | trivial | rfl) | (refine ⟨?_, ?_, ?_, ?_, ?_, ?_, ?_⟩ <;> first | omega | assumption | trivial | rfl) | (refine ⟨?_, ?_, ?_, ?_, ?_, ?_, ?_, ?_⟩ <;> first | omega | assumption | trivial | rfl)) (show (129 - x4_40_4.toInt).toNat < 20000 from by omega)
            have hI28 : 1 ≤ y4_42_4.toInt ∧ y4_42_4.toInt ≤ 128 := hI28
            unfold S_X9_prime_42
            refine ok_leL (fun c29 => ?_) (fun c29 => ?_)
            · exact ok_s trivial
            · have hd : DG y4_42_4 < ((8 : Nat) : Int) := DG_lt (by omega) (show y4_42_4.toInt < 2 ^ 8 from by omega)
              refine ok_o (sp_X9_isPrimeNow y4_42_4 (by first | omega | assumption | trivial | exact wt_of (by assumption) (by omega))) (fun r55_4 h30 => ?_)
              have h30 : r55_4.toInt = 0 ∨ r55_4.toInt = 1 := h30
              refine ok_eq (fun c31 => ?_) (fun c31 => ?_)
              · first | unfold J_X9_prime_75 | skip
                refine ok_bx (fun x4_79_7 e_x4_79_7 => ?_)
                try have t_x4_79_7 : x4_79_7.toInt = y4_42_4.toInt + 1 := by rw [e_x4_79_7]; exact addL1 (show (1 : Int64).toInt = 1 from by decide) (by omega) (by omega)
                exact hih28 y3_42_4 x4_79_7 (show 1 ≤ x4_79_7.toInt ∧ x4_79_7.toInt ≤ 128 from by first | omega | assumption | trivial | (refine ⟨?_, ?_⟩ <;> first | omega | assumption | trivial | rfl) | (refine ⟨?_, ?_, ?_⟩ <;> first | omega | assumption | trivial | rfl) | (refine ⟨?_, ?_, ?_, ?_⟩ <;> first | omega | assumption | trivial | rfl) | (refine ⟨?_, ?_, ?_, ?_, ?_⟩ <;> first | omega | assumption | trivial | rfl) | (refine ⟨?_, ?_, ?_, ?_, ?_, ?_⟩ <;> first | omega | assumption | trivial | rfl) | (refine ⟨?_, ?_, ?_, ?_, ?_, ?_, ?_⟩ <;> first | omega | assumption | trivial | rfl) | (refine ⟨?_, ?_, ?_, ?_, ?_, ?_, ?_, ?_⟩ <;> first | omega | assumption | trivial | rfl)) (show (129 - x4_79_7.toInt).toNat < (129 - y4_42_4.toInt).toNat from by omega)
              · refine ok_eq (fun c32 => ?_) (fun c32 => ?_)
                · exact ok_s trivial
                · refine ok_bx (fun x3_72_4 e_x3_72_4 => ?_)
                  try have t_x3_72_4 : x3_72_4.toInt = y3_42_4.toInt + (-1) := by rw [e_x3_72_4]; exact addT1 (show (-1 : Int32).toInt = -1 from by decide) (by omega) (by omega)
                  first | unfold J_X9_prime_75 | skip
                  refine ok_bx (fun x4_79_8 e_x4_79_8 => ?_)
                  try have t_x4_79_8 : x4_79_8.toInt = y4_42_4.toInt + 1 := by rw [e_x4_79_8]; exact addL1 (show (1 : Int64).toInt = 1 from by decide) (by omega) (by omega)
                  exact hih28 x3_72_4 x4_79_8 (show 1 ≤ x4_79_8.toInt ∧ x4_79_8.toInt ≤ 128 from by first | omega | assumption | trivial | (refine ⟨?_, ?_⟩ <;> first | omega | assumption | trivial | rfl) | (refine ⟨?_, ?_, ?_⟩ <;> first | omega | assumption | trivial | rfl) | (refine ⟨?_, ?_, ?_, ?_⟩ <;> first | omega | assumption | trivial | rfl) | (refine ⟨?_, ?_, ?_, ?_, ?_⟩ <;> first | omega | assumption | trivial | rfl) | (refine ⟨?_, ?_, ?_, ?_, ?_, ?_⟩ <;> first | omega | assumption | trivial | rfl) | (refine ⟨?_, ?_, ?_, ?_, ?_, ?_, ?_⟩ <;> first | omega | assumption | trivial | rfl) | (refine ⟨?_, ?_, ?_, ?_, ?_, ?_, ?_, ?_⟩ <;> first | omega | assumption | trivial | rfl)) (show (129 - x4_79_8.toInt).toNat < (129 - y4_42_4.toInt).toNat from by omega)
          · exact ok_s trivial
        · first | unfold J_X9_prime_22 | skip
          first | unfold J_X9_prime_27 | skip
          refine ok_o2 (sp_X9_isThrown_ (1 : Int32) ) (fun r27_5 c_t_thrown_27_5 h33 => ?_)
          have h33 : (r27_5.toInt = 0 ∧ c_t_thrown_27_5.toInt = 0 ∧ (1 : Int32).toInt = 0) ∨ (r27_5.toInt = 1 ∧ c_t_thrown_27_5.toInt = 1 ∧ (1 : Int32).toInt ≠ 0) := h33
          refine ok_eq (fun c34 => ?_) (fun c34 => ?_)
          · refine ok_bx (fun x4_40_5 e_x4_40_5 => ?_)
            have hs := sh_b (x := p0) (by omega) (by omega)
            have t_x4_40_5 : 1 ≤ x4_40_5.toInt ∧ x4_40_5.toInt ≤ 64 := by rw [e_x4_40_5]; exact ⟨hs.1, hs.2.1⟩
            refine ok_L2 (fun y3_42_5 y4_42_5 => 1 ≤ y4_42_5.toInt ∧ y4_42_5.toInt ≤ 128) (fun y3_42_5 y4_42_5 => (129 - y4_42_5.toInt).toNat) (fun ih42_5 y3_42_5 y4_42_5 hI35 hih35 => ?_) 20000 p1 x4_40_5 (show 1 ≤ x4_40_5.toInt ∧ x4_40_5.toInt ≤ 128 from by first | omega | assumption | trivial | (refine ⟨?_, ?_⟩ <;> first | omega | assumption | trivial | rfl) | (refine ⟨?_, ?_, ?_⟩ <;> first | omega | assumption | trivial | rfl) | (refine ⟨?_, ?_, ?_, ?_⟩ <;> first | omega | assumption | trivial | rfl) | (refine ⟨?_, ?_, ?_, ?_, ?_⟩ <;> first | omega | assumption | trivial | rfl) | (refine ⟨?_, ?_, ?_, ?_, ?_, ?_⟩ <;> first | omega | assumption | trivial | rfl) | (refine ⟨?_, ?_, ?_, ?_, ?_, ?_, ?_⟩ <;> first | omega | assumption | trivial | rfl) | (refine ⟨?_, ?_, ?_, ?_, ?_, ?_, ?_, ?_⟩ <;> first | omega | assumption | trivial | rfl)) (show (129 - x4_40_5.toInt).toNat < 20000 from by omega)
            have hI35 : 1 ≤ y4_42_5.toInt ∧ y4_42_5.toInt ≤ 128 := hI35
            unfold S_X9_prime_42
            refine ok_leL (fun c36 => ?_) (fun c36 => ?_)
            · exact ok_s trivial
            · have hd : DG y4_42_5 < ((8 : Nat) : Int) := DG_lt (by omega) (show y4_42_5.toInt < 2 ^ 8 from by omega)
              refine ok_o (sp_X9_isPrimeNow y4_42_5 (by first | omega | assumption | trivial | exact wt_of (by assumption) (by omega))) (fun r55_5 h37 => ?_)
              have h37 : r55_5.toInt = 0 ∨ r55_5.toInt = 1 := h37
              refine ok_eq (fun c38 => ?_) (fun c38 => ?_)
              · first | unfold J_X9_prime_75 | skip
                refine ok_bx (fun x4_79_9 e_x4_79_9 => ?_)
                try have t_x4_79_9 : x4_79_9.toInt = y4_42_5.toInt + 1 := by rw [e_x4_79_9]; exact addL1 (show (1 : Int64).toInt = 1 from by decide) (by omega) (by omega)
                exact hih35 y3_42_5 x4_79_9 (show 1 ≤ x4_79_9.toInt ∧ x4_79_9.toInt ≤ 128 from by first | omega | assumption | trivial | (refine ⟨?_, ?_⟩ <;> first | omega | assumption | trivial | rfl) | (refine ⟨?_, ?_, ?_⟩ <;> first | omega | assumption | trivial | rfl) | (refine ⟨?_, ?_, ?_, ?_⟩ <;> first | omega | assumption | trivial | rfl) | (refine ⟨?_, ?_, ?_, ?_, ?_⟩ <;> first | omega | assumption | trivial | rfl) | (refine ⟨?_, ?_, ?_, ?_, ?_, ?_⟩ <;> first | omega | assumption | trivial | rfl) | (refine ⟨?_, ?_, ?_, ?_, ?_, ?_, ?_⟩ <;> first | omega | assumption | trivial | rfl) | (refine ⟨?_, ?_, ?_, ?_, ?_, ?_, ?_, ?_⟩ <;> first | omega | assumption | trivial | rfl)) (show (129 - x4_79_9.toInt).toNat < (129 - y4_42_5.toInt).toNat from by omega)
              · refine ok_eq (fun c39 => ?_) (fun c39 => ?_)
                · exact ok_s trivial
                · refine ok_bx (fun x3_72_5 e_x3_72_5 => ?_)
                  try have t_x3_72_5 : x3_72_5.toInt = y3_42_5.toInt + (-1) := by rw [e_x3_72_5]; exact addT1 (show (-1 : Int32).toInt = -1 from by decide) (by omega) (by omega)
                  first | unfold J_X9_prime_75 | skip
                  refine ok_bx (fun x4_79_10 e_x4_79_10 => ?_)
                  try have t_x4_79_10 : x4_79_10.toInt = y4_42_5.toInt + 1 := by rw [e_x4_79_10]; exact addL1 (show (1 : Int64).toInt = 1 from by decide) (by omega) (by omega)
                  exact hih35 x3_72_5 x4_79_10 (show 1 ≤ x4_79_10.toInt ∧ x4_79_10.toInt ≤ 128 from by first | omega | assumption | trivial | (refine ⟨?_, ?_⟩ <;> first | omega | assumption | trivial | rfl) | (refine ⟨?_, ?_, ?_⟩ <;> first | omega | assumption | trivial | rfl) | (refine ⟨?_, ?_, ?_, ?_⟩ <;> first | omega | assumption | trivial | rfl) | (refine ⟨?_, ?_, ?_, ?_, ?_⟩ <;> first | omega | assumption | trivial | rfl) | (refine ⟨?_, ?_, ?_, ?_, ?_, ?_⟩ <;> first | omega | assumption | trivial | rfl) | (refine ⟨?_, ?_, ?_, ?_, ?_, ?_, ?_⟩ <;> first | omega | assumption | trivial | rfl) | (refine ⟨?_, ?_, ?_, ?_, ?_, ?_, ?_, ?_⟩ <;> first | omega | assumption | trivial | rfl)) (show (129 - x4_79_10.toInt).toNat < (129 - y4_42_5.toInt).toNat from by omega)
          · exact ok_s trivial
set_option maxHeartbeats 1000000 in
theorem sp_X9_period (c_t_thrown : Int32) (f_t_forms : Nat → Int64) (p0 : Int32) (p1 : Int32) (hp0 : FA f_t_forms) : ok (F_X9_period c_t_thrown f_t_forms p0 p1) (fun r => True) := by
  have lm932 : (-9 : Int32).toInt = -9 := by decide
  have l032 : (0 : Int32).toInt = 0 := by decide
  have l132 : (1 : Int32).toInt = 1 := by decide
  have l232 : (2 : Int32).toInt = 2 := by decide
  unfold F_X9_period
  refine ok_o (sp_X9_isForm p0 ) (fun r2 h1 => ?_)
  have h1 : (r2.toInt = 1 ∧ 0 ≤ p0.toInt ∧ p0.toInt ≤ 5) ∨ (r2.toInt = 0 ∧ (p0.toInt < 0 ∨ 6 ≤ p0.toInt)) := h1
  refine ok_eq (fun c2 => ?_) (fun c2 => ?_)
  · first | unfold J_X9_period_13 | skip
    refine ok_lt (fun c3 => ?_) (fun c3 => ?_)
    · first | unfold J_X9_period_22 | skip
      first | unfold J_X9_period_27 | skip
      refine ok_o2 (sp_X9_isThrown (1 : Int32) (1 : Int32) ) (fun r27 c_t_thrown_27 h4 => ?_)
      have h4 : (r27.toInt = 0 ∧ c_t_thrown_27.toInt = 0 ∧ (1 : Int32).toInt = 0 ∧ (1 : Int32).toInt = 0) ∨ (r27.toInt = 1 ∧ c_t_thrown_27.toInt = 1 ∧ (1 : Int32).toInt ≠ 0) ∨ (r27.toInt = 1 ∧ c_t_thrown_27.toInt = 2 ∧ (1 : Int32).toInt = 0 ∧ (1 : Int32).toInt ≠ 0) := h4
      refine ok_eq (fun c5 => ?_) (fun c5 => ?_)
      · refine ok_c (ixo (by omega) (by omega)) ?_
        try have a6 := FA_at (f := f_t_forms) (by assumption) p0.toNatClampNeg
        refine ok_o (sp_X9_isWheel (f_t_forms p0.toNatClampNeg) ) (fun r41 h7 => ?_)
        have h7 : (r41.toInt = 0 ∨ r41.toInt = 1) ∧ (r41.toInt ≠ 0 → WT (f_t_forms p0.toNatClampNeg)) := h7
        obtain ⟨h7_0, h7_1⟩ := h7
        refine ok_eq (fun c8 => ?_) (fun c8 => ?_)
        · exact ok_s trivial
        · refine ok_c (ixo (by omega) (by omega)) ?_
          try have a9 := FA_at (f := f_t_forms) (by assumption) p0.toNatClampNeg
          refine ok_o (sp_X9_periodOf (f_t_forms p0.toNatClampNeg) (by first | omega | assumption | trivial | exact wt_of (by assumption) (by omega))) (fun r53 h10 => ?_)
          exact ok_s trivial
      · exact ok_s trivial
    · refine ok_le (fun c11 => ?_) (fun c11 => ?_)
      · first | unfold J_X9_period_27 | skip
        refine ok_o2 (sp_X9_isThrown (1 : Int32) (0 : Int32) ) (fun r27_2 c_t_thrown_27_2 h12 => ?_)
        have h12 : (r27_2.toInt = 0 ∧ c_t_thrown_27_2.toInt = 0 ∧ (1 : Int32).toInt = 0 ∧ (0 : Int32).toInt = 0) ∨ (r27_2.toInt = 1 ∧ c_t_thrown_27_2.toInt = 1 ∧ (1 : Int32).toInt ≠ 0) ∨ (r27_2.toInt = 1 ∧ c_t_thrown_27_2.toInt = 2 ∧ (1 : Int32).toInt = 0 ∧ (0 : Int32).toInt ≠ 0) := h12
        refine ok_eq (fun c13 => ?_) (fun c13 => ?_)
        · refine ok_c (ixo (by omega) (by omega)) ?_
          try have a14 := FA_at (f := f_t_forms) (by assumption) p0.toNatClampNeg
          refine ok_o (sp_X9_isWheel (f_t_forms p0.toNatClampNeg) ) (fun r41_2 h15 => ?_)
          have h15 : (r41_2.toInt = 0 ∨ r41_2.toInt = 1) ∧ (r41_2.toInt ≠ 0 → WT (f_t_forms p0.toNatClampNeg)) := h15
          obtain ⟨h15_0, h15_1⟩ := h15
          refine ok_eq (fun c16 => ?_) (fun c16 => ?_)
          · exact ok_s trivial
          · refine ok_c (ixo (by omega) (by omega)) ?_
            try have a17 := FA_at (f := f_t_forms) (by assumption) p0.toNatClampNeg
            refine ok_o (sp_X9_periodOf (f_t_forms p0.toNatClampNeg) (by first | omega | assumption | trivial | exact wt_of (by assumption) (by omega))) (fun r53_2 h18 => ?_)
            exact ok_s trivial
        · exact ok_s trivial
      · first | unfold J_X9_period_22 | skip
        first | unfold J_X9_period_27 | skip
        refine ok_o2 (sp_X9_isThrown (1 : Int32) (1 : Int32) ) (fun r27_3 c_t_thrown_27_3 h19 => ?_)
        have h19 : (r27_3.toInt = 0 ∧ c_t_thrown_27_3.toInt = 0 ∧ (1 : Int32).toInt = 0 ∧ (1 : Int32).toInt = 0) ∨ (r27_3.toInt = 1 ∧ c_t_thrown_27_3.toInt = 1 ∧ (1 : Int32).toInt ≠ 0) ∨ (r27_3.toInt = 1 ∧ c_t_thrown_27_3.toInt = 2 ∧ (1 : Int32).toInt = 0 ∧ (1 : Int32).toInt ≠ 0) := h19
        refine ok_eq (fun c20 => ?_) (fun c20 => ?_)
        · refine ok_c (ixo (by omega) (by omega)) ?_
          try have a21 := FA_at (f := f_t_forms) (by assumption) p0.toNatClampNeg
          refine ok_o (sp_X9_isWheel (f_t_forms p0.toNatClampNeg) ) (fun r41_3 h22 => ?_)
          have h22 : (r41_3.toInt = 0 ∨ r41_3.toInt = 1) ∧ (r41_3.toInt ≠ 0 → WT (f_t_forms p0.toNatClampNeg)) := h22
          obtain ⟨h22_0, h22_1⟩ := h22
          refine ok_eq (fun c23 => ?_) (fun c23 => ?_)
          · exact ok_s trivial
          · refine ok_c (ixo (by omega) (by omega)) ?_
            try have a24 := FA_at (f := f_t_forms) (by assumption) p0.toNatClampNeg
            refine ok_o (sp_X9_periodOf (f_t_forms p0.toNatClampNeg) (by first | omega | assumption | trivial | exact wt_of (by assumption) (by omega))) (fun r53_3 h25 => ?_)
            exact ok_s trivial
        · exact ok_s trivial
  · first | unfold J_X9_period_13 | skip
    refine ok_lt (fun c26 => ?_) (fun c26 => ?_)
    · first | unfold J_X9_period_22 | skip
      first | unfold J_X9_period_27 | skip
      refine ok_o2 (sp_X9_isThrown (0 : Int32) (1 : Int32) ) (fun r27_4 c_t_thrown_27_4 h27 => ?_)
      have h27 : (r27_4.toInt = 0 ∧ c_t_thrown_27_4.toInt = 0 ∧ (0 : Int32).toInt = 0 ∧ (1 : Int32).toInt = 0) ∨ (r27_4.toInt = 1 ∧ c_t_thrown_27_4.toInt = 1 ∧ (0 : Int32).toInt ≠ 0) ∨ (r27_4.toInt = 1 ∧ c_t_thrown_27_4.toInt = 2 ∧ (0 : Int32).toInt = 0 ∧ (1 : Int32).toInt ≠ 0) := h27
      refine ok_eq (fun c28 => ?_) (fun c28 => ?_)
      · refine ok_c (ixo (by omega) (by omega)) ?_
        try have a29 := FA_at (f := f_t_forms) (by assumption) p0.toNatClampNeg
        refine ok_o (sp_X9_isWheel (f_t_forms p0.toNatClampNeg) ) (fun r41_4 h30 => ?_)
        have h30 : (r41_4.toInt = 0 ∨ r41_4.toInt = 1) ∧ (r41_4.toInt ≠ 0 → WT (f_t_forms p0.toNatClampNeg)) := h30
        obtain ⟨h30_0, h30_1⟩ := h30
        refine ok_eq (fun c31 => ?_) (fun c31 => ?_)
        · exact ok_s trivial
        · refine ok_c (ixo (by omega) (by omega)) ?_
          try have a32 := FA_at (f := f_t_forms) (by assumption) p0.toNatClampNeg
          refine ok_o (sp_X9_periodOf (f_t_forms p0.toNatClampNeg) (by first | omega | assumption | trivial | exact wt_of (by assumption) (by omega))) (fun r53_4 h33 => ?_)
          exact ok_s trivial
      · exact ok_s trivial
    · refine ok_le (fun c34 => ?_) (fun c34 => ?_)
      · first | unfold J_X9_period_27 | skip
        refine ok_o2 (sp_X9_isThrown (0 : Int32) (0 : Int32) ) (fun r27_5 c_t_thrown_27_5 h35 => ?_)
        have h35 : (r27_5.toInt = 0 ∧ c_t_thrown_27_5.toInt = 0 ∧ (0 : Int32).toInt = 0 ∧ (0 : Int32).toInt = 0) ∨ (r27_5.toInt = 1 ∧ c_t_thrown_27_5.toInt = 1 ∧ (0 : Int32).toInt ≠ 0) ∨ (r27_5.toInt = 1 ∧ c_t_thrown_27_5.toInt = 2 ∧ (0 : Int32).toInt = 0 ∧ (0 : Int32).toInt ≠ 0) := h35
        refine ok_eq (fun c36 => ?_) (fun c36 => ?_)
        · refine ok_c (ixo (by omega) (by omega)) ?_
          try have a37 := FA_at (f := f_t_forms) (by assumption) p0.toNatClampNeg
          refine ok_o (sp_X9_isWheel (f_t_forms p0.toNatClampNeg) ) (fun r41_5 h38 => ?_)
          have h38 : (r41_5.toInt = 0 ∨ r41_5.toInt = 1) ∧ (r41_5.toInt ≠ 0 → WT (f_t_forms p0.toNatClampNeg)) := h38
          obtain ⟨h38_0, h38_1⟩ := h38
          refine ok_eq (fun c39 => ?_) (fun c39 => ?_)
          · exact ok_s trivial
          · refine ok_c (ixo (by omega) (by omega)) ?_
            try have a40 := FA_at (f := f_t_forms) (by assumption) p0.toNatClampNeg
            refine ok_o (sp_X9_periodOf (f_t_forms p0.toNatClampNeg) (by first | omega | assumption | trivial | exact wt_of (by assumption) (by omega))) (fun r53_5 h41 => ?_)
            exact ok_s trivial
        · exact ok_s trivial
      · first | unfold J_X9_period_22 | skip
        first | unfold J_X9_period_27 | skip
        refine ok_o2 (sp_X9_isThrown (0 : Int32) (1 : Int32) ) (fun r27_6 c_t_thrown_27_6 h42 => ?_)
        have h42 : (r27_6.toInt = 0 ∧ c_t_thrown_27_6.toInt = 0 ∧ (0 : Int32).toInt = 0 ∧ (1 : Int32).toInt = 0) ∨ (r27_6.toInt = 1 ∧ c_t_thrown_27_6.toInt = 1 ∧ (0 : Int32).toInt ≠ 0) ∨ (r27_6.toInt = 1 ∧ c_t_thrown_27_6.toInt = 2 ∧ (0 : Int32).toInt = 0 ∧ (1 : Int32).toInt ≠ 0) := h42
        refine ok_eq (fun c43 => ?_) (fun c43 => ?_)
        · refine ok_c (ixo (by omega) (by omega)) ?_
          try have a44 := FA_at (f := f_t_forms) (by assumption) p0.toNatClampNeg
          refine ok_o (sp_X9_isWheel (f_t_forms p0.toNatClampNeg) ) (fun r41_6 h45 => ?_)
          have h45 : (r41_6.toInt = 0 ∨ r41_6.toInt = 1) ∧ (r41_6.toInt ≠ 0 → WT (f_t_forms p0.toNatClampNeg)) := h45
          obtain ⟨h45_0, h45_1⟩ := h45
          refine ok_eq (fun c46 => ?_) (fun c46 => ?_)
          · exact ok_s trivial
          · refine ok_c (ixo (by omega) (by omega)) ?_
            try have a47 := FA_at (f := f_t_forms) (by assumption) p0.toNatClampNeg
            refine ok_o (sp_X9_periodOf (f_t_forms p0.toNatClampNeg) (by first | omega | assumption | trivial | exact wt_of (by assumption) (by omega))) (fun r53_6 h48 => ?_)
            exact ok_s trivial
        · exact ok_s trivial
set_option maxHeartbeats 1000000 in
theorem sp_X9_rollText (c_t_many : Int32) (f_t_roll : Nat → Int64) (p0 : Int32) (hp0 : 0 ≤ c_t_many.toInt) (hp1 : c_t_many.toInt ≤ 12) (hp2 : FA f_t_roll) : ok (F_X9_rollText c_t_many f_t_roll p0) (fun r => True) := by
  have l032 : (0 : Int32).toInt = 0 := by decide
  have l132 : (1 : Int32).toInt = 1 := by decide
  unfold F_X9_rollText
  refine ok_lt (fun c1 => ?_) (fun c1 => ?_)
  · refine ok_o2 (sp_X9_isThrown_ (1 : Int32) ) (fun r18 c_t_thrown_18 h2 => ?_)
    have h2 : (r18.toInt = 0 ∧ c_t_thrown_18.toInt = 0 ∧ (1 : Int32).toInt = 0) ∨ (r18.toInt = 1 ∧ c_t_thrown_18.toInt = 1 ∧ (1 : Int32).toInt ≠ 0) := h2
    refine ok_eq (fun c3 => ?_) (fun c3 => ?_)
    · refine ok_c (ixo (by omega) (by omega)) ?_
      try have a4 := FA_at (f := f_t_roll) (by assumption) p0.toNatClampNeg
      refine ok_o (sp_X9_textOf (f_t_roll p0.toNatClampNeg) (by first | omega | assumption | trivial | exact wt_of (by assumption) (by omega))) (fun u35 h5 => ?_)
      exact ok_s trivial
    · exact ok_s trivial
  · refine ok_lt (fun c6 => ?_) (fun c6 => ?_)
    · refine ok_o2 (sp_X9_isThrown_ (0 : Int32) ) (fun r18_2 c_t_thrown_18_2 h7 => ?_)
      have h7 : (r18_2.toInt = 0 ∧ c_t_thrown_18_2.toInt = 0 ∧ (0 : Int32).toInt = 0) ∨ (r18_2.toInt = 1 ∧ c_t_thrown_18_2.toInt = 1 ∧ (0 : Int32).toInt ≠ 0) := h7
      refine ok_eq (fun c8 => ?_) (fun c8 => ?_)
      · refine ok_c (ixo (by omega) (by omega)) ?_
        try have a9 := FA_at (f := f_t_roll) (by assumption) p0.toNatClampNeg
        refine ok_o (sp_X9_textOf (f_t_roll p0.toNatClampNeg) (by first | omega | assumption | trivial | exact wt_of (by assumption) (by omega))) (fun u35_2 h10 => ?_)
        exact ok_s trivial
      · exact ok_s trivial
    · refine ok_o2 (sp_X9_isThrown_ (1 : Int32) ) (fun r18_3 c_t_thrown_18_3 h11 => ?_)
      have h11 : (r18_3.toInt = 0 ∧ c_t_thrown_18_3.toInt = 0 ∧ (1 : Int32).toInt = 0) ∨ (r18_3.toInt = 1 ∧ c_t_thrown_18_3.toInt = 1 ∧ (1 : Int32).toInt ≠ 0) := h11
      refine ok_eq (fun c12 => ?_) (fun c12 => ?_)
      · refine ok_c (ixo (by omega) (by omega)) ?_
        try have a13 := FA_at (f := f_t_roll) (by assumption) p0.toNatClampNeg
        refine ok_o (sp_X9_textOf (f_t_roll p0.toNatClampNeg) (by first | omega | assumption | trivial | exact wt_of (by assumption) (by omega))) (fun u35_3 h14 => ?_)
        exact ok_s trivial
      · exact ok_s trivial
set_option maxHeartbeats 1000000 in
theorem sp_X9_rowText (c_t_taps : Int64) (c_t_cells : Int32) (hp0 : CT c_t_taps c_t_cells) : ok (F_X9_rowText c_t_taps c_t_cells) (fun r => True) := by
  have l032 : (0 : Int32).toInt = 0 := by decide
  have l132 : (1 : Int32).toInt = 1 := by decide
  have hct := CT_g hp0
  unfold F_X9_rowText
  refine ok_o3 (sp_J4_init_da8c8  ) (fun c_n5_coder_9 n_n5_value_9 f_n5_value_9 h1 => ?_)
  have h1 : c_n5_coder_9 = 0 ∧ CAP n_n5_value_9 ∧ n_n5_value_9 = 16 ∧ BY f_n5_value_9 := h1
  obtain ⟨h1_0, h1_1, h1_2, h1_3⟩ := h1
  refine ok_L4 (fun y2_15 c_n5_count_15 n_n5_value_15 f_n5_value_15 => CAP n_n5_value_15 ∧ BY f_n5_value_15 ∧ 0 ≤ y2_15.toInt ∧ y2_15.toInt ≤ 64 ∧ 0 ≤ c_n5_count_15.toInt ∧ c_n5_count_15.toInt ≤ (n_n5_value_15 : Int) ∧ c_n5_count_15.toInt ≤ 3 * (y2_15.toInt)) (fun y2_15 c_n5_count_15 n_n5_value_15 f_n5_value_15 => (65 - y2_15.toInt).toNat) (fun ih15 y2_15 c_n5_count_15 n_n5_value_15 f_n5_value_15 hI2 hih2 => ?_) 66 (0 : Int32) (0 : Int32) n_n5_value_9 f_n5_value_9 (show CAP n_n5_value_9 ∧ BY f_n5_value_9 ∧ 0 ≤ (0 : Int32).toInt ∧ (0 : Int32).toInt ≤ 64 ∧ 0 ≤ (0 : Int32).toInt ∧ (0 : Int32).toInt ≤ (n_n5_value_9 : Int) ∧ (0 : Int32).toInt ≤ 3 * ((0 : Int32).toInt) from by first | omega | assumption | trivial | (refine ⟨?_, ?_⟩ <;> first | omega | assumption | trivial | rfl) | (refine ⟨?_, ?_, ?_⟩ <;> first | omega | assumption | trivial | rfl) | (refine ⟨?_, ?_, ?_, ?_⟩ <;> first | omega | assumption | trivial | rfl) | (refine ⟨?_, ?_, ?_, ?_, ?_⟩ <;> first | omega | assumption | trivial | rfl) | (refine ⟨?_, ?_, ?_, ?_, ?_, ?_⟩ <;> first | omega | assumption | trivial | rfl) | (refine ⟨?_, ?_, ?_, ?_, ?_, ?_, ?_⟩ <;> first | omega | assumption | trivial | rfl) | (refine ⟨?_, ?_, ?_, ?_, ?_, ?_, ?_, ?_⟩ <;> first | omega | assumption | trivial | rfl)) (show (65 - (0 : Int32).toInt).toNat < 66 from by omega)
  have hI2 : CAP n_n5_value_15 ∧ BY f_n5_value_15 ∧ 0 ≤ y2_15.toInt ∧ y2_15.toInt ≤ 64 ∧ 0 ≤ c_n5_count_15.toInt ∧ c_n5_count_15.toInt ≤ (n_n5_value_15 : Int) ∧ c_n5_count_15.toInt ≤ 3 * (y2_15.toInt) := hI2
  obtain ⟨hI2_0, hI2_1, hI2_2, hI2_3, hI2_4, hI2_5, hI2_6⟩ := hI2
  unfold S_X9_rowText_15
  refine ok_o (sp_X9_degreeOf c_t_taps ) (fun r20 h3 => ?_)
  have h3 : r20.toInt = DG c_t_taps ∧ -1 ≤ r20.toInt ∧ r20.toInt ≤ 63 := h3
  refine ok_le (fun c4 => ?_) (fun c4 => ?_)
  · refine ok_o (sp_J4_toString_0e30d c_n5_coder_9 c_n5_count_15 n_n5_value_15 f_n5_value_15 (by first | omega | assumption | trivial | exact wt_of (by assumption) (by omega)) (by first | omega | assumption | trivial | exact wt_of (by assumption) (by omega)) (by first | omega | assumption | trivial | exact wt_of (by assumption) (by omega)) (by first | omega | assumption | trivial | exact wt_of (by assumption) (by omega)) (by first | omega | assumption | trivial | exact wt_of (by assumption) (by omega))) (fun u46 h5 => ?_)
    exact ok_s trivial
  · have hb := and1k (c_t_cells >>> (y2_15 &&& 31))
    refine ok_o3 (sp_J4_append_bf812 c_n5_coder_9 c_n5_count_15 n_n5_value_15 f_n5_value_15 ((c_t_cells >>> (y2_15 &&& 31)) &&& (1 : Int32)) (by first | omega | assumption | trivial | exact wt_of (by assumption) (by omega)) (by first | omega | assumption | trivial | exact wt_of (by assumption) (by omega)) (by first | omega | assumption | trivial | exact wt_of (by assumption) (by omega)) (by first | omega | assumption | trivial | exact wt_of (by assumption) (by omega)) (by first | omega | assumption | trivial | exact wt_of (by assumption) (by omega)) (by first | omega | assumption | trivial | exact wt_of (by assumption) (by omega)) (by first | omega | assumption | trivial | exact wt_of (by assumption) (by omega)) (by first | omega | assumption | trivial | exact wt_of (by assumption) (by omega))) (fun c_n5_count_35 n_n5_value_35 f_n5_value_35 h6 => ?_)
    have h6 : c_n5_count_15.toInt + 1 ≤ c_n5_count_35.toInt ∧ c_n5_count_35.toInt ≤ c_n5_count_15.toInt + 2 ∧ c_n5_count_35.toInt ≤ n_n5_value_35 ∧ CAP n_n5_value_35 ∧ BY f_n5_value_35 := h6
    obtain ⟨h6_0, h6_1, h6_2, h6_3, h6_4⟩ := h6
    refine ok_bx (fun x2_39 e_x2_39 => ?_)
    try have t_x2_39 : x2_39.toInt = y2_15.toInt + 1 := by rw [e_x2_39]; exact addT1 (show (1 : Int32).toInt = 1 from by decide) (by omega) (by omega)
    exact hih2 x2_39 c_n5_count_35 n_n5_value_35 f_n5_value_35 (show CAP n_n5_value_35 ∧ BY f_n5_value_35 ∧ 0 ≤ x2_39.toInt ∧ x2_39.toInt ≤ 64 ∧ 0 ≤ c_n5_count_35.toInt ∧ c_n5_count_35.toInt ≤ (n_n5_value_35 : Int) ∧ c_n5_count_35.toInt ≤ 3 * (x2_39.toInt) from by first | omega | assumption | trivial | (refine ⟨?_, ?_⟩ <;> first | omega | assumption | trivial | rfl) | (refine ⟨?_, ?_, ?_⟩ <;> first | omega | assumption | trivial | rfl) | (refine ⟨?_, ?_, ?_, ?_⟩ <;> first | omega | assumption | trivial | rfl) | (refine ⟨?_, ?_, ?_, ?_, ?_⟩ <;> first | omega | assumption | trivial | rfl) | (refine ⟨?_, ?_, ?_, ?_, ?_, ?_⟩ <;> first | omega | assumption | trivial | rfl) | (refine ⟨?_, ?_, ?_, ?_, ?_, ?_, ?_⟩ <;> first | omega | assumption | trivial | rfl) | (refine ⟨?_, ?_, ?_, ?_, ?_, ?_, ?_, ?_⟩ <;> first | omega | assumption | trivial | rfl)) (show (65 - x2_39.toInt).toNat < (65 - y2_15.toInt).toNat from by omega)
set_option maxHeartbeats 1000000 in
theorem sp_X9_told (c_t_many : Int32) (c_t_taps : Int64) (c_t_acts : Int32) (c_t_refused : Int32) (c_t_knocks : Int32) (f_t_forms : Nat → Int64) (p0 : Int32) (hp0 : 0 ≤ c_t_many.toInt) (hp1 : c_t_many.toInt ≤ 12) (hp2 : FA f_t_forms) : ok (F_X9_told c_t_many c_t_taps c_t_acts c_t_refused c_t_knocks f_t_forms p0) (fun r => True) := by
  have l032 : (0 : Int32).toInt = 0 := by decide
  have l132 : (1 : Int32).toInt = 1 := by decide
  have l232 : (2 : Int32).toInt = 2 := by decide
  have l332 : (3 : Int32).toInt = 3 := by decide
  have l432 : (4 : Int32).toInt = 4 := by decide
  have l632 : (6 : Int32).toInt = 6 := by decide
  unfold F_X9_told
  refine ok_L2 (fun y2_14 y5_14 => 0 ≤ y5_14.toInt) (fun y2_14 y5_14 => (7 - y5_14.toInt).toNat) (fun ih14 y2_14 y5_14 hI1 hih1 => ?_) 20000 (0 : Int32) (0 : Int32) (show 0 ≤ (0 : Int32).toInt from by first | omega | assumption | trivial | (refine ⟨?_, ?_⟩ <;> first | omega | assumption | trivial | rfl) | (refine ⟨?_, ?_, ?_⟩ <;> first | omega | assumption | trivial | rfl) | (refine ⟨?_, ?_, ?_, ?_⟩ <;> first | omega | assumption | trivial | rfl) | (refine ⟨?_, ?_, ?_, ?_, ?_⟩ <;> first | omega | assumption | trivial | rfl) | (refine ⟨?_, ?_, ?_, ?_, ?_, ?_⟩ <;> first | omega | assumption | trivial | rfl) | (refine ⟨?_, ?_, ?_, ?_, ?_, ?_, ?_⟩ <;> first | omega | assumption | trivial | rfl) | (refine ⟨?_, ?_, ?_, ?_, ?_, ?_, ?_, ?_⟩ <;> first | omega | assumption | trivial | rfl)) (show (7 - (0 : Int32).toInt).toNat < 20000 from by omega)
  have hI1 : 0 ≤ y5_14.toInt := hI1
  unfold S_X9_told_14
  refine ok_le (fun c2 => ?_) (fun c2 => ?_)
  · refine ok_eq (fun c3 => ?_) (fun c3 => ?_)
    · exact ok_s trivial
    · refine ok_eq (fun c4 => ?_) (fun c4 => ?_)
      · exact ok_s trivial
      · refine ok_eq (fun c5 => ?_) (fun c5 => ?_)
        · exact ok_s trivial
        · refine ok_eq (fun c6 => ?_) (fun c6 => ?_)
          · exact ok_s trivial
          · refine ok_eq (fun c7 => ?_) (fun c7 => ?_)
            · exact ok_s trivial
            · exact ok_s trivial
  · refine ok_c (ixo (by omega) (by omega)) ?_
    try have a8 := FA_at (f := f_t_forms) (by assumption) y5_14.toNatClampNeg
    refine ok_bx (fun x6_25 e_x6_25 => ?_)
    try have q_x6_25 : DG x6_25 = DG (f_t_forms y5_14.toNatClampNeg) := by rw [e_x6_25]
    try have d_x6_25 : -1 ≤ DG x6_25 ∧ DG x6_25 ≤ 39 := by rw [e_x6_25]; exact FA_at (by assumption) _
    refine ok_o (sp_X9_onesOf x6_25 ) (fun r30 h9 => ?_)
    have h9 : 0 ≤ r30.toInt ∧ r30.toInt ≤ 127 := h9
    refine ok_bx (fun x2_34 e_x2_34 => ?_)
    try have t_x2_34 : x2_34.toInt = y2_14.toInt + r30.toInt := by rw [e_x2_34]; exact addT1 (Eq.refl _) (by omega) (by omega)
    refine ok_bx (fun x5_35 e_x5_35 => ?_)
    try have t_x5_35 : x5_35.toInt = y5_14.toInt + 1 := by rw [e_x5_35]; exact addT1 (show (1 : Int32).toInt = 1 from by decide) (by omega) (by omega)
    exact hih1 x2_34 x5_35 (show 0 ≤ x5_35.toInt from by first | omega | assumption | trivial | (refine ⟨?_, ?_⟩ <;> first | omega | assumption | trivial | rfl) | (refine ⟨?_, ?_, ?_⟩ <;> first | omega | assumption | trivial | rfl) | (refine ⟨?_, ?_, ?_, ?_⟩ <;> first | omega | assumption | trivial | rfl) | (refine ⟨?_, ?_, ?_, ?_, ?_⟩ <;> first | omega | assumption | trivial | rfl) | (refine ⟨?_, ?_, ?_, ?_, ?_, ?_⟩ <;> first | omega | assumption | trivial | rfl) | (refine ⟨?_, ?_, ?_, ?_, ?_, ?_, ?_⟩ <;> first | omega | assumption | trivial | rfl) | (refine ⟨?_, ?_, ?_, ?_, ?_, ?_, ?_, ?_⟩ <;> first | omega | assumption | trivial | rfl)) (show (7 - x5_35.toInt).toNat < (7 - y5_14.toInt).toNat from by omega)
set_option maxHeartbeats 1000000 in
theorem sp_X9_house (c_t_many : Int32) (c_t_taps : Int64) (c_t_acts : Int32) (c_t_refused : Int32) (c_t_knocks : Int32) (f_t_forms : Nat → Int64) (p0 : Int32) (hp0 : 0 ≤ c_t_many.toInt) (hp1 : c_t_many.toInt ≤ 12) (hp2 : FA f_t_forms) : ok (F_X9_house c_t_many c_t_taps c_t_acts c_t_refused c_t_knocks f_t_forms p0) (fun r => True) := by
  have l032 : (0 : Int32).toInt = 0 := by decide
  have l132 : (1 : Int32).toInt = 1 := by decide
  have l532 : (5 : Int32).toInt = 5 := by decide
  unfold F_X9_house
  refine ok_lt (fun c1 => ?_) (fun c1 => ?_)
  · refine ok_o2 (sp_X9_isThrown_ (1 : Int32) ) (fun r15 c_t_thrown_15 h2 => ?_)
    have h2 : (r15.toInt = 0 ∧ c_t_thrown_15.toInt = 0 ∧ (1 : Int32).toInt = 0) ∨ (r15.toInt = 1 ∧ c_t_thrown_15.toInt = 1 ∧ (1 : Int32).toInt ≠ 0) := h2
    refine ok_eq (fun c3 => ?_) (fun c3 => ?_)
    · refine ok_o (sp_X9_told c_t_many c_t_taps c_t_acts c_t_refused c_t_knocks f_t_forms p0 (by first | omega | assumption | trivial | exact wt_of (by assumption) (by omega)) (by first | omega | assumption | trivial | exact wt_of (by assumption) (by omega)) (by first | omega | assumption | trivial | exact wt_of (by assumption) (by omega))) (fun r27 h4 => ?_)
      exact ok_s trivial
    · exact ok_s trivial
  · refine ok_le (fun c5 => ?_) (fun c5 => ?_)
    · refine ok_o2 (sp_X9_isThrown_ (0 : Int32) ) (fun r15_2 c_t_thrown_15_2 h6 => ?_)
      have h6 : (r15_2.toInt = 0 ∧ c_t_thrown_15_2.toInt = 0 ∧ (0 : Int32).toInt = 0) ∨ (r15_2.toInt = 1 ∧ c_t_thrown_15_2.toInt = 1 ∧ (0 : Int32).toInt ≠ 0) := h6
      refine ok_eq (fun c7 => ?_) (fun c7 => ?_)
      · refine ok_o (sp_X9_told c_t_many c_t_taps c_t_acts c_t_refused c_t_knocks f_t_forms p0 (by first | omega | assumption | trivial | exact wt_of (by assumption) (by omega)) (by first | omega | assumption | trivial | exact wt_of (by assumption) (by omega)) (by first | omega | assumption | trivial | exact wt_of (by assumption) (by omega))) (fun r27_2 h8 => ?_)
        exact ok_s trivial
      · exact ok_s trivial
    · refine ok_o2 (sp_X9_isThrown_ (1 : Int32) ) (fun r15_3 c_t_thrown_15_3 h9 => ?_)
      have h9 : (r15_3.toInt = 0 ∧ c_t_thrown_15_3.toInt = 0 ∧ (1 : Int32).toInt = 0) ∨ (r15_3.toInt = 1 ∧ c_t_thrown_15_3.toInt = 1 ∧ (1 : Int32).toInt ≠ 0) := h9
      refine ok_eq (fun c10 => ?_) (fun c10 => ?_)
      · refine ok_o (sp_X9_told c_t_many c_t_taps c_t_acts c_t_refused c_t_knocks f_t_forms p0 (by first | omega | assumption | trivial | exact wt_of (by assumption) (by omega)) (by first | omega | assumption | trivial | exact wt_of (by assumption) (by omega)) (by first | omega | assumption | trivial | exact wt_of (by assumption) (by omega))) (fun r27_3 h11 => ?_)
        exact ok_s trivial
      · exact ok_s trivial
set_option maxHeartbeats 1000000 in
theorem sp_X9_knock (c_t_knocks : Int32)  : ok (F_X9_knock c_t_knocks) (fun r => r.1 = c_t_knocks + 1 ∧ r.2.1 = c_t_knocks + 1) := by
  have l032 : (0 : Int32).toInt = 0 := by decide
  have l132 : (1 : Int32).toInt = 1 := by decide
  unfold F_X9_knock
  refine ok_bx (fun c_t_knocks_12 e_c_t_knocks_12 => ?_)
  try have t_c_t_knocks_12 : c_t_knocks_12.toInt = c_t_knocks.toInt + 1 := by rw [e_c_t_knocks_12]; exact addT1 (show (1 : Int32).toInt = 1 from by decide) (by omega) (by omega)
  exact ok_s (show c_t_knocks_12 = c_t_knocks + 1 ∧ c_t_knocks_12 = c_t_knocks + 1 from by exact ⟨e_c_t_knocks_12, e_c_t_knocks_12⟩)
set_option maxHeartbeats 1000000 in
theorem sp_X9_isSound   : ok (F_X9_isSound) (fun r => True) := by
  have l032 : (0 : Int32).toInt = 0 := by decide
  have l132 : (1 : Int32).toInt = 1 := by decide
  unfold F_X9_isSound
  exact ok_s trivial
set_option maxHeartbeats 1000000 in
theorem sp_X9_add_ (p0 : Int64) (p1 : Int64)  : ok (F_X9_add_ p0 p1) (fun r => True) := by
  have l3164 : (31 : Int64).toInt = 31 := by decide
  unfold F_X9_add_
  exact ok_s trivial
set_option maxHeartbeats 1000000 in
theorem sp_X9_digest (c_t_many : Int32) (c_t_taps : Int64) (c_t_cells : Int32) (c_t_acts : Int32) (c_t_refused : Int32) (c_t_knocks : Int32) (f_t_forms : Nat → Int64) (f_t_roll : Nat → Int64) (hp0 : 0 ≤ c_t_many.toInt) (hp1 : c_t_many.toInt ≤ 12) (hp2 : FA f_t_forms) (hp3 : FA f_t_roll) (hp4 : CT c_t_taps c_t_cells) : ok (F_X9_digest c_t_many c_t_taps c_t_cells c_t_acts c_t_refused c_t_knocks f_t_forms f_t_roll) (fun r => True) := by
  have lm132 : (-1 : Int32).toInt = -1 := by decide
  have l032 : (0 : Int32).toInt = 0 := by decide
  have l132 : (1 : Int32).toInt = 1 := by decide
  have l164 : (1 : Int64).toInt = 1 := by decide
  have l532 : (5 : Int32).toInt = 5 := by decide
  have l632 : (6 : Int32).toInt = 6 := by decide
  have l3932 : (39 : Int32).toInt = 39 := by decide
  have l802964 : (8029 : Int64).toInt = 8029 := by decide
  unfold F_X9_digest
  refine ok_L2 (fun y1_21 y5_21 => 0 ≤ y5_21.toInt) (fun y1_21 y5_21 => (7 - y5_21.toInt).toNat) (fun ih21 y1_21 y5_21 hI1 hih1 => ?_) 20000 (8029 : Int64) (0 : Int32) (show 0 ≤ (0 : Int32).toInt from by first | omega | assumption | trivial | (refine ⟨?_, ?_⟩ <;> first | omega | assumption | trivial | rfl) | (refine ⟨?_, ?_, ?_⟩ <;> first | omega | assumption | trivial | rfl) | (refine ⟨?_, ?_, ?_, ?_⟩ <;> first | omega | assumption | trivial | rfl) | (refine ⟨?_, ?_, ?_, ?_, ?_⟩ <;> first | omega | assumption | trivial | rfl) | (refine ⟨?_, ?_, ?_, ?_, ?_, ?_⟩ <;> first | omega | assumption | trivial | rfl) | (refine ⟨?_, ?_, ?_, ?_, ?_, ?_, ?_⟩ <;> first | omega | assumption | trivial | rfl) | (refine ⟨?_, ?_, ?_, ?_, ?_, ?_, ?_, ?_⟩ <;> first | omega | assumption | trivial | rfl)) (show (7 - (0 : Int32).toInt).toNat < 20000 from by omega)
  have hI1 : 0 ≤ y5_21.toInt := hI1
  unfold S_X9_digest_21
  refine ok_le (fun c2 => ?_) (fun c2 => ?_)
  · refine ok_o (sp_X9_add_ y1_21 c_t_many.toInt64 ) (fun r105 h3 => ?_)
    refine ok_L2 (fun y1_111 y3_111 => 0 ≤ y3_111.toInt) (fun y1_111 y3_111 => (c_t_many.toInt - y3_111.toInt + 1).toNat) (fun ih111 y1_111 y3_111 hI4 hih4 => ?_) 20000 r105 (0 : Int32) (show 0 ≤ (0 : Int32).toInt from by first | omega | assumption | trivial | (refine ⟨?_, ?_⟩ <;> first | omega | assumption | trivial | rfl) | (refine ⟨?_, ?_, ?_⟩ <;> first | omega | assumption | trivial | rfl) | (refine ⟨?_, ?_, ?_, ?_⟩ <;> first | omega | assumption | trivial | rfl) | (refine ⟨?_, ?_, ?_, ?_, ?_⟩ <;> first | omega | assumption | trivial | rfl) | (refine ⟨?_, ?_, ?_, ?_, ?_, ?_⟩ <;> first | omega | assumption | trivial | rfl) | (refine ⟨?_, ?_, ?_, ?_, ?_, ?_, ?_⟩ <;> first | omega | assumption | trivial | rfl) | (refine ⟨?_, ?_, ?_, ?_, ?_, ?_, ?_, ?_⟩ <;> first | omega | assumption | trivial | rfl)) (show (c_t_many.toInt - (0 : Int32).toInt + 1).toNat < 20000 from by omega)
    have hI4 : 0 ≤ y3_111.toInt := hI4
    unfold S_X9_digest_111
    refine ok_le (fun c5 => ?_) (fun c5 => ?_)
    · refine ok_o (sp_X9_add_ y1_111 c_t_taps ) (fun r158 h6 => ?_)
      refine ok_L2 (fun y1_164 y3_164 => 0 ≤ y3_164.toInt) (fun y1_164 y3_164 => (70 - y3_164.toInt).toNat) (fun ih164 y1_164 y3_164 hI7 hih7 => ?_) 20000 r158 (0 : Int32) (show 0 ≤ (0 : Int32).toInt from by first | omega | assumption | trivial | (refine ⟨?_, ?_⟩ <;> first | omega | assumption | trivial | rfl) | (refine ⟨?_, ?_, ?_⟩ <;> first | omega | assumption | trivial | rfl) | (refine ⟨?_, ?_, ?_, ?_⟩ <;> first | omega | assumption | trivial | rfl) | (refine ⟨?_, ?_, ?_, ?_, ?_⟩ <;> first | omega | assumption | trivial | rfl) | (refine ⟨?_, ?_, ?_, ?_, ?_, ?_⟩ <;> first | omega | assumption | trivial | rfl) | (refine ⟨?_, ?_, ?_, ?_, ?_, ?_, ?_⟩ <;> first | omega | assumption | trivial | rfl) | (refine ⟨?_, ?_, ?_, ?_, ?_, ?_, ?_, ?_⟩ <;> first | omega | assumption | trivial | rfl)) (show (70 - (0 : Int32).toInt).toNat < 20000 from by omega)
      have hI7 : 0 ≤ y3_164.toInt := hI7
      unfold S_X9_digest_164
      refine ok_o (sp_X9_degreeOf c_t_taps ) (fun r169 h8 => ?_)
      have h8 : r169.toInt = DG c_t_taps ∧ -1 ≤ r169.toInt ∧ r169.toInt ≤ 63 := h8
      refine ok_le (fun c9 => ?_) (fun c9 => ?_)
      · refine ok_L2 (fun y1_197 y3_197 => 0 ≤ y3_197.toInt) (fun y1_197 y3_197 => (6 - y3_197.toInt).toNat) (fun ih197 y1_197 y3_197 hI10 hih10 => ?_) 20000 y1_164 (0 : Int32) (show 0 ≤ (0 : Int32).toInt from by first | omega | assumption | trivial | (refine ⟨?_, ?_⟩ <;> first | omega | assumption | trivial | rfl) | (refine ⟨?_, ?_, ?_⟩ <;> first | omega | assumption | trivial | rfl) | (refine ⟨?_, ?_, ?_, ?_⟩ <;> first | omega | assumption | trivial | rfl) | (refine ⟨?_, ?_, ?_, ?_, ?_⟩ <;> first | omega | assumption | trivial | rfl) | (refine ⟨?_, ?_, ?_, ?_, ?_, ?_⟩ <;> first | omega | assumption | trivial | rfl) | (refine ⟨?_, ?_, ?_, ?_, ?_, ?_, ?_⟩ <;> first | omega | assumption | trivial | rfl) | (refine ⟨?_, ?_, ?_, ?_, ?_, ?_, ?_, ?_⟩ <;> first | omega | assumption | trivial | rfl)) (show (6 - (0 : Int32).toInt).toNat < 20000 from by omega)
        have hI10 : 0 ≤ y3_197.toInt := hI10
        unfold S_X9_digest_197
        refine ok_lt (fun c11 => ?_) (fun c11 => ?_)
        · refine ok_o (sp_X9_add_ y1_197 (1 : Int64) ) (fun r221 h12 => ?_)
          exact ok_s trivial
        · refine ok_o (sp_X9_told c_t_many c_t_taps c_t_acts c_t_refused c_t_knocks f_t_forms y3_197 (by first | omega | assumption | trivial | exact wt_of (by assumption) (by omega)) (by first | omega | assumption | trivial | exact wt_of (by assumption) (by omega)) (by first | omega | assumption | trivial | exact wt_of (by assumption) (by omega))) (fun r205 h13 => ?_)
          refine ok_o (sp_X9_add_ y1_197 r205.toInt64 ) (fun r209 h14 => ?_)
          refine ok_bx (fun x3_213 e_x3_213 => ?_)
          try have t_x3_213 : x3_213.toInt = y3_197.toInt + 1 := by rw [e_x3_213]; exact addT1 (show (1 : Int32).toInt = 1 from by decide) (by omega) (by omega)
          exact hih10 r209 x3_213 (show 0 ≤ x3_213.toInt from by first | omega | assumption | trivial | (refine ⟨?_, ?_⟩ <;> first | omega | assumption | trivial | rfl) | (refine ⟨?_, ?_, ?_⟩ <;> first | omega | assumption | trivial | rfl) | (refine ⟨?_, ?_, ?_, ?_⟩ <;> first | omega | assumption | trivial | rfl) | (refine ⟨?_, ?_, ?_, ?_, ?_⟩ <;> first | omega | assumption | trivial | rfl) | (refine ⟨?_, ?_, ?_, ?_, ?_, ?_⟩ <;> first | omega | assumption | trivial | rfl) | (refine ⟨?_, ?_, ?_, ?_, ?_, ?_, ?_⟩ <;> first | omega | assumption | trivial | rfl) | (refine ⟨?_, ?_, ?_, ?_, ?_, ?_, ?_, ?_⟩ <;> first | omega | assumption | trivial | rfl)) (show (6 - x3_213.toInt).toNat < (6 - y3_197.toInt).toNat from by omega)
      · refine ok_o (sp_X9_add_ y1_164 (((c_t_cells >>> (y3_164 &&& 31)) &&& (1 : Int32)).toInt64) ) (fun r185 h15 => ?_)
        refine ok_bx (fun x3_189 e_x3_189 => ?_)
        try have t_x3_189 : x3_189.toInt = y3_164.toInt + 1 := by rw [e_x3_189]; exact addT1 (show (1 : Int32).toInt = 1 from by decide) (by omega) (by omega)
        exact hih7 r185 x3_189 (show 0 ≤ x3_189.toInt from by first | omega | assumption | trivial | (refine ⟨?_, ?_⟩ <;> first | omega | assumption | trivial | rfl) | (refine ⟨?_, ?_, ?_⟩ <;> first | omega | assumption | trivial | rfl) | (refine ⟨?_, ?_, ?_, ?_⟩ <;> first | omega | assumption | trivial | rfl) | (refine ⟨?_, ?_, ?_, ?_, ?_⟩ <;> first | omega | assumption | trivial | rfl) | (refine ⟨?_, ?_, ?_, ?_, ?_, ?_⟩ <;> first | omega | assumption | trivial | rfl) | (refine ⟨?_, ?_, ?_, ?_, ?_, ?_, ?_⟩ <;> first | omega | assumption | trivial | rfl) | (refine ⟨?_, ?_, ?_, ?_, ?_, ?_, ?_, ?_⟩ <;> first | omega | assumption | trivial | rfl)) (show (70 - x3_189.toInt).toNat < (70 - y3_164.toInt).toNat from by omega)
    · refine ok_c (ixo (by omega) (by omega)) ?_
      try have a16 := FA_at (f := f_t_roll) (by assumption) y3_111.toNatClampNeg
      refine ok_o (sp_X9_degreeOf (f_t_roll y3_111.toNatClampNeg) ) (fun r126 h17 => ?_)
      have h17 : r126.toInt = DG (f_t_roll y3_111.toNatClampNeg) ∧ -1 ≤ r126.toInt ∧ r126.toInt ≤ 63 := h17
      refine ok_o (sp_X9_add_ y1_111 r126.toInt64 ) (fun r130 h18 => ?_)
      refine ok_c (ixo (by omega) (by omega)) ?_
      try have a19 := FA_at (f := f_t_roll) (by assumption) y3_111.toNatClampNeg
      refine ok_o (sp_X9_onesOf (f_t_roll y3_111.toNatClampNeg) ) (fun r139 h20 => ?_)
      have h20 : 0 ≤ r139.toInt ∧ r139.toInt ≤ 127 := h20
      refine ok_o (sp_X9_add_ r130 r139.toInt64 ) (fun r143 h21 => ?_)
      refine ok_bx (fun x3_147 e_x3_147 => ?_)
      try have t_x3_147 : x3_147.toInt = y3_111.toInt + 1 := by rw [e_x3_147]; exact addT1 (show (1 : Int32).toInt = 1 from by decide) (by omega) (by omega)
      exact hih4 r143 x3_147 (show 0 ≤ x3_147.toInt from by first | omega | assumption | trivial | (refine ⟨?_, ?_⟩ <;> first | omega | assumption | trivial | rfl) | (refine ⟨?_, ?_, ?_⟩ <;> first | omega | assumption | trivial | rfl) | (refine ⟨?_, ?_, ?_, ?_⟩ <;> first | omega | assumption | trivial | rfl) | (refine ⟨?_, ?_, ?_, ?_, ?_⟩ <;> first | omega | assumption | trivial | rfl) | (refine ⟨?_, ?_, ?_, ?_, ?_, ?_⟩ <;> first | omega | assumption | trivial | rfl) | (refine ⟨?_, ?_, ?_, ?_, ?_, ?_, ?_⟩ <;> first | omega | assumption | trivial | rfl) | (refine ⟨?_, ?_, ?_, ?_, ?_, ?_, ?_, ?_⟩ <;> first | omega | assumption | trivial | rfl)) (show (c_t_many.toInt - x3_147.toInt + 1).toNat < (c_t_many.toInt - y3_111.toInt + 1).toNat from by omega)
  · refine ok_c (ixo (by omega) (by omega)) ?_
    try have a22 := FA_at (f := f_t_forms) (by assumption) y5_21.toNatClampNeg
    refine ok_bx (fun x6_32 e_x6_32 => ?_)
    try have q_x6_32 : DG x6_32 = DG (f_t_forms y5_21.toNatClampNeg) := by rw [e_x6_32]
    try have d_x6_32 : -1 ≤ DG x6_32 ∧ DG x6_32 ≤ 39 := by rw [e_x6_32]; exact FA_at (by assumption) _
    refine ok_o (sp_X9_degreeOf x6_32 ) (fun r37 h23 => ?_)
    have h23 : r37.toInt = DG x6_32 ∧ -1 ≤ r37.toInt ∧ r37.toInt ≤ 63 := h23
    refine ok_o (sp_X9_add_ y1_21 r37.toInt64 ) (fun r41 h24 => ?_)
    refine ok_o (sp_X9_lowestOf x6_32 ) (fun r46 h25 => ?_)
    refine ok_o (sp_X9_add_ r41 r46.toInt64 ) (fun r50 h26 => ?_)
    refine ok_L2 (fun y1_58 y8_58 => y8_58.toInt ≤ 64) (fun y1_58 y8_58 => (y8_58.toInt + 1).toNat) (fun ih58 y1_58 y8_58 hI27 hih27 => ?_) 20000 r50 (39 : Int32) (show (39 : Int32).toInt ≤ 64 from by first | omega | assumption | trivial | (refine ⟨?_, ?_⟩ <;> first | omega | assumption | trivial | rfl) | (refine ⟨?_, ?_, ?_⟩ <;> first | omega | assumption | trivial | rfl) | (refine ⟨?_, ?_, ?_, ?_⟩ <;> first | omega | assumption | trivial | rfl) | (refine ⟨?_, ?_, ?_, ?_, ?_⟩ <;> first | omega | assumption | trivial | rfl) | (refine ⟨?_, ?_, ?_, ?_, ?_, ?_⟩ <;> first | omega | assumption | trivial | rfl) | (refine ⟨?_, ?_, ?_, ?_, ?_, ?_, ?_⟩ <;> first | omega | assumption | trivial | rfl) | (refine ⟨?_, ?_, ?_, ?_, ?_, ?_, ?_, ?_⟩ <;> first | omega | assumption | trivial | rfl)) (show ((39 : Int32).toInt + 1).toNat < 20000 from by omega)
    have hI27 : y8_58.toInt ≤ 64 := hI27
    unfold S_X9_digest_58
    refine ok_lt (fun c28 => ?_) (fun c28 => ?_)
    · refine ok_bx (fun x5_93 e_x5_93 => ?_)
      try have t_x5_93 : x5_93.toInt = y5_21.toInt + 1 := by rw [e_x5_93]; exact addT1 (show (1 : Int32).toInt = 1 from by decide) (by omega) (by omega)
      exact hih1 y1_58 x5_93 (show 0 ≤ x5_93.toInt from by first | omega | assumption | trivial | (refine ⟨?_, ?_⟩ <;> first | omega | assumption | trivial | rfl) | (refine ⟨?_, ?_, ?_⟩ <;> first | omega | assumption | trivial | rfl) | (refine ⟨?_, ?_, ?_, ?_⟩ <;> first | omega | assumption | trivial | rfl) | (refine ⟨?_, ?_, ?_, ?_, ?_⟩ <;> first | omega | assumption | trivial | rfl) | (refine ⟨?_, ?_, ?_, ?_, ?_, ?_⟩ <;> first | omega | assumption | trivial | rfl) | (refine ⟨?_, ?_, ?_, ?_, ?_, ?_, ?_⟩ <;> first | omega | assumption | trivial | rfl) | (refine ⟨?_, ?_, ?_, ?_, ?_, ?_, ?_, ?_⟩ <;> first | omega | assumption | trivial | rfl)) (show (7 - x5_93.toInt).toNat < (7 - y5_21.toInt).toNat from by omega)
    · refine ok_eqL (fun c29 => ?_) (fun c29 => ?_)
      · refine ok_o (sp_X9_add_ y1_58 y8_58.toInt64 ) (fun r79 h30 => ?_)
        first | unfold J_X9_digest_86 | skip
        refine ok_bx (fun x8_87 e_x8_87 => ?_)
        try have t_x8_87 : x8_87.toInt = y8_58.toInt + (-1) := by rw [e_x8_87]; exact addT1 (show (-1 : Int32).toInt = -1 from by decide) (by omega) (by omega)
        exact hih27 r79 x8_87 (show x8_87.toInt ≤ 64 from by first | omega | assumption | trivial | (refine ⟨?_, ?_⟩ <;> first | omega | assumption | trivial | rfl) | (refine ⟨?_, ?_, ?_⟩ <;> first | omega | assumption | trivial | rfl) | (refine ⟨?_, ?_, ?_, ?_⟩ <;> first | omega | assumption | trivial | rfl) | (refine ⟨?_, ?_, ?_, ?_, ?_⟩ <;> first | omega | assumption | trivial | rfl) | (refine ⟨?_, ?_, ?_, ?_, ?_, ?_⟩ <;> first | omega | assumption | trivial | rfl) | (refine ⟨?_, ?_, ?_, ?_, ?_, ?_, ?_⟩ <;> first | omega | assumption | trivial | rfl) | (refine ⟨?_, ?_, ?_, ?_, ?_, ?_, ?_, ?_⟩ <;> first | omega | assumption | trivial | rfl)) (show (x8_87.toInt + 1).toNat < (y8_58.toInt + 1).toNat from by omega)
      · first | unfold J_X9_digest_86 | skip
        refine ok_bx (fun x8_87_2 e_x8_87_2 => ?_)
        try have t_x8_87_2 : x8_87_2.toInt = y8_58.toInt + (-1) := by rw [e_x8_87_2]; exact addT1 (show (-1 : Int32).toInt = -1 from by decide) (by omega) (by omega)
        exact hih27 y1_58 x8_87_2 (show x8_87_2.toInt ≤ 64 from by first | omega | assumption | trivial | (refine ⟨?_, ?_⟩ <;> first | omega | assumption | trivial | rfl) | (refine ⟨?_, ?_, ?_⟩ <;> first | omega | assumption | trivial | rfl) | (refine ⟨?_, ?_, ?_, ?_⟩ <;> first | omega | assumption | trivial | rfl) | (refine ⟨?_, ?_, ?_, ?_, ?_⟩ <;> first | omega | assumption | trivial | rfl) | (refine ⟨?_, ?_, ?_, ?_, ?_, ?_⟩ <;> first | omega | assumption | trivial | rfl) | (refine ⟨?_, ?_, ?_, ?_, ?_, ?_, ?_⟩ <;> first | omega | assumption | trivial | rfl) | (refine ⟨?_, ?_, ?_, ?_, ?_, ?_, ?_, ?_⟩ <;> first | omega | assumption | trivial | rfl)) (show (x8_87_2.toInt + 1).toNat < (y8_58.toInt + 1).toNat from by omega)
